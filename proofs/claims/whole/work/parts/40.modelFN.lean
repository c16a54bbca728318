abbrev b_Model_isGood : ByteArray := prog_9_method_38_code
def y_Model_isGood : MethodName := ⟨"BootMakerModel", "isGood", "(I)Z"⟩
def ws_Model_isGood : List Cond := Cond.code y_Model_isGood b_Model_isGood 7 (some .boolean) :: Wall
set_option maxRecDepth 100000 in
theorem cw_Model_isGood : Cond.code y_Model_isGood b_Model_isGood 7 (some .boolean) ∈ Wall := inW 1016 rfl rfl
abbrev b_Model_byTable : ByteArray := prog_9_method_39_code
def y_Model_byTable : MethodName := ⟨"BootMakerModel", "byTable", "()I"⟩
def ws_Model_byTable : List Cond := Cond.code y_Model_byTable b_Model_byTable 9 (some .int) :: Wall
set_option maxRecDepth 100000 in
theorem cw_Model_byTable : Cond.code y_Model_byTable b_Model_byTable 9 (some .int) ∈ Wall := inW 1012 rfl rfl
theorem d_Model_isGood_0 : decode b_Model_isGood 0 = .ok (.sipush 512, 3) := by decide +kernel
theorem d_Model_isGood_3 : decode b_Model_isGood 3 = .ok (.iload_n 1, 1) := by decide +kernel
theorem d_Model_isGood_4 : decode b_Model_isGood 4 = .ok (.imul, 1) := by decide +kernel
theorem d_Model_isGood_5 : decode b_Model_isGood 5 = .ok (.istore_n 2, 1) := by decide +kernel
theorem d_Model_isGood_6 : decode b_Model_isGood 6 = .ok (.aload_n 0, 1) := by decide +kernel
theorem d_Model_isGood_7 : decode b_Model_isGood 7 = .ok (.iload_n 2, 1) := by decide +kernel
theorem d_Model_isGood_8 : decode b_Model_isGood 8 = .ok (.invokevirtual 64, 3) := by decide +kernel
theorem d_Model_isGood_11 : decode b_Model_isGood 11 = .ok (.bipush 69, 2) := by decide +kernel
theorem d_Model_isGood_13 : decode b_Model_isGood 13 = .ok (.if_icmp .ne 93, 3) := by decide +kernel
theorem d_Model_isGood_16 : decode b_Model_isGood 16 = .ok (.aload_n 0, 1) := by decide +kernel
theorem d_Model_isGood_17 : decode b_Model_isGood 17 = .ok (.iload_n 2, 1) := by decide +kernel
theorem d_Model_isGood_18 : decode b_Model_isGood 18 = .ok (.iconst 1, 1) := by decide +kernel
theorem d_Model_isGood_19 : decode b_Model_isGood 19 = .ok (.iadd, 1) := by decide +kernel
theorem d_Model_isGood_20 : decode b_Model_isGood 20 = .ok (.invokevirtual 64, 3) := by decide +kernel
theorem d_Model_isGood_23 : decode b_Model_isGood 23 = .ok (.bipush 70, 2) := by decide +kernel
theorem d_Model_isGood_25 : decode b_Model_isGood 25 = .ok (.if_icmp .ne 81, 3) := by decide +kernel
theorem d_Model_isGood_28 : decode b_Model_isGood 28 = .ok (.aload_n 0, 1) := by decide +kernel
theorem d_Model_isGood_29 : decode b_Model_isGood 29 = .ok (.iload_n 2, 1) := by decide +kernel
theorem d_Model_isGood_30 : decode b_Model_isGood 30 = .ok (.iconst 2, 1) := by decide +kernel
theorem d_Model_isGood_31 : decode b_Model_isGood 31 = .ok (.iadd, 1) := by decide +kernel
theorem d_Model_isGood_32 : decode b_Model_isGood 32 = .ok (.invokevirtual 64, 3) := by decide +kernel
theorem d_Model_isGood_35 : decode b_Model_isGood 35 = .ok (.bipush 73, 2) := by decide +kernel
theorem d_Model_isGood_37 : decode b_Model_isGood 37 = .ok (.if_icmp .ne 69, 3) := by decide +kernel
theorem d_Model_isGood_40 : decode b_Model_isGood 40 = .ok (.aload_n 0, 1) := by decide +kernel
theorem d_Model_isGood_41 : decode b_Model_isGood 41 = .ok (.iload_n 2, 1) := by decide +kernel
theorem d_Model_isGood_42 : decode b_Model_isGood 42 = .ok (.iconst 3, 1) := by decide +kernel
theorem d_Model_isGood_43 : decode b_Model_isGood 43 = .ok (.iadd, 1) := by decide +kernel
theorem d_Model_isGood_44 : decode b_Model_isGood 44 = .ok (.invokevirtual 64, 3) := by decide +kernel
theorem d_Model_isGood_47 : decode b_Model_isGood 47 = .ok (.bipush 32, 2) := by decide +kernel
theorem d_Model_isGood_49 : decode b_Model_isGood 49 = .ok (.if_icmp .ne 57, 3) := by decide +kernel
theorem d_Model_isGood_52 : decode b_Model_isGood 52 = .ok (.aload_n 0, 1) := by decide +kernel
theorem d_Model_isGood_53 : decode b_Model_isGood 53 = .ok (.iload_n 2, 1) := by decide +kernel
theorem d_Model_isGood_54 : decode b_Model_isGood 54 = .ok (.iconst 4, 1) := by decide +kernel
theorem d_Model_isGood_55 : decode b_Model_isGood 55 = .ok (.iadd, 1) := by decide +kernel
theorem d_Model_isGood_56 : decode b_Model_isGood 56 = .ok (.invokevirtual 64, 3) := by decide +kernel
theorem d_Model_isGood_59 : decode b_Model_isGood 59 = .ok (.bipush 80, 2) := by decide +kernel
theorem d_Model_isGood_61 : decode b_Model_isGood 61 = .ok (.if_icmp .ne 45, 3) := by decide +kernel
theorem d_Model_isGood_64 : decode b_Model_isGood 64 = .ok (.aload_n 0, 1) := by decide +kernel
theorem d_Model_isGood_65 : decode b_Model_isGood 65 = .ok (.iload_n 2, 1) := by decide +kernel
theorem d_Model_isGood_66 : decode b_Model_isGood 66 = .ok (.iconst 5, 1) := by decide +kernel
theorem d_Model_isGood_67 : decode b_Model_isGood 67 = .ok (.iadd, 1) := by decide +kernel
theorem d_Model_isGood_68 : decode b_Model_isGood 68 = .ok (.invokevirtual 64, 3) := by decide +kernel
theorem d_Model_isGood_71 : decode b_Model_isGood 71 = .ok (.bipush 65, 2) := by decide +kernel
theorem d_Model_isGood_73 : decode b_Model_isGood 73 = .ok (.if_icmp .ne 33, 3) := by decide +kernel
theorem d_Model_isGood_76 : decode b_Model_isGood 76 = .ok (.aload_n 0, 1) := by decide +kernel
theorem d_Model_isGood_77 : decode b_Model_isGood 77 = .ok (.iload_n 2, 1) := by decide +kernel
theorem d_Model_isGood_78 : decode b_Model_isGood 78 = .ok (.bipush 6, 2) := by decide +kernel
theorem d_Model_isGood_80 : decode b_Model_isGood 80 = .ok (.iadd, 1) := by decide +kernel
theorem d_Model_isGood_81 : decode b_Model_isGood 81 = .ok (.invokevirtual 64, 3) := by decide +kernel
theorem d_Model_isGood_84 : decode b_Model_isGood 84 = .ok (.bipush 82, 2) := by decide +kernel
theorem d_Model_isGood_86 : decode b_Model_isGood 86 = .ok (.if_icmp .ne 20, 3) := by decide +kernel
theorem d_Model_isGood_89 : decode b_Model_isGood 89 = .ok (.aload_n 0, 1) := by decide +kernel
theorem d_Model_isGood_90 : decode b_Model_isGood 90 = .ok (.iload_n 2, 1) := by decide +kernel
theorem d_Model_isGood_91 : decode b_Model_isGood 91 = .ok (.bipush 7, 2) := by decide +kernel
theorem d_Model_isGood_93 : decode b_Model_isGood 93 = .ok (.iadd, 1) := by decide +kernel
theorem d_Model_isGood_94 : decode b_Model_isGood 94 = .ok (.invokevirtual 64, 3) := by decide +kernel
theorem d_Model_isGood_97 : decode b_Model_isGood 97 = .ok (.bipush 84, 2) := by decide +kernel
theorem d_Model_isGood_99 : decode b_Model_isGood 99 = .ok (.if_icmp .ne 7, 3) := by decide +kernel
theorem d_Model_isGood_102 : decode b_Model_isGood 102 = .ok (.iconst 1, 1) := by decide +kernel
theorem d_Model_isGood_103 : decode b_Model_isGood 103 = .ok (.goto 4, 3) := by decide +kernel
theorem d_Model_isGood_106 : decode b_Model_isGood 106 = .ok (.iconst 0, 1) := by decide +kernel
theorem d_Model_isGood_107 : decode b_Model_isGood 107 = .ok (.istore_n 3, 1) := by decide +kernel
theorem d_Model_isGood_108 : decode b_Model_isGood 108 = .ok (.iload_n 3, 1) := by decide +kernel
theorem d_Model_isGood_109 : decode b_Model_isGood 109 = .ok (.ifCond .eq 71, 3) := by decide +kernel
theorem d_Model_isGood_112 : decode b_Model_isGood 112 = .ok (.aload_n 0, 1) := by decide +kernel
theorem d_Model_isGood_113 : decode b_Model_isGood 113 = .ok (.iload_n 2, 1) := by decide +kernel
theorem d_Model_isGood_114 : decode b_Model_isGood 114 = .ok (.bipush 12, 2) := by decide +kernel
theorem d_Model_isGood_116 : decode b_Model_isGood 116 = .ok (.iadd, 1) := by decide +kernel
theorem d_Model_isGood_117 : decode b_Model_isGood 117 = .ok (.iconst 4, 1) := by decide +kernel
theorem d_Model_isGood_118 : decode b_Model_isGood 118 = .ok (.invokevirtual 162, 3) := by decide +kernel
theorem d_Model_isGood_121 : decode b_Model_isGood 121 = .ok (.ldc2_w 184, 3) := by decide +kernel
theorem d_Model_isGood_124 : decode b_Model_isGood 124 = .ok (.lcmp, 1) := by decide +kernel
theorem d_Model_isGood_125 : decode b_Model_isGood 125 = .ok (.ifCond .ne 55, 3) := by decide +kernel
theorem d_Model_isGood_128 : decode b_Model_isGood 128 = .ok (.aload_n 0, 1) := by decide +kernel
theorem d_Model_isGood_129 : decode b_Model_isGood 129 = .ok (.iload_n 2, 1) := by decide +kernel
theorem d_Model_isGood_130 : decode b_Model_isGood 130 = .ok (.bipush 24, 2) := by decide +kernel
theorem d_Model_isGood_132 : decode b_Model_isGood 132 = .ok (.iadd, 1) := by decide +kernel
theorem d_Model_isGood_133 : decode b_Model_isGood 133 = .ok (.bipush 8, 2) := by decide +kernel
theorem d_Model_isGood_135 : decode b_Model_isGood 135 = .ok (.invokevirtual 162, 3) := by decide +kernel
theorem d_Model_isGood_138 : decode b_Model_isGood 138 = .ok (.iload_n 1, 1) := by decide +kernel
theorem d_Model_isGood_139 : decode b_Model_isGood 139 = .ok (.i2l, 1) := by decide +kernel
theorem d_Model_isGood_140 : decode b_Model_isGood 140 = .ok (.lcmp, 1) := by decide +kernel
theorem d_Model_isGood_141 : decode b_Model_isGood 141 = .ok (.ifCond .ne 39, 3) := by decide +kernel
theorem d_Model_isGood_144 : decode b_Model_isGood 144 = .ok (.aload_n 0, 1) := by decide +kernel
theorem d_Model_isGood_145 : decode b_Model_isGood 145 = .ok (.iload_n 2, 1) := by decide +kernel
theorem d_Model_isGood_146 : decode b_Model_isGood 146 = .ok (.bipush 80, 2) := by decide +kernel
theorem d_Model_isGood_148 : decode b_Model_isGood 148 = .ok (.iadd, 1) := by decide +kernel
theorem d_Model_isGood_149 : decode b_Model_isGood 149 = .ok (.iconst 4, 1) := by decide +kernel
theorem d_Model_isGood_150 : decode b_Model_isGood 150 = .ok (.invokevirtual 162, 3) := by decide +kernel
theorem d_Model_isGood_153 : decode b_Model_isGood 153 = .ok (.ldc2_w 190, 3) := by decide +kernel
theorem d_Model_isGood_156 : decode b_Model_isGood 156 = .ok (.lcmp, 1) := by decide +kernel
theorem d_Model_isGood_157 : decode b_Model_isGood 157 = .ok (.ifCond .ne 23, 3) := by decide +kernel
theorem d_Model_isGood_160 : decode b_Model_isGood 160 = .ok (.aload_n 0, 1) := by decide +kernel
theorem d_Model_isGood_161 : decode b_Model_isGood 161 = .ok (.iload_n 2, 1) := by decide +kernel
theorem d_Model_isGood_162 : decode b_Model_isGood 162 = .ok (.bipush 84, 2) := by decide +kernel
theorem d_Model_isGood_164 : decode b_Model_isGood 164 = .ok (.iadd, 1) := by decide +kernel
theorem d_Model_isGood_165 : decode b_Model_isGood 165 = .ok (.iconst 4, 1) := by decide +kernel
theorem d_Model_isGood_166 : decode b_Model_isGood 166 = .ok (.invokevirtual 162, 3) := by decide +kernel
theorem d_Model_isGood_169 : decode b_Model_isGood 169 = .ok (.ldc2_w 190, 3) := by decide +kernel
theorem d_Model_isGood_172 : decode b_Model_isGood 172 = .ok (.lcmp, 1) := by decide +kernel
theorem d_Model_isGood_173 : decode b_Model_isGood 173 = .ok (.ifCond .ne 7, 3) := by decide +kernel
theorem d_Model_isGood_176 : decode b_Model_isGood 176 = .ok (.iconst 1, 1) := by decide +kernel
theorem d_Model_isGood_177 : decode b_Model_isGood 177 = .ok (.goto 4, 3) := by decide +kernel
theorem d_Model_isGood_180 : decode b_Model_isGood 180 = .ok (.iconst 0, 1) := by decide +kernel
theorem d_Model_isGood_181 : decode b_Model_isGood 181 = .ok (.istore_n 3, 1) := by decide +kernel
theorem d_Model_isGood_182 : decode b_Model_isGood 182 = .ok (.iconst (-1), 1) := by decide +kernel
theorem d_Model_isGood_183 : decode b_Model_isGood 183 = .ok (.istore 4, 2) := by decide +kernel
theorem d_Model_isGood_185 : decode b_Model_isGood 185 = .ok (.iconst 0, 1) := by decide +kernel
theorem d_Model_isGood_186 : decode b_Model_isGood 186 = .ok (.istore 5, 2) := by decide +kernel
theorem d_Model_isGood_188 : decode b_Model_isGood 188 = .ok (.iload 5, 2) := by decide +kernel
theorem d_Model_isGood_190 : decode b_Model_isGood 190 = .ok (.bipush 92, 2) := by decide +kernel
theorem d_Model_isGood_192 : decode b_Model_isGood 192 = .ok (.if_icmp .ge 40, 3) := by decide +kernel
theorem d_Model_isGood_195 : decode b_Model_isGood 195 = .ok (.iload 4, 2) := by decide +kernel
theorem d_Model_isGood_197 : decode b_Model_isGood 197 = .ok (.iload 5, 2) := by decide +kernel
theorem d_Model_isGood_199 : decode b_Model_isGood 199 = .ok (.bipush 16, 2) := by decide +kernel
theorem d_Model_isGood_201 : decode b_Model_isGood 201 = .ok (.bipush 19, 2) := by decide +kernel
theorem d_Model_isGood_203 : decode b_Model_isGood 203 = .ok (.invokestatic 73, 3) := by decide +kernel
theorem d_Model_isGood_206 : decode b_Model_isGood 206 = .ok (.ifCond .eq 7, 3) := by decide +kernel
theorem d_Model_isGood_209 : decode b_Model_isGood 209 = .ok (.iconst 0, 1) := by decide +kernel
theorem d_Model_isGood_210 : decode b_Model_isGood 210 = .ok (.goto 11, 3) := by decide +kernel
theorem d_Model_isGood_213 : decode b_Model_isGood 213 = .ok (.aload_n 0, 1) := by decide +kernel
theorem d_Model_isGood_214 : decode b_Model_isGood 214 = .ok (.iload_n 2, 1) := by decide +kernel
theorem d_Model_isGood_215 : decode b_Model_isGood 215 = .ok (.iload 5, 2) := by decide +kernel
theorem d_Model_isGood_217 : decode b_Model_isGood 217 = .ok (.iadd, 1) := by decide +kernel
theorem d_Model_isGood_218 : decode b_Model_isGood 218 = .ok (.invokevirtual 64, 3) := by decide +kernel
theorem d_Model_isGood_221 : decode b_Model_isGood 221 = .ok (.invokestatic 69, 3) := by decide +kernel
theorem d_Model_isGood_224 : decode b_Model_isGood 224 = .ok (.istore 4, 2) := by decide +kernel
theorem d_Model_isGood_226 : decode b_Model_isGood 226 = .ok (.iinc 5 1, 3) := by decide +kernel
theorem d_Model_isGood_229 : decode b_Model_isGood 229 = .ok (.goto (-41), 3) := by decide +kernel
theorem d_Model_isGood_232 : decode b_Model_isGood 232 = .ok (.aload_n 0, 1) := by decide +kernel
theorem d_Model_isGood_233 : decode b_Model_isGood 233 = .ok (.iload_n 2, 1) := by decide +kernel
theorem d_Model_isGood_234 : decode b_Model_isGood 234 = .ok (.bipush 72, 2) := by decide +kernel
theorem d_Model_isGood_236 : decode b_Model_isGood 236 = .ok (.iadd, 1) := by decide +kernel
theorem d_Model_isGood_237 : decode b_Model_isGood 237 = .ok (.bipush 8, 2) := by decide +kernel
theorem d_Model_isGood_239 : decode b_Model_isGood 239 = .ok (.invokevirtual 162, 3) := by decide +kernel
theorem d_Model_isGood_242 : decode b_Model_isGood 242 = .ok (.lstore 5, 2) := by decide +kernel
theorem d_Model_isGood_244 : decode b_Model_isGood 244 = .ok (.iload_n 3, 1) := by decide +kernel
theorem d_Model_isGood_245 : decode b_Model_isGood 245 = .ok (.ifCond .eq 41, 3) := by decide +kernel
theorem d_Model_isGood_248 : decode b_Model_isGood 248 = .ok (.aload_n 0, 1) := by decide +kernel
theorem d_Model_isGood_249 : decode b_Model_isGood 249 = .ok (.iload_n 2, 1) := by decide +kernel
theorem d_Model_isGood_250 : decode b_Model_isGood 250 = .ok (.bipush 16, 2) := by decide +kernel
theorem d_Model_isGood_252 : decode b_Model_isGood 252 = .ok (.iadd, 1) := by decide +kernel
theorem d_Model_isGood_253 : decode b_Model_isGood 253 = .ok (.iconst 4, 1) := by decide +kernel
theorem d_Model_isGood_254 : decode b_Model_isGood 254 = .ok (.invokevirtual 162, 3) := by decide +kernel
theorem d_Model_isGood_257 : decode b_Model_isGood 257 = .ok (.l2i, 1) := by decide +kernel
theorem d_Model_isGood_258 : decode b_Model_isGood 258 = .ok (.iload 4, 2) := by decide +kernel
theorem d_Model_isGood_260 : decode b_Model_isGood 260 = .ok (.iconst (-1), 1) := by decide +kernel
theorem d_Model_isGood_261 : decode b_Model_isGood 261 = .ok (.ixor, 1) := by decide +kernel
theorem d_Model_isGood_262 : decode b_Model_isGood 262 = .ok (.if_icmp .ne 24, 3) := by decide +kernel
theorem d_Model_isGood_265 : decode b_Model_isGood 265 = .ok (.lload 5, 2) := by decide +kernel
theorem d_Model_isGood_267 : decode b_Model_isGood 267 = .ok (.lconst 0, 1) := by decide +kernel
theorem d_Model_isGood_268 : decode b_Model_isGood 268 = .ok (.lcmp, 1) := by decide +kernel
theorem d_Model_isGood_269 : decode b_Model_isGood 269 = .ok (.ifCond .lt 17, 3) := by decide +kernel
theorem d_Model_isGood_272 : decode b_Model_isGood 272 = .ok (.lload 5, 2) := by decide +kernel
theorem d_Model_isGood_274 : decode b_Model_isGood 274 = .ok (.aload_n 0, 1) := by decide +kernel
theorem d_Model_isGood_275 : decode b_Model_isGood 275 = .ok (.getfield 48, 3) := by decide +kernel
theorem d_Model_isGood_278 : decode b_Model_isGood 278 = .ok (.bipush 32, 2) := by decide +kernel
theorem d_Model_isGood_280 : decode b_Model_isGood 280 = .ok (.isub, 1) := by decide +kernel
theorem d_Model_isGood_281 : decode b_Model_isGood 281 = .ok (.i2l, 1) := by decide +kernel
theorem d_Model_isGood_282 : decode b_Model_isGood 282 = .ok (.lcmp, 1) := by decide +kernel
theorem d_Model_isGood_283 : decode b_Model_isGood 283 = .ok (.ifCond .le 5, 3) := by decide +kernel
theorem d_Model_isGood_286 : decode b_Model_isGood 286 = .ok (.iconst 0, 1) := by decide +kernel
theorem d_Model_isGood_287 : decode b_Model_isGood 287 = .ok (.ireturn, 1) := by decide +kernel
theorem d_Model_isGood_288 : decode b_Model_isGood 288 = .ok (.aload_n 0, 1) := by decide +kernel
theorem d_Model_isGood_289 : decode b_Model_isGood 289 = .ok (.iload_n 2, 1) := by decide +kernel
theorem d_Model_isGood_290 : decode b_Model_isGood 290 = .ok (.bipush 88, 2) := by decide +kernel
theorem d_Model_isGood_292 : decode b_Model_isGood 292 = .ok (.iadd, 1) := by decide +kernel
theorem d_Model_isGood_293 : decode b_Model_isGood 293 = .ok (.iconst 4, 1) := by decide +kernel
theorem d_Model_isGood_294 : decode b_Model_isGood 294 = .ok (.invokevirtual 162, 3) := by decide +kernel
theorem d_Model_isGood_297 : decode b_Model_isGood 297 = .ok (.l2i, 1) := by decide +kernel
theorem d_Model_isGood_298 : decode b_Model_isGood 298 = .ok (.aload_n 0, 1) := by decide +kernel
theorem d_Model_isGood_299 : decode b_Model_isGood 299 = .ok (.sipush 512, 3) := by decide +kernel
theorem d_Model_isGood_302 : decode b_Model_isGood 302 = .ok (.lload 5, 2) := by decide +kernel
theorem d_Model_isGood_304 : decode b_Model_isGood 304 = .ok (.l2i, 1) := by decide +kernel
theorem d_Model_isGood_305 : decode b_Model_isGood 305 = .ok (.imul, 1) := by decide +kernel
theorem d_Model_isGood_306 : decode b_Model_isGood 306 = .ok (.sipush 16384, 3) := by decide +kernel
theorem d_Model_isGood_309 : decode b_Model_isGood 309 = .ok (.invokevirtual 79, 3) := by decide +kernel
theorem d_Model_isGood_312 : decode b_Model_isGood 312 = .ok (.if_icmp .ne 7, 3) := by decide +kernel
theorem d_Model_isGood_315 : decode b_Model_isGood 315 = .ok (.iconst 1, 1) := by decide +kernel
theorem d_Model_isGood_316 : decode b_Model_isGood 316 = .ok (.goto 4, 3) := by decide +kernel
theorem d_Model_isGood_319 : decode b_Model_isGood 319 = .ok (.iconst 0, 1) := by decide +kernel
theorem d_Model_isGood_320 : decode b_Model_isGood 320 = .ok (.ireturn, 1) := by decide +kernel
theorem d_Model_byTable_0 : decode b_Model_byTable 0 = .ok (.aload_n 0, 1) := by decide +kernel
theorem d_Model_byTable_1 : decode b_Model_byTable 1 = .ok (.sipush 450, 3) := by decide +kernel
theorem d_Model_byTable_4 : decode b_Model_byTable 4 = .ok (.invokevirtual 64, 3) := by decide +kernel
theorem d_Model_byTable_7 : decode b_Model_byTable 7 = .ok (.sipush 238, 3) := by decide +kernel
theorem d_Model_byTable_10 : decode b_Model_byTable 10 = .ok (.if_icmp .eq 5, 3) := by decide +kernel
theorem d_Model_byTable_13 : decode b_Model_byTable 13 = .ok (.iconst 2, 1) := by decide +kernel
theorem d_Model_byTable_14 : decode b_Model_byTable 14 = .ok (.ireturn, 1) := by decide +kernel
theorem d_Model_byTable_15 : decode b_Model_byTable 15 = .ok (.aload_n 0, 1) := by decide +kernel
theorem d_Model_byTable_16 : decode b_Model_byTable 16 = .ok (.aload_n 0, 1) := by decide +kernel
theorem d_Model_byTable_17 : decode b_Model_byTable 17 = .ok (.iconst 1, 1) := by decide +kernel
theorem d_Model_byTable_18 : decode b_Model_byTable 18 = .ok (.invokevirtual 227, 3) := by decide +kernel
theorem d_Model_byTable_21 : decode b_Model_byTable 21 = .ok (.ifCond .eq 7, 3) := by decide +kernel
theorem d_Model_byTable_24 : decode b_Model_byTable 24 = .ok (.iconst 1, 1) := by decide +kernel
theorem d_Model_byTable_25 : decode b_Model_byTable 25 = .ok (.goto 21, 3) := by decide +kernel
theorem d_Model_byTable_28 : decode b_Model_byTable 28 = .ok (.aload_n 0, 1) := by decide +kernel
theorem d_Model_byTable_29 : decode b_Model_byTable 29 = .ok (.aload_n 0, 1) := by decide +kernel
theorem d_Model_byTable_30 : decode b_Model_byTable 30 = .ok (.getfield 48, 3) := by decide +kernel
theorem d_Model_byTable_33 : decode b_Model_byTable 33 = .ok (.iconst 1, 1) := by decide +kernel
theorem d_Model_byTable_34 : decode b_Model_byTable 34 = .ok (.isub, 1) := by decide +kernel
theorem d_Model_byTable_35 : decode b_Model_byTable 35 = .ok (.invokevirtual 227, 3) := by decide +kernel
theorem d_Model_byTable_38 : decode b_Model_byTable 38 = .ok (.ifCond .eq 7, 3) := by decide +kernel
theorem d_Model_byTable_41 : decode b_Model_byTable 41 = .ok (.iconst 2, 1) := by decide +kernel
theorem d_Model_byTable_42 : decode b_Model_byTable 42 = .ok (.goto 4, 3) := by decide +kernel
theorem d_Model_byTable_45 : decode b_Model_byTable 45 = .ok (.iconst 0, 1) := by decide +kernel
theorem d_Model_byTable_46 : decode b_Model_byTable 46 = .ok (.putfield 215, 3) := by decide +kernel
theorem d_Model_byTable_49 : decode b_Model_byTable 49 = .ok (.aload_n 0, 1) := by decide +kernel
theorem d_Model_byTable_50 : decode b_Model_byTable 50 = .ok (.getfield 215, 3) := by decide +kernel
theorem d_Model_byTable_53 : decode b_Model_byTable 53 = .ok (.ifCond .ne 5, 3) := by decide +kernel
theorem d_Model_byTable_56 : decode b_Model_byTable 56 = .ok (.iconst 3, 1) := by decide +kernel
theorem d_Model_byTable_57 : decode b_Model_byTable 57 = .ok (.ireturn, 1) := by decide +kernel
theorem d_Model_byTable_58 : decode b_Model_byTable 58 = .ok (.sipush 512, 3) := by decide +kernel
theorem d_Model_byTable_61 : decode b_Model_byTable 61 = .ok (.aload_n 0, 1) := by decide +kernel
theorem d_Model_byTable_62 : decode b_Model_byTable 62 = .ok (.sipush 512, 3) := by decide +kernel
theorem d_Model_byTable_65 : decode b_Model_byTable 65 = .ok (.aload_n 0, 1) := by decide +kernel
theorem d_Model_byTable_66 : decode b_Model_byTable 66 = .ok (.getfield 215, 3) := by decide +kernel
theorem d_Model_byTable_69 : decode b_Model_byTable 69 = .ok (.iconst 1, 1) := by decide +kernel
theorem d_Model_byTable_70 : decode b_Model_byTable 70 = .ok (.if_icmp .ne 7, 3) := by decide +kernel
theorem d_Model_byTable_73 : decode b_Model_byTable 73 = .ok (.iconst 1, 1) := by decide +kernel
theorem d_Model_byTable_74 : decode b_Model_byTable 74 = .ok (.goto 9, 3) := by decide +kernel
theorem d_Model_byTable_77 : decode b_Model_byTable 77 = .ok (.aload_n 0, 1) := by decide +kernel
theorem d_Model_byTable_78 : decode b_Model_byTable 78 = .ok (.getfield 48, 3) := by decide +kernel
theorem d_Model_byTable_81 : decode b_Model_byTable 81 = .ok (.iconst 1, 1) := by decide +kernel
theorem d_Model_byTable_82 : decode b_Model_byTable 82 = .ok (.isub, 1) := by decide +kernel
theorem d_Model_byTable_83 : decode b_Model_byTable 83 = .ok (.imul, 1) := by decide +kernel
theorem d_Model_byTable_84 : decode b_Model_byTable 84 = .ok (.bipush 72, 2) := by decide +kernel
theorem d_Model_byTable_86 : decode b_Model_byTable 86 = .ok (.iadd, 1) := by decide +kernel
theorem d_Model_byTable_87 : decode b_Model_byTable 87 = .ok (.bipush 8, 2) := by decide +kernel
theorem d_Model_byTable_89 : decode b_Model_byTable 89 = .ok (.invokevirtual 162, 3) := by decide +kernel
theorem d_Model_byTable_92 : decode b_Model_byTable 92 = .ok (.l2i, 1) := by decide +kernel
theorem d_Model_byTable_93 : decode b_Model_byTable 93 = .ok (.imul, 1) := by decide +kernel
theorem d_Model_byTable_94 : decode b_Model_byTable 94 = .ok (.istore_n 1, 1) := by decide +kernel
theorem d_Model_byTable_95 : decode b_Model_byTable 95 = .ok (.iconst 0, 1) := by decide +kernel
theorem d_Model_byTable_96 : decode b_Model_byTable 96 = .ok (.istore_n 2, 1) := by decide +kernel
theorem d_Model_byTable_97 : decode b_Model_byTable 97 = .ok (.iload_n 2, 1) := by decide +kernel
theorem d_Model_byTable_98 : decode b_Model_byTable 98 = .ok (.sipush 128, 3) := by decide +kernel
theorem d_Model_byTable_101 : decode b_Model_byTable 101 = .ok (.if_icmp .ge 139, 3) := by decide +kernel
theorem d_Model_byTable_104 : decode b_Model_byTable 104 = .ok (.iload_n 1, 1) := by decide +kernel
theorem d_Model_byTable_105 : decode b_Model_byTable 105 = .ok (.sipush 128, 3) := by decide +kernel
theorem d_Model_byTable_108 : decode b_Model_byTable 108 = .ok (.iload_n 2, 1) := by decide +kernel
theorem d_Model_byTable_109 : decode b_Model_byTable 109 = .ok (.imul, 1) := by decide +kernel
theorem d_Model_byTable_110 : decode b_Model_byTable 110 = .ok (.iadd, 1) := by decide +kernel
theorem d_Model_byTable_111 : decode b_Model_byTable 111 = .ok (.istore_n 3, 1) := by decide +kernel
theorem d_Model_byTable_112 : decode b_Model_byTable 112 = .ok (.iconst 1, 1) := by decide +kernel
theorem d_Model_byTable_113 : decode b_Model_byTable 113 = .ok (.istore 4, 2) := by decide +kernel
theorem d_Model_byTable_115 : decode b_Model_byTable 115 = .ok (.iconst 0, 1) := by decide +kernel
theorem d_Model_byTable_116 : decode b_Model_byTable 116 = .ok (.istore 5, 2) := by decide +kernel
theorem d_Model_byTable_118 : decode b_Model_byTable 118 = .ok (.iload 5, 2) := by decide +kernel
theorem d_Model_byTable_120 : decode b_Model_byTable 120 = .ok (.bipush 16, 2) := by decide +kernel
theorem d_Model_byTable_122 : decode b_Model_byTable 122 = .ok (.if_icmp .ge 38, 3) := by decide +kernel
theorem d_Model_byTable_125 : decode b_Model_byTable 125 = .ok (.iload 4, 2) := by decide +kernel
theorem d_Model_byTable_127 : decode b_Model_byTable 127 = .ok (.ifCond .eq 24, 3) := by decide +kernel
theorem d_Model_byTable_130 : decode b_Model_byTable 130 = .ok (.aload_n 0, 1) := by decide +kernel
theorem d_Model_byTable_131 : decode b_Model_byTable 131 = .ok (.iload_n 3, 1) := by decide +kernel
theorem d_Model_byTable_132 : decode b_Model_byTable 132 = .ok (.iload 5, 2) := by decide +kernel
theorem d_Model_byTable_134 : decode b_Model_byTable 134 = .ok (.iadd, 1) := by decide +kernel
theorem d_Model_byTable_135 : decode b_Model_byTable 135 = .ok (.invokevirtual 64, 3) := by decide +kernel
theorem d_Model_byTable_138 : decode b_Model_byTable 138 = .ok (.iconst 0, 1) := by decide +kernel
theorem d_Model_byTable_139 : decode b_Model_byTable 139 = .ok (.iload 5, 2) := by decide +kernel
theorem d_Model_byTable_141 : decode b_Model_byTable 141 = .ok (.invokestatic 181, 3) := by decide +kernel
theorem d_Model_byTable_144 : decode b_Model_byTable 144 = .ok (.if_icmp .ne 7, 3) := by decide +kernel
theorem d_Model_byTable_147 : decode b_Model_byTable 147 = .ok (.iconst 1, 1) := by decide +kernel
theorem d_Model_byTable_148 : decode b_Model_byTable 148 = .ok (.goto 4, 3) := by decide +kernel
theorem d_Model_byTable_151 : decode b_Model_byTable 151 = .ok (.iconst 0, 1) := by decide +kernel
theorem d_Model_byTable_152 : decode b_Model_byTable 152 = .ok (.istore 4, 2) := by decide +kernel
theorem d_Model_byTable_154 : decode b_Model_byTable 154 = .ok (.iinc 5 1, 3) := by decide +kernel
theorem d_Model_byTable_157 : decode b_Model_byTable 157 = .ok (.goto (-39), 3) := by decide +kernel
theorem d_Model_byTable_160 : decode b_Model_byTable 160 = .ok (.aload_n 0, 1) := by decide +kernel
theorem d_Model_byTable_161 : decode b_Model_byTable 161 = .ok (.iload_n 3, 1) := by decide +kernel
theorem d_Model_byTable_162 : decode b_Model_byTable 162 = .ok (.bipush 32, 2) := by decide +kernel
theorem d_Model_byTable_164 : decode b_Model_byTable 164 = .ok (.iadd, 1) := by decide +kernel
theorem d_Model_byTable_165 : decode b_Model_byTable 165 = .ok (.bipush 8, 2) := by decide +kernel
theorem d_Model_byTable_167 : decode b_Model_byTable 167 = .ok (.invokevirtual 162, 3) := by decide +kernel
theorem d_Model_byTable_170 : decode b_Model_byTable 170 = .ok (.lstore 5, 2) := by decide +kernel
theorem d_Model_byTable_172 : decode b_Model_byTable 172 = .ok (.aload_n 0, 1) := by decide +kernel
theorem d_Model_byTable_173 : decode b_Model_byTable 173 = .ok (.iload_n 3, 1) := by decide +kernel
theorem d_Model_byTable_174 : decode b_Model_byTable 174 = .ok (.bipush 40, 2) := by decide +kernel
theorem d_Model_byTable_176 : decode b_Model_byTable 176 = .ok (.iadd, 1) := by decide +kernel
theorem d_Model_byTable_177 : decode b_Model_byTable 177 = .ok (.bipush 8, 2) := by decide +kernel
theorem d_Model_byTable_179 : decode b_Model_byTable 179 = .ok (.invokevirtual 162, 3) := by decide +kernel
theorem d_Model_byTable_182 : decode b_Model_byTable 182 = .ok (.lstore 7, 2) := by decide +kernel
theorem d_Model_byTable_184 : decode b_Model_byTable 184 = .ok (.iload 4, 2) := by decide +kernel
theorem d_Model_byTable_186 : decode b_Model_byTable 186 = .ok (.ifCond .eq 48, 3) := by decide +kernel
theorem d_Model_byTable_189 : decode b_Model_byTable 189 = .ok (.lload 5, 2) := by decide +kernel
theorem d_Model_byTable_191 : decode b_Model_byTable 191 = .ok (.lconst 0, 1) := by decide +kernel
theorem d_Model_byTable_192 : decode b_Model_byTable 192 = .ok (.lcmp, 1) := by decide +kernel
theorem d_Model_byTable_193 : decode b_Model_byTable 193 = .ok (.ifCond .lt 41, 3) := by decide +kernel
theorem d_Model_byTable_196 : decode b_Model_byTable 196 = .ok (.lload 7, 2) := by decide +kernel
theorem d_Model_byTable_198 : decode b_Model_byTable 198 = .ok (.lconst 0, 1) := by decide +kernel
theorem d_Model_byTable_199 : decode b_Model_byTable 199 = .ok (.lcmp, 1) := by decide +kernel
theorem d_Model_byTable_200 : decode b_Model_byTable 200 = .ok (.ifCond .lt 34, 3) := by decide +kernel
theorem d_Model_byTable_203 : decode b_Model_byTable 203 = .ok (.lload 5, 2) := by decide +kernel
theorem d_Model_byTable_205 : decode b_Model_byTable 205 = .ok (.lload 7, 2) := by decide +kernel
theorem d_Model_byTable_207 : decode b_Model_byTable 207 = .ok (.lcmp, 1) := by decide +kernel
theorem d_Model_byTable_208 : decode b_Model_byTable 208 = .ok (.ifCond .gt 26, 3) := by decide +kernel
theorem d_Model_byTable_211 : decode b_Model_byTable 211 = .ok (.lload 7, 2) := by decide +kernel
theorem d_Model_byTable_213 : decode b_Model_byTable 213 = .ok (.aload_n 0, 1) := by decide +kernel
theorem d_Model_byTable_214 : decode b_Model_byTable 214 = .ok (.getfield 48, 3) := by decide +kernel
theorem d_Model_byTable_217 : decode b_Model_byTable 217 = .ok (.i2l, 1) := by decide +kernel
theorem d_Model_byTable_218 : decode b_Model_byTable 218 = .ok (.lcmp, 1) := by decide +kernel
theorem d_Model_byTable_219 : decode b_Model_byTable 219 = .ok (.ifCond .lt 6, 3) := by decide +kernel
theorem d_Model_byTable_222 : decode b_Model_byTable 222 = .ok (.goto 12, 3) := by decide +kernel
theorem d_Model_byTable_225 : decode b_Model_byTable 225 = .ok (.aload_n 0, 1) := by decide +kernel
theorem d_Model_byTable_226 : decode b_Model_byTable 226 = .ok (.lload 5, 2) := by decide +kernel
theorem d_Model_byTable_228 : decode b_Model_byTable 228 = .ok (.l2i, 1) := by decide +kernel
theorem d_Model_byTable_229 : decode b_Model_byTable 229 = .ok (.putfield 52, 3) := by decide +kernel
theorem d_Model_byTable_232 : decode b_Model_byTable 232 = .ok (.iconst 0, 1) := by decide +kernel
theorem d_Model_byTable_233 : decode b_Model_byTable 233 = .ok (.ireturn, 1) := by decide +kernel
theorem d_Model_byTable_234 : decode b_Model_byTable 234 = .ok (.iinc 2 1, 3) := by decide +kernel
theorem d_Model_byTable_237 : decode b_Model_byTable 237 = .ok (.goto (-140), 3) := by decide +kernel
theorem d_Model_byTable_240 : decode b_Model_byTable 240 = .ok (.iconst 4, 1) := by decide +kernel
theorem d_Model_byTable_241 : decode b_Model_byTable 241 = .ok (.ireturn, 1) := by decide +kernel
set_option maxRecDepth 100000 in
theorem fg_Model_215 : FlG Wall classes R_Model 215 7 18 := ⟨_, _, _, rfl, by decide, in_Model, inW 800 rfl rfl⟩
set_option maxRecDepth 100000 in
theorem fp_Model_215 : FlP Wall classes R_Model 215 7 18 .int := ⟨_, _, _, t_Model, rfl, by decide, in_Model, inW 800 rfl rfl, t_Model_ok, n_Model, rfl, by decide +kernel⟩
set_option maxRecDepth 100000 in
theorem fg_Model_52 : FlG Wall classes R_Model 52 7 19 := ⟨_, _, _, rfl, by decide, in_Model, inW 801 rfl rfl⟩
set_option maxRecDepth 100000 in
theorem fp_Model_52 : FlP Wall classes R_Model 52 7 19 .int := ⟨_, _, _, t_Model, rfl, by decide, in_Model, inW 801 rfl rfl, t_Model_ok, n_Model, rfl, by decide +kernel⟩
set_option maxRecDepth 100000 in
theorem fc_Model_227 : FcV Wall classes R_Model 227 7 y_Model_isGood b_Model_isGood 7 (some .boolean) ws_Model_isGood 1 := ⟨⟨rfl, cw_Model_isGood, inW 1013 rfl rfl, in_i_Model, by decide +kernel⟩, inW 1015 rfl rfl, inP 48 rfl rfl, _, _, rfl⟩
