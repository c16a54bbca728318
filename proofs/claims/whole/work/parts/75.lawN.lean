abbrev b_Law_law : ByteArray := code
theorem d_Law_law_0 : decode b_Law_law 0 = .ok (.new 8, 3) := by decide +kernel
theorem d_Law_law_3 : decode b_Law_law 3 = .ok (.dup, 1) := by decide +kernel
theorem d_Law_law_4 : decode b_Law_law 4 = .ok (.aload_n 0, 1) := by decide +kernel
theorem d_Law_law_5 : decode b_Law_law 5 = .ok (.iconst 0, 1) := by decide +kernel
theorem d_Law_law_6 : decode b_Law_law 6 = .ok (.invokestatic 20, 3) := by decide +kernel
theorem d_Law_law_9 : decode b_Law_law 9 = .ok (.invokespecial 26, 3) := by decide +kernel
theorem d_Law_law_12 : decode b_Law_law 12 = .ok (.astore_n 1, 1) := by decide +kernel
theorem d_Law_law_13 : decode b_Law_law 13 = .ok (.new 29, 3) := by decide +kernel
theorem d_Law_law_16 : decode b_Law_law 16 = .ok (.dup, 1) := by decide +kernel
theorem d_Law_law_17 : decode b_Law_law 17 = .ok (.aload_n 0, 1) := by decide +kernel
theorem d_Law_law_18 : decode b_Law_law 18 = .ok (.iconst 0, 1) := by decide +kernel
theorem d_Law_law_19 : decode b_Law_law 19 = .ok (.invokestatic 20, 3) := by decide +kernel
theorem d_Law_law_22 : decode b_Law_law 22 = .ok (.invokespecial 31, 3) := by decide +kernel
theorem d_Law_law_25 : decode b_Law_law 25 = .ok (.astore_n 2, 1) := by decide +kernel
theorem d_Law_law_26 : decode b_Law_law 26 = .ok (.iconst 1, 1) := by decide +kernel
theorem d_Law_law_27 : decode b_Law_law 27 = .ok (.newarray .long, 2) := by decide +kernel
theorem d_Law_law_29 : decode b_Law_law 29 = .ok (.astore_n 3, 1) := by decide +kernel
theorem d_Law_law_30 : decode b_Law_law 30 = .ok (.iconst 1, 1) := by decide +kernel
theorem d_Law_law_31 : decode b_Law_law 31 = .ok (.istore 4, 2) := by decide +kernel
theorem d_Law_law_33 : decode b_Law_law 33 = .ok (.iload 4, 2) := by decide +kernel
theorem d_Law_law_35 : decode b_Law_law 35 = .ok (.aload_n 0, 1) := by decide +kernel
theorem d_Law_law_36 : decode b_Law_law 36 = .ok (.arraylength, 1) := by decide +kernel
theorem d_Law_law_37 : decode b_Law_law 37 = .ok (.bipush 6, 2) := by decide +kernel
theorem d_Law_law_39 : decode b_Law_law 39 = .ok (.isub, 1) := by decide +kernel
theorem d_Law_law_40 : decode b_Law_law 40 = .ok (.if_icmp .gt 531, 3) := by decide +kernel
theorem d_Law_law_43 : decode b_Law_law 43 = .ok (.aload_n 0, 1) := by decide +kernel
theorem d_Law_law_44 : decode b_Law_law 44 = .ok (.iload 4, 2) := by decide +kernel
theorem d_Law_law_46 : decode b_Law_law 46 = .ok (.iaload, 1) := by decide +kernel
theorem d_Law_law_47 : decode b_Law_law 47 = .ok (.bipush 15, 2) := by decide +kernel
theorem d_Law_law_49 : decode b_Law_law 49 = .ok (.iand, 1) := by decide +kernel
theorem d_Law_law_50 : decode b_Law_law 50 = .ok (.tableswitch 515 0 10 #[58, 95, 132, 241, 266, 279, 304, 341, 378, 434, 459], 58) := by decide +kernel
theorem d_Law_law_108 : decode b_Law_law 108 = .ok (.aload_n 1, 1) := by decide +kernel
theorem d_Law_law_109 : decode b_Law_law 109 = .ok (.aload_n 0, 1) := by decide +kernel
theorem d_Law_law_110 : decode b_Law_law 110 = .ok (.iload 4, 2) := by decide +kernel
theorem d_Law_law_112 : decode b_Law_law 112 = .ok (.iconst 1, 1) := by decide +kernel
theorem d_Law_law_113 : decode b_Law_law 113 = .ok (.iadd, 1) := by decide +kernel
theorem d_Law_law_114 : decode b_Law_law 114 = .ok (.iaload, 1) := by decide +kernel
theorem d_Law_law_115 : decode b_Law_law 115 = .ok (.aload_n 0, 1) := by decide +kernel
theorem d_Law_law_116 : decode b_Law_law 116 = .ok (.iload 4, 2) := by decide +kernel
theorem d_Law_law_118 : decode b_Law_law 118 = .ok (.iconst 2, 1) := by decide +kernel
theorem d_Law_law_119 : decode b_Law_law 119 = .ok (.iadd, 1) := by decide +kernel
theorem d_Law_law_120 : decode b_Law_law 120 = .ok (.iaload, 1) := by decide +kernel
theorem d_Law_law_121 : decode b_Law_law 121 = .ok (.invokevirtual 32, 3) := by decide +kernel
theorem d_Law_law_124 : decode b_Law_law 124 = .ok (.aload_n 2, 1) := by decide +kernel
theorem d_Law_law_125 : decode b_Law_law 125 = .ok (.aload_n 0, 1) := by decide +kernel
theorem d_Law_law_126 : decode b_Law_law 126 = .ok (.iload 4, 2) := by decide +kernel
theorem d_Law_law_128 : decode b_Law_law 128 = .ok (.iconst 1, 1) := by decide +kernel
theorem d_Law_law_129 : decode b_Law_law 129 = .ok (.iadd, 1) := by decide +kernel
theorem d_Law_law_130 : decode b_Law_law 130 = .ok (.iaload, 1) := by decide +kernel
theorem d_Law_law_131 : decode b_Law_law 131 = .ok (.aload_n 0, 1) := by decide +kernel
theorem d_Law_law_132 : decode b_Law_law 132 = .ok (.iload 4, 2) := by decide +kernel
theorem d_Law_law_134 : decode b_Law_law 134 = .ok (.iconst 2, 1) := by decide +kernel
theorem d_Law_law_135 : decode b_Law_law 135 = .ok (.iadd, 1) := by decide +kernel
theorem d_Law_law_136 : decode b_Law_law 136 = .ok (.iaload, 1) := by decide +kernel
theorem d_Law_law_137 : decode b_Law_law 137 = .ok (.invokevirtual 36, 3) := by decide +kernel
theorem d_Law_law_140 : decode b_Law_law 140 = .ok (.if_icmp .eq 425, 3) := by decide +kernel
theorem d_Law_law_143 : decode b_Law_law 143 = .ok (.iconst 0, 1) := by decide +kernel
theorem d_Law_law_144 : decode b_Law_law 144 = .ok (.ireturn, 1) := by decide +kernel
theorem d_Law_law_145 : decode b_Law_law 145 = .ok (.aload_n 1, 1) := by decide +kernel
theorem d_Law_law_146 : decode b_Law_law 146 = .ok (.aload_n 0, 1) := by decide +kernel
theorem d_Law_law_147 : decode b_Law_law 147 = .ok (.iload 4, 2) := by decide +kernel
theorem d_Law_law_149 : decode b_Law_law 149 = .ok (.iconst 1, 1) := by decide +kernel
theorem d_Law_law_150 : decode b_Law_law 150 = .ok (.iadd, 1) := by decide +kernel
theorem d_Law_law_151 : decode b_Law_law 151 = .ok (.iaload, 1) := by decide +kernel
theorem d_Law_law_152 : decode b_Law_law 152 = .ok (.aload_n 0, 1) := by decide +kernel
theorem d_Law_law_153 : decode b_Law_law 153 = .ok (.iload 4, 2) := by decide +kernel
theorem d_Law_law_155 : decode b_Law_law 155 = .ok (.iconst 2, 1) := by decide +kernel
theorem d_Law_law_156 : decode b_Law_law 156 = .ok (.iadd, 1) := by decide +kernel
theorem d_Law_law_157 : decode b_Law_law 157 = .ok (.iaload, 1) := by decide +kernel
theorem d_Law_law_158 : decode b_Law_law 158 = .ok (.invokevirtual 37, 3) := by decide +kernel
theorem d_Law_law_161 : decode b_Law_law 161 = .ok (.aload_n 2, 1) := by decide +kernel
theorem d_Law_law_162 : decode b_Law_law 162 = .ok (.aload_n 0, 1) := by decide +kernel
theorem d_Law_law_163 : decode b_Law_law 163 = .ok (.iload 4, 2) := by decide +kernel
theorem d_Law_law_165 : decode b_Law_law 165 = .ok (.iconst 1, 1) := by decide +kernel
theorem d_Law_law_166 : decode b_Law_law 166 = .ok (.iadd, 1) := by decide +kernel
theorem d_Law_law_167 : decode b_Law_law 167 = .ok (.iaload, 1) := by decide +kernel
theorem d_Law_law_168 : decode b_Law_law 168 = .ok (.aload_n 0, 1) := by decide +kernel
theorem d_Law_law_169 : decode b_Law_law 169 = .ok (.iload 4, 2) := by decide +kernel
theorem d_Law_law_171 : decode b_Law_law 171 = .ok (.iconst 2, 1) := by decide +kernel
theorem d_Law_law_172 : decode b_Law_law 172 = .ok (.iadd, 1) := by decide +kernel
theorem d_Law_law_173 : decode b_Law_law 173 = .ok (.iaload, 1) := by decide +kernel
theorem d_Law_law_174 : decode b_Law_law 174 = .ok (.invokevirtual 40, 3) := by decide +kernel
theorem d_Law_law_177 : decode b_Law_law 177 = .ok (.if_icmp .eq 388, 3) := by decide +kernel
theorem d_Law_law_180 : decode b_Law_law 180 = .ok (.iconst 0, 1) := by decide +kernel
theorem d_Law_law_181 : decode b_Law_law 181 = .ok (.ireturn, 1) := by decide +kernel
theorem d_Law_law_182 : decode b_Law_law 182 = .ok (.aload_n 1, 1) := by decide +kernel
theorem d_Law_law_183 : decode b_Law_law 183 = .ok (.aload_n 0, 1) := by decide +kernel
theorem d_Law_law_184 : decode b_Law_law 184 = .ok (.iload 4, 2) := by decide +kernel
theorem d_Law_law_186 : decode b_Law_law 186 = .ok (.iconst 1, 1) := by decide +kernel
theorem d_Law_law_187 : decode b_Law_law 187 = .ok (.iadd, 1) := by decide +kernel
theorem d_Law_law_188 : decode b_Law_law 188 = .ok (.iaload, 1) := by decide +kernel
theorem d_Law_law_189 : decode b_Law_law 189 = .ok (.i2l, 1) := by decide +kernel
theorem d_Law_law_190 : decode b_Law_law 190 = .ok (.bipush 32, 2) := by decide +kernel
theorem d_Law_law_192 : decode b_Law_law 192 = .ok (.lshl, 1) := by decide +kernel
theorem d_Law_law_193 : decode b_Law_law 193 = .ok (.aload_n 0, 1) := by decide +kernel
theorem d_Law_law_194 : decode b_Law_law 194 = .ok (.iload 4, 2) := by decide +kernel
theorem d_Law_law_196 : decode b_Law_law 196 = .ok (.iconst 2, 1) := by decide +kernel
theorem d_Law_law_197 : decode b_Law_law 197 = .ok (.iadd, 1) := by decide +kernel
theorem d_Law_law_198 : decode b_Law_law 198 = .ok (.iaload, 1) := by decide +kernel
theorem d_Law_law_199 : decode b_Law_law 199 = .ok (.i2l, 1) := by decide +kernel
theorem d_Law_law_200 : decode b_Law_law 200 = .ok (.ldc2_w 41, 3) := by decide +kernel
theorem d_Law_law_203 : decode b_Law_law 203 = .ok (.land, 1) := by decide +kernel
theorem d_Law_law_204 : decode b_Law_law 204 = .ok (.lor, 1) := by decide +kernel
theorem d_Law_law_205 : decode b_Law_law 205 = .ok (.aload_n 0, 1) := by decide +kernel
theorem d_Law_law_206 : decode b_Law_law 206 = .ok (.iload 4, 2) := by decide +kernel
theorem d_Law_law_208 : decode b_Law_law 208 = .ok (.iconst 3, 1) := by decide +kernel
theorem d_Law_law_209 : decode b_Law_law 209 = .ok (.iadd, 1) := by decide +kernel
theorem d_Law_law_210 : decode b_Law_law 210 = .ok (.iaload, 1) := by decide +kernel
theorem d_Law_law_211 : decode b_Law_law 211 = .ok (.aload_n 0, 1) := by decide +kernel
theorem d_Law_law_212 : decode b_Law_law 212 = .ok (.iload 4, 2) := by decide +kernel
theorem d_Law_law_214 : decode b_Law_law 214 = .ok (.iconst 4, 1) := by decide +kernel
theorem d_Law_law_215 : decode b_Law_law 215 = .ok (.iadd, 1) := by decide +kernel
theorem d_Law_law_216 : decode b_Law_law 216 = .ok (.iaload, 1) := by decide +kernel
theorem d_Law_law_217 : decode b_Law_law 217 = .ok (.aload_n 0, 1) := by decide +kernel
theorem d_Law_law_218 : decode b_Law_law 218 = .ok (.iload 4, 2) := by decide +kernel
theorem d_Law_law_220 : decode b_Law_law 220 = .ok (.iconst 5, 1) := by decide +kernel
theorem d_Law_law_221 : decode b_Law_law 221 = .ok (.iadd, 1) := by decide +kernel
theorem d_Law_law_222 : decode b_Law_law 222 = .ok (.iaload, 1) := by decide +kernel
theorem d_Law_law_223 : decode b_Law_law 223 = .ok (.ifCond .eq 7, 3) := by decide +kernel
theorem d_Law_law_226 : decode b_Law_law 226 = .ok (.iconst 1, 1) := by decide +kernel
theorem d_Law_law_227 : decode b_Law_law 227 = .ok (.goto 4, 3) := by decide +kernel
theorem d_Law_law_230 : decode b_Law_law 230 = .ok (.iconst 0, 1) := by decide +kernel
theorem d_Law_law_231 : decode b_Law_law 231 = .ok (.invokevirtual 43, 3) := by decide +kernel
theorem d_Law_law_234 : decode b_Law_law 234 = .ok (.aload_n 2, 1) := by decide +kernel
theorem d_Law_law_235 : decode b_Law_law 235 = .ok (.aload_n 0, 1) := by decide +kernel
theorem d_Law_law_236 : decode b_Law_law 236 = .ok (.iload 4, 2) := by decide +kernel
theorem d_Law_law_238 : decode b_Law_law 238 = .ok (.iconst 1, 1) := by decide +kernel
theorem d_Law_law_239 : decode b_Law_law 239 = .ok (.iadd, 1) := by decide +kernel
theorem d_Law_law_240 : decode b_Law_law 240 = .ok (.iaload, 1) := by decide +kernel
theorem d_Law_law_241 : decode b_Law_law 241 = .ok (.i2l, 1) := by decide +kernel
theorem d_Law_law_242 : decode b_Law_law 242 = .ok (.bipush 32, 2) := by decide +kernel
theorem d_Law_law_244 : decode b_Law_law 244 = .ok (.lshl, 1) := by decide +kernel
theorem d_Law_law_245 : decode b_Law_law 245 = .ok (.aload_n 0, 1) := by decide +kernel
theorem d_Law_law_246 : decode b_Law_law 246 = .ok (.iload 4, 2) := by decide +kernel
theorem d_Law_law_248 : decode b_Law_law 248 = .ok (.iconst 2, 1) := by decide +kernel
theorem d_Law_law_249 : decode b_Law_law 249 = .ok (.iadd, 1) := by decide +kernel
theorem d_Law_law_250 : decode b_Law_law 250 = .ok (.iaload, 1) := by decide +kernel
theorem d_Law_law_251 : decode b_Law_law 251 = .ok (.i2l, 1) := by decide +kernel
theorem d_Law_law_252 : decode b_Law_law 252 = .ok (.ldc2_w 41, 3) := by decide +kernel
theorem d_Law_law_255 : decode b_Law_law 255 = .ok (.land, 1) := by decide +kernel
theorem d_Law_law_256 : decode b_Law_law 256 = .ok (.lor, 1) := by decide +kernel
theorem d_Law_law_257 : decode b_Law_law 257 = .ok (.aload_n 0, 1) := by decide +kernel
theorem d_Law_law_258 : decode b_Law_law 258 = .ok (.iload 4, 2) := by decide +kernel
theorem d_Law_law_260 : decode b_Law_law 260 = .ok (.iconst 3, 1) := by decide +kernel
theorem d_Law_law_261 : decode b_Law_law 261 = .ok (.iadd, 1) := by decide +kernel
theorem d_Law_law_262 : decode b_Law_law 262 = .ok (.iaload, 1) := by decide +kernel
theorem d_Law_law_263 : decode b_Law_law 263 = .ok (.aload_n 0, 1) := by decide +kernel
theorem d_Law_law_264 : decode b_Law_law 264 = .ok (.iload 4, 2) := by decide +kernel
theorem d_Law_law_266 : decode b_Law_law 266 = .ok (.iconst 4, 1) := by decide +kernel
theorem d_Law_law_267 : decode b_Law_law 267 = .ok (.iadd, 1) := by decide +kernel
theorem d_Law_law_268 : decode b_Law_law 268 = .ok (.iaload, 1) := by decide +kernel
theorem d_Law_law_269 : decode b_Law_law 269 = .ok (.aload_n 0, 1) := by decide +kernel
theorem d_Law_law_270 : decode b_Law_law 270 = .ok (.iload 4, 2) := by decide +kernel
theorem d_Law_law_272 : decode b_Law_law 272 = .ok (.iconst 5, 1) := by decide +kernel
theorem d_Law_law_273 : decode b_Law_law 273 = .ok (.iadd, 1) := by decide +kernel
theorem d_Law_law_274 : decode b_Law_law 274 = .ok (.iaload, 1) := by decide +kernel
theorem d_Law_law_275 : decode b_Law_law 275 = .ok (.ifCond .eq 7, 3) := by decide +kernel
theorem d_Law_law_278 : decode b_Law_law 278 = .ok (.iconst 1, 1) := by decide +kernel
theorem d_Law_law_279 : decode b_Law_law 279 = .ok (.goto 4, 3) := by decide +kernel
theorem d_Law_law_282 : decode b_Law_law 282 = .ok (.iconst 0, 1) := by decide +kernel
theorem d_Law_law_283 : decode b_Law_law 283 = .ok (.invokevirtual 47, 3) := by decide +kernel
theorem d_Law_law_286 : decode b_Law_law 286 = .ok (.if_icmp .eq 279, 3) := by decide +kernel
theorem d_Law_law_289 : decode b_Law_law 289 = .ok (.iconst 0, 1) := by decide +kernel
theorem d_Law_law_290 : decode b_Law_law 290 = .ok (.ireturn, 1) := by decide +kernel
theorem d_Law_law_291 : decode b_Law_law 291 = .ok (.aload_n 1, 1) := by decide +kernel
theorem d_Law_law_292 : decode b_Law_law 292 = .ok (.aload_n 0, 1) := by decide +kernel
theorem d_Law_law_293 : decode b_Law_law 293 = .ok (.iload 4, 2) := by decide +kernel
theorem d_Law_law_295 : decode b_Law_law 295 = .ok (.iconst 1, 1) := by decide +kernel
theorem d_Law_law_296 : decode b_Law_law 296 = .ok (.iadd, 1) := by decide +kernel
theorem d_Law_law_297 : decode b_Law_law 297 = .ok (.iaload, 1) := by decide +kernel
theorem d_Law_law_298 : decode b_Law_law 298 = .ok (.invokevirtual 48, 3) := by decide +kernel
theorem d_Law_law_301 : decode b_Law_law 301 = .ok (.aload_n 2, 1) := by decide +kernel
theorem d_Law_law_302 : decode b_Law_law 302 = .ok (.aload_n 0, 1) := by decide +kernel
theorem d_Law_law_303 : decode b_Law_law 303 = .ok (.iload 4, 2) := by decide +kernel
theorem d_Law_law_305 : decode b_Law_law 305 = .ok (.iconst 1, 1) := by decide +kernel
theorem d_Law_law_306 : decode b_Law_law 306 = .ok (.iadd, 1) := by decide +kernel
theorem d_Law_law_307 : decode b_Law_law 307 = .ok (.iaload, 1) := by decide +kernel
theorem d_Law_law_308 : decode b_Law_law 308 = .ok (.invokevirtual 52, 3) := by decide +kernel
theorem d_Law_law_311 : decode b_Law_law 311 = .ok (.if_icmp .eq 254, 3) := by decide +kernel
theorem d_Law_law_314 : decode b_Law_law 314 = .ok (.iconst 0, 1) := by decide +kernel
theorem d_Law_law_315 : decode b_Law_law 315 = .ok (.ireturn, 1) := by decide +kernel
theorem d_Law_law_316 : decode b_Law_law 316 = .ok (.aload_n 1, 1) := by decide +kernel
theorem d_Law_law_317 : decode b_Law_law 317 = .ok (.invokevirtual 53, 3) := by decide +kernel
theorem d_Law_law_320 : decode b_Law_law 320 = .ok (.aload_n 2, 1) := by decide +kernel
theorem d_Law_law_321 : decode b_Law_law 321 = .ok (.invokevirtual 57, 3) := by decide +kernel
theorem d_Law_law_324 : decode b_Law_law 324 = .ok (.if_icmp .eq 241, 3) := by decide +kernel
theorem d_Law_law_327 : decode b_Law_law 327 = .ok (.iconst 0, 1) := by decide +kernel
theorem d_Law_law_328 : decode b_Law_law 328 = .ok (.ireturn, 1) := by decide +kernel
theorem d_Law_law_329 : decode b_Law_law 329 = .ok (.aload_n 1, 1) := by decide +kernel
theorem d_Law_law_330 : decode b_Law_law 330 = .ok (.aload_n 0, 1) := by decide +kernel
theorem d_Law_law_331 : decode b_Law_law 331 = .ok (.iload 4, 2) := by decide +kernel
theorem d_Law_law_333 : decode b_Law_law 333 = .ok (.iconst 1, 1) := by decide +kernel
theorem d_Law_law_334 : decode b_Law_law 334 = .ok (.iadd, 1) := by decide +kernel
theorem d_Law_law_335 : decode b_Law_law 335 = .ok (.iaload, 1) := by decide +kernel
theorem d_Law_law_336 : decode b_Law_law 336 = .ok (.invokevirtual 58, 3) := by decide +kernel
theorem d_Law_law_339 : decode b_Law_law 339 = .ok (.aload_n 2, 1) := by decide +kernel
theorem d_Law_law_340 : decode b_Law_law 340 = .ok (.aload_n 0, 1) := by decide +kernel
theorem d_Law_law_341 : decode b_Law_law 341 = .ok (.iload 4, 2) := by decide +kernel
theorem d_Law_law_343 : decode b_Law_law 343 = .ok (.iconst 1, 1) := by decide +kernel
theorem d_Law_law_344 : decode b_Law_law 344 = .ok (.iadd, 1) := by decide +kernel
theorem d_Law_law_345 : decode b_Law_law 345 = .ok (.iaload, 1) := by decide +kernel
theorem d_Law_law_346 : decode b_Law_law 346 = .ok (.invokevirtual 61, 3) := by decide +kernel
theorem d_Law_law_349 : decode b_Law_law 349 = .ok (.if_icmp .eq 216, 3) := by decide +kernel
theorem d_Law_law_352 : decode b_Law_law 352 = .ok (.iconst 0, 1) := by decide +kernel
theorem d_Law_law_353 : decode b_Law_law 353 = .ok (.ireturn, 1) := by decide +kernel
theorem d_Law_law_354 : decode b_Law_law 354 = .ok (.aload_n 1, 1) := by decide +kernel
theorem d_Law_law_355 : decode b_Law_law 355 = .ok (.aload_n 0, 1) := by decide +kernel
theorem d_Law_law_356 : decode b_Law_law 356 = .ok (.iload 4, 2) := by decide +kernel
theorem d_Law_law_358 : decode b_Law_law 358 = .ok (.iconst 1, 1) := by decide +kernel
theorem d_Law_law_359 : decode b_Law_law 359 = .ok (.iadd, 1) := by decide +kernel
theorem d_Law_law_360 : decode b_Law_law 360 = .ok (.iaload, 1) := by decide +kernel
theorem d_Law_law_361 : decode b_Law_law 361 = .ok (.aload_n 0, 1) := by decide +kernel
theorem d_Law_law_362 : decode b_Law_law 362 = .ok (.iload 4, 2) := by decide +kernel
theorem d_Law_law_364 : decode b_Law_law 364 = .ok (.iconst 2, 1) := by decide +kernel
theorem d_Law_law_365 : decode b_Law_law 365 = .ok (.iadd, 1) := by decide +kernel
theorem d_Law_law_366 : decode b_Law_law 366 = .ok (.iaload, 1) := by decide +kernel
theorem d_Law_law_367 : decode b_Law_law 367 = .ok (.invokevirtual 62, 3) := by decide +kernel
theorem d_Law_law_370 : decode b_Law_law 370 = .ok (.aload_n 2, 1) := by decide +kernel
theorem d_Law_law_371 : decode b_Law_law 371 = .ok (.aload_n 0, 1) := by decide +kernel
theorem d_Law_law_372 : decode b_Law_law 372 = .ok (.iload 4, 2) := by decide +kernel
theorem d_Law_law_374 : decode b_Law_law 374 = .ok (.iconst 1, 1) := by decide +kernel
theorem d_Law_law_375 : decode b_Law_law 375 = .ok (.iadd, 1) := by decide +kernel
theorem d_Law_law_376 : decode b_Law_law 376 = .ok (.iaload, 1) := by decide +kernel
theorem d_Law_law_377 : decode b_Law_law 377 = .ok (.aload_n 0, 1) := by decide +kernel
theorem d_Law_law_378 : decode b_Law_law 378 = .ok (.iload 4, 2) := by decide +kernel
theorem d_Law_law_380 : decode b_Law_law 380 = .ok (.iconst 2, 1) := by decide +kernel
theorem d_Law_law_381 : decode b_Law_law 381 = .ok (.iadd, 1) := by decide +kernel
theorem d_Law_law_382 : decode b_Law_law 382 = .ok (.iaload, 1) := by decide +kernel
theorem d_Law_law_383 : decode b_Law_law 383 = .ok (.invokevirtual 65, 3) := by decide +kernel
theorem d_Law_law_386 : decode b_Law_law 386 = .ok (.if_icmp .eq 179, 3) := by decide +kernel
theorem d_Law_law_389 : decode b_Law_law 389 = .ok (.iconst 0, 1) := by decide +kernel
theorem d_Law_law_390 : decode b_Law_law 390 = .ok (.ireturn, 1) := by decide +kernel
theorem d_Law_law_391 : decode b_Law_law 391 = .ok (.aload_n 1, 1) := by decide +kernel
theorem d_Law_law_392 : decode b_Law_law 392 = .ok (.aload_n 0, 1) := by decide +kernel
theorem d_Law_law_393 : decode b_Law_law 393 = .ok (.iload 4, 2) := by decide +kernel
theorem d_Law_law_395 : decode b_Law_law 395 = .ok (.iconst 1, 1) := by decide +kernel
theorem d_Law_law_396 : decode b_Law_law 396 = .ok (.iadd, 1) := by decide +kernel
theorem d_Law_law_397 : decode b_Law_law 397 = .ok (.iaload, 1) := by decide +kernel
theorem d_Law_law_398 : decode b_Law_law 398 = .ok (.aload_n 0, 1) := by decide +kernel
theorem d_Law_law_399 : decode b_Law_law 399 = .ok (.iload 4, 2) := by decide +kernel
theorem d_Law_law_401 : decode b_Law_law 401 = .ok (.iconst 2, 1) := by decide +kernel
theorem d_Law_law_402 : decode b_Law_law 402 = .ok (.iadd, 1) := by decide +kernel
theorem d_Law_law_403 : decode b_Law_law 403 = .ok (.iaload, 1) := by decide +kernel
theorem d_Law_law_404 : decode b_Law_law 404 = .ok (.invokevirtual 66, 3) := by decide +kernel
theorem d_Law_law_407 : decode b_Law_law 407 = .ok (.aload_n 2, 1) := by decide +kernel
theorem d_Law_law_408 : decode b_Law_law 408 = .ok (.aload_n 0, 1) := by decide +kernel
theorem d_Law_law_409 : decode b_Law_law 409 = .ok (.iload 4, 2) := by decide +kernel
theorem d_Law_law_411 : decode b_Law_law 411 = .ok (.iconst 1, 1) := by decide +kernel
theorem d_Law_law_412 : decode b_Law_law 412 = .ok (.iadd, 1) := by decide +kernel
theorem d_Law_law_413 : decode b_Law_law 413 = .ok (.iaload, 1) := by decide +kernel
theorem d_Law_law_414 : decode b_Law_law 414 = .ok (.aload_n 0, 1) := by decide +kernel
theorem d_Law_law_415 : decode b_Law_law 415 = .ok (.iload 4, 2) := by decide +kernel
theorem d_Law_law_417 : decode b_Law_law 417 = .ok (.iconst 2, 1) := by decide +kernel
theorem d_Law_law_418 : decode b_Law_law 418 = .ok (.iadd, 1) := by decide +kernel
theorem d_Law_law_419 : decode b_Law_law 419 = .ok (.iaload, 1) := by decide +kernel
theorem d_Law_law_420 : decode b_Law_law 420 = .ok (.invokevirtual 69, 3) := by decide +kernel
theorem d_Law_law_423 : decode b_Law_law 423 = .ok (.if_icmp .eq 142, 3) := by decide +kernel
theorem d_Law_law_426 : decode b_Law_law 426 = .ok (.iconst 0, 1) := by decide +kernel
theorem d_Law_law_427 : decode b_Law_law 427 = .ok (.ireturn, 1) := by decide +kernel
theorem d_Law_law_428 : decode b_Law_law 428 = .ok (.aload_n 1, 1) := by decide +kernel
theorem d_Law_law_429 : decode b_Law_law 429 = .ok (.aload_n 0, 1) := by decide +kernel
theorem d_Law_law_430 : decode b_Law_law 430 = .ok (.iload 4, 2) := by decide +kernel
theorem d_Law_law_432 : decode b_Law_law 432 = .ok (.iconst 1, 1) := by decide +kernel
theorem d_Law_law_433 : decode b_Law_law 433 = .ok (.iadd, 1) := by decide +kernel
theorem d_Law_law_434 : decode b_Law_law 434 = .ok (.iaload, 1) := by decide +kernel
theorem d_Law_law_435 : decode b_Law_law 435 = .ok (.aload_n 3, 1) := by decide +kernel
theorem d_Law_law_436 : decode b_Law_law 436 = .ok (.invokestatic 70, 3) := by decide +kernel
theorem d_Law_law_439 : decode b_Law_law 439 = .ok (.istore 5, 2) := by decide +kernel
theorem d_Law_law_441 : decode b_Law_law 441 = .ok (.aload_n 2, 1) := by decide +kernel
theorem d_Law_law_442 : decode b_Law_law 442 = .ok (.aload_n 0, 1) := by decide +kernel
theorem d_Law_law_443 : decode b_Law_law 443 = .ok (.iload 4, 2) := by decide +kernel
theorem d_Law_law_445 : decode b_Law_law 445 = .ok (.iconst 1, 1) := by decide +kernel
theorem d_Law_law_446 : decode b_Law_law 446 = .ok (.iadd, 1) := by decide +kernel
theorem d_Law_law_447 : decode b_Law_law 447 = .ok (.iaload, 1) := by decide +kernel
theorem d_Law_law_448 : decode b_Law_law 448 = .ok (.invokevirtual 73, 3) := by decide +kernel
theorem d_Law_law_451 : decode b_Law_law 451 = .ok (.istore 6, 2) := by decide +kernel
theorem d_Law_law_453 : decode b_Law_law 453 = .ok (.aload_n 2, 1) := by decide +kernel
theorem d_Law_law_454 : decode b_Law_law 454 = .ok (.invokevirtual 74, 3) := by decide +kernel
theorem d_Law_law_457 : decode b_Law_law 457 = .ok (.iload 5, 2) := by decide +kernel
theorem d_Law_law_459 : decode b_Law_law 459 = .ok (.if_icmp .eq 5, 3) := by decide +kernel
theorem d_Law_law_462 : decode b_Law_law 462 = .ok (.iconst 0, 1) := by decide +kernel
theorem d_Law_law_463 : decode b_Law_law 463 = .ok (.ireturn, 1) := by decide +kernel
theorem d_Law_law_464 : decode b_Law_law 464 = .ok (.iload 5, 2) := by decide +kernel
theorem d_Law_law_466 : decode b_Law_law 466 = .ok (.ifCond .ne 15, 3) := by decide +kernel
theorem d_Law_law_469 : decode b_Law_law 469 = .ok (.aload_n 3, 1) := by decide +kernel
theorem d_Law_law_470 : decode b_Law_law 470 = .ok (.iconst 0, 1) := by decide +kernel
theorem d_Law_law_471 : decode b_Law_law 471 = .ok (.laload, 1) := by decide +kernel
theorem d_Law_law_472 : decode b_Law_law 472 = .ok (.iload 6, 2) := by decide +kernel
theorem d_Law_law_474 : decode b_Law_law 474 = .ok (.i2l, 1) := by decide +kernel
theorem d_Law_law_475 : decode b_Law_law 475 = .ok (.lcmp, 1) := by decide +kernel
theorem d_Law_law_476 : decode b_Law_law 476 = .ok (.ifCond .eq 5, 3) := by decide +kernel
theorem d_Law_law_479 : decode b_Law_law 479 = .ok (.iconst 0, 1) := by decide +kernel
theorem d_Law_law_480 : decode b_Law_law 480 = .ok (.ireturn, 1) := by decide +kernel
theorem d_Law_law_481 : decode b_Law_law 481 = .ok (.goto 84, 3) := by decide +kernel
theorem d_Law_law_484 : decode b_Law_law 484 = .ok (.aload_n 1, 1) := by decide +kernel
theorem d_Law_law_485 : decode b_Law_law 485 = .ok (.aload_n 0, 1) := by decide +kernel
theorem d_Law_law_486 : decode b_Law_law 486 = .ok (.iload 4, 2) := by decide +kernel
theorem d_Law_law_488 : decode b_Law_law 488 = .ok (.iconst 1, 1) := by decide +kernel
theorem d_Law_law_489 : decode b_Law_law 489 = .ok (.iadd, 1) := by decide +kernel
theorem d_Law_law_490 : decode b_Law_law 490 = .ok (.iaload, 1) := by decide +kernel
theorem d_Law_law_491 : decode b_Law_law 491 = .ok (.invokevirtual 77, 3) := by decide +kernel
theorem d_Law_law_494 : decode b_Law_law 494 = .ok (.aload_n 2, 1) := by decide +kernel
theorem d_Law_law_495 : decode b_Law_law 495 = .ok (.aload_n 0, 1) := by decide +kernel
theorem d_Law_law_496 : decode b_Law_law 496 = .ok (.iload 4, 2) := by decide +kernel
theorem d_Law_law_498 : decode b_Law_law 498 = .ok (.iconst 1, 1) := by decide +kernel
theorem d_Law_law_499 : decode b_Law_law 499 = .ok (.iadd, 1) := by decide +kernel
theorem d_Law_law_500 : decode b_Law_law 500 = .ok (.iaload, 1) := by decide +kernel
theorem d_Law_law_501 : decode b_Law_law 501 = .ok (.invokevirtual 80, 3) := by decide +kernel
theorem d_Law_law_504 : decode b_Law_law 504 = .ok (.if_icmp .eq 61, 3) := by decide +kernel
theorem d_Law_law_507 : decode b_Law_law 507 = .ok (.iconst 0, 1) := by decide +kernel
theorem d_Law_law_508 : decode b_Law_law 508 = .ok (.ireturn, 1) := by decide +kernel
theorem d_Law_law_509 : decode b_Law_law 509 = .ok (.aload_n 1, 1) := by decide +kernel
theorem d_Law_law_510 : decode b_Law_law 510 = .ok (.aload_n 0, 1) := by decide +kernel
theorem d_Law_law_511 : decode b_Law_law 511 = .ok (.iload 4, 2) := by decide +kernel
theorem d_Law_law_513 : decode b_Law_law 513 = .ok (.iconst 1, 1) := by decide +kernel
theorem d_Law_law_514 : decode b_Law_law 514 = .ok (.iadd, 1) := by decide +kernel
theorem d_Law_law_515 : decode b_Law_law 515 = .ok (.iaload, 1) := by decide +kernel
theorem d_Law_law_516 : decode b_Law_law 516 = .ok (.aload_n 3, 1) := by decide +kernel
theorem d_Law_law_517 : decode b_Law_law 517 = .ok (.invokestatic 81, 3) := by decide +kernel
theorem d_Law_law_520 : decode b_Law_law 520 = .ok (.istore 5, 2) := by decide +kernel
theorem d_Law_law_522 : decode b_Law_law 522 = .ok (.aload_n 2, 1) := by decide +kernel
theorem d_Law_law_523 : decode b_Law_law 523 = .ok (.aload_n 0, 1) := by decide +kernel
theorem d_Law_law_524 : decode b_Law_law 524 = .ok (.iload 4, 2) := by decide +kernel
theorem d_Law_law_526 : decode b_Law_law 526 = .ok (.iconst 1, 1) := by decide +kernel
theorem d_Law_law_527 : decode b_Law_law 527 = .ok (.iadd, 1) := by decide +kernel
theorem d_Law_law_528 : decode b_Law_law 528 = .ok (.iaload, 1) := by decide +kernel
theorem d_Law_law_529 : decode b_Law_law 529 = .ok (.invokevirtual 83, 3) := by decide +kernel
theorem d_Law_law_532 : decode b_Law_law 532 = .ok (.istore 6, 2) := by decide +kernel
theorem d_Law_law_534 : decode b_Law_law 534 = .ok (.aload_n 2, 1) := by decide +kernel
theorem d_Law_law_535 : decode b_Law_law 535 = .ok (.invokevirtual 74, 3) := by decide +kernel
theorem d_Law_law_538 : decode b_Law_law 538 = .ok (.iload 5, 2) := by decide +kernel
theorem d_Law_law_540 : decode b_Law_law 540 = .ok (.if_icmp .eq 5, 3) := by decide +kernel
theorem d_Law_law_543 : decode b_Law_law 543 = .ok (.iconst 0, 1) := by decide +kernel
theorem d_Law_law_544 : decode b_Law_law 544 = .ok (.ireturn, 1) := by decide +kernel
theorem d_Law_law_545 : decode b_Law_law 545 = .ok (.iload 5, 2) := by decide +kernel
theorem d_Law_law_547 : decode b_Law_law 547 = .ok (.ifCond .ne 15, 3) := by decide +kernel
theorem d_Law_law_550 : decode b_Law_law 550 = .ok (.aload_n 3, 1) := by decide +kernel
theorem d_Law_law_551 : decode b_Law_law 551 = .ok (.iconst 0, 1) := by decide +kernel
theorem d_Law_law_552 : decode b_Law_law 552 = .ok (.laload, 1) := by decide +kernel
theorem d_Law_law_553 : decode b_Law_law 553 = .ok (.iload 6, 2) := by decide +kernel
theorem d_Law_law_555 : decode b_Law_law 555 = .ok (.i2l, 1) := by decide +kernel
theorem d_Law_law_556 : decode b_Law_law 556 = .ok (.lcmp, 1) := by decide +kernel
theorem d_Law_law_557 : decode b_Law_law 557 = .ok (.ifCond .eq 5, 3) := by decide +kernel
theorem d_Law_law_560 : decode b_Law_law 560 = .ok (.iconst 0, 1) := by decide +kernel
theorem d_Law_law_561 : decode b_Law_law 561 = .ok (.ireturn, 1) := by decide +kernel
theorem d_Law_law_562 : decode b_Law_law 562 = .ok (.goto 3, 3) := by decide +kernel
theorem d_Law_law_565 : decode b_Law_law 565 = .ok (.iinc 4 6, 3) := by decide +kernel
theorem d_Law_law_568 : decode b_Law_law 568 = .ok (.goto (-535), 3) := by decide +kernel
theorem d_Law_law_571 : decode b_Law_law 571 = .ok (.iconst 1, 1) := by decide +kernel
theorem d_Law_law_572 : decode b_Law_law 572 = .ok (.ireturn, 1) := by decide +kernel
set_option maxRecDepth 100000 in
theorem fc_Law_32 : FcV Wall classes R_Law 32 6 y_BootMaker_partition b_BootMaker_partition 3 (some .int) ws_BootMaker_partition 2 := ⟨⟨rfl, cw_BootMaker_partition, inW 240 rfl rfl, in_i_BootMaker, by decide +kernel⟩, inW 241 rfl rfl, inW 242 rfl rfl, _, _, rfl⟩
set_option maxRecDepth 100000 in
theorem fc_Law_36 : FcV Wall classes R_Law 36 7 y_Model_partition b_Model_partition 4 (some .int) ws_Model_partition 2 := ⟨⟨rfl, cw_Model_partition, inW 887 rfl rfl, in_i_Model, by decide +kernel⟩, inW 888 rfl rfl, inW 889 rfl rfl, _, _, rfl⟩
set_option maxRecDepth 100000 in
theorem fc_Law_37 : FcV Wall classes R_Law 37 6 y_BootMaker_where b_BootMaker_where 3 (some .int) ws_BootMaker_where 2 := ⟨⟨rfl, cw_BootMaker_where, inW 252 rfl rfl, in_i_BootMaker, by decide +kernel⟩, inW 253 rfl rfl, inW 254 rfl rfl, _, _, rfl⟩
set_option maxRecDepth 100000 in
theorem fc_Law_40 : FcV Wall classes R_Law 40 7 y_Model_where b_Model_where 3 (some .int) ws_Model_where 2 := ⟨⟨rfl, cw_Model_where, inW 891 rfl rfl, in_i_Model, by decide +kernel⟩, inW 892 rfl rfl, inW 893 rfl rfl, _, _, rfl⟩
set_option maxRecDepth 100000 in
theorem kc_Law_41 : Cond.constantLong R_Law 41 4294967295 ∈ Wall := inW 1050 rfl rfl
set_option maxRecDepth 100000 in
theorem fc_Law_43 : FcV Wall classes R_Law 43 6 y_BootMaker_file b_BootMaker_file 6 (some .int) ws_BootMaker_file 4 := ⟨⟨rfl, cw_BootMaker_file, inW 260 rfl rfl, in_i_BootMaker, by decide +kernel⟩, inW 261 rfl rfl, inW 262 rfl rfl, _, _, rfl⟩
set_option maxRecDepth 100000 in
theorem fc_Law_47 : FcV Wall classes R_Law 47 7 y_Model_file b_Model_file 8 (some .int) ws_Model_file 4 := ⟨⟨rfl, cw_Model_file, inW 895 rfl rfl, in_i_Model, by decide +kernel⟩, inW 896 rfl rfl, inW 897 rfl rfl, _, _, rfl⟩
set_option maxRecDepth 100000 in
theorem fc_Law_48 : FcV Wall classes R_Law 48 6 y_BootMaker_address b_BootMaker_address 2 (some .boolean) ws_BootMaker_address 1 := ⟨⟨rfl, cw_BootMaker_address, inW 278 rfl rfl, in_i_BootMaker, by decide +kernel⟩, inW 279 rfl rfl, inW 280 rfl rfl, _, _, rfl⟩
set_option maxRecDepth 100000 in
theorem fc_Law_52 : FcV Wall classes R_Law 52 7 y_Model_address b_Model_address 2 (some .boolean) ws_Model_address 1 := ⟨⟨rfl, cw_Model_address, inW 910 rfl rfl, in_i_Model, by decide +kernel⟩, inW 911 rfl rfl, inW 912 rfl rfl, _, _, rfl⟩
set_option maxRecDepth 100000 in
theorem fc_Law_53 : FcV Wall classes R_Law 53 6 y_BootMaker_write b_BootMaker_write 1 (some .int) ws_BootMaker_write 0 := ⟨⟨rfl, cw_BootMaker_write, inW 282 rfl rfl, in_i_BootMaker, by decide +kernel⟩, inW 283 rfl rfl, inW 284 rfl rfl, _, _, rfl⟩
set_option maxRecDepth 100000 in
theorem fc_Law_57 : FcV Wall classes R_Law 57 7 y_Model_write b_Model_write 5 (some .int) ws_Model_write 0 := ⟨⟨rfl, cw_Model_write, inW 914 rfl rfl, in_i_Model, by decide +kernel⟩, inW 915 rfl rfl, inW 916 rfl rfl, _, _, rfl⟩
set_option maxRecDepth 100000 in
theorem fc_Law_58 : FcV Wall classes R_Law 58 6 y_BootMaker_byteAt b_BootMaker_byteAt 2 (some .int) ws_BootMaker_byteAt 1 := ⟨⟨rfl, cw_BootMaker_byteAt, inW 540 rfl rfl, in_i_BootMaker, by decide +kernel⟩, inW 541 rfl rfl, inW 542 rfl rfl, _, _, rfl⟩
set_option maxRecDepth 100000 in
theorem fc_Law_61 : FcV Wall classes R_Law 61 7 y_Model_byteAt b_Model_byteAt 2 (some .int) ws_Model_byteAt 1 := ⟨⟨rfl, cw_Model_byteAt, inW 859 rfl rfl, in_i_Model, by decide +kernel⟩, inW 860 rfl rfl, inW 861 rfl rfl, _, _, rfl⟩
set_option maxRecDepth 100000 in
theorem fc_Law_62 : FcV Wall classes R_Law 62 6 y_BootMaker_poke b_BootMaker_poke 4 (some .int) ws_BootMaker_poke 2 := ⟨⟨rfl, cw_BootMaker_poke, inW 549 rfl rfl, in_i_BootMaker, by decide +kernel⟩, inW 550 rfl rfl, inW 551 rfl rfl, _, _, rfl⟩
set_option maxRecDepth 100000 in
theorem fc_Law_65 : FcV Wall classes R_Law 65 7 y_Model_poke b_Model_poke 4 (some .int) ws_Model_poke 2 := ⟨⟨rfl, cw_Model_poke, inW 870 rfl rfl, in_i_Model, by decide +kernel⟩, inW 871 rfl rfl, inW 872 rfl rfl, _, _, rfl⟩
set_option maxRecDepth 100000 in
theorem fc_Law_66 : FcV Wall classes R_Law 66 6 y_BootMaker_sum b_BootMaker_sum 4 (some .int) ws_BootMaker_sum 2 := ⟨⟨rfl, cw_BootMaker_sum, inW 554 rfl rfl, in_i_BootMaker, by decide +kernel⟩, inW 555 rfl rfl, inW 556 rfl rfl, _, _, rfl⟩
set_option maxRecDepth 100000 in
theorem fc_Law_69 : FcV Wall classes R_Law 69 7 y_Model_sum b_Model_sum 3 (some .int) ws_Model_sum 2 := ⟨⟨rfl, cw_Model_sum, inW 874 rfl rfl, in_i_Model, by decide +kernel⟩, inW 875 rfl rfl, inW 876 rfl rfl, _, _, rfl⟩
set_option maxRecDepth 100000 in
theorem fc_Law_73 : FcV Wall classes R_Law 73 7 y_Model_boot b_Model_boot 3 (some .int) ws_Model_boot 1 := ⟨⟨rfl, cw_Model_boot, inW 1005 rfl rfl, in_i_Model, by decide +kernel⟩, inW 1006 rfl rfl, inW 1007 rfl rfl, _, _, rfl⟩
set_option maxRecDepth 100000 in
theorem fc_Law_74 : FcV Wall classes R_Law 74 7 y_Model_thrown b_Model_thrown 1 (some .int) ws_Model_thrown 0 := ⟨⟨rfl, cw_Model_thrown, inW 855 rfl rfl, in_i_Model, by decide +kernel⟩, inW 856 rfl rfl, inW 857 rfl rfl, _, _, rfl⟩
set_option maxRecDepth 100000 in
theorem fc_Law_77 : FcV Wall classes R_Law 77 6 y_BootMaker_booted b_BootMaker_booted 2 (some .int) ws_BootMaker_booted 1 := ⟨⟨rfl, cw_BootMaker_booted, inW 559 rfl rfl, in_i_BootMaker, by decide +kernel⟩, inW 560 rfl rfl, inW 561 rfl rfl, _, _, rfl⟩
set_option maxRecDepth 100000 in
theorem fc_Law_80 : FcV Wall classes R_Law 80 7 y_Model_booted b_Model_booted 2 (some .int) ws_Model_booted 1 := ⟨⟨rfl, cw_Model_booted, inW 1041 rfl rfl, in_i_Model, by decide +kernel⟩, inW 1042 rfl rfl, inW 1043 rfl rfl, _, _, rfl⟩
set_option maxRecDepth 100000 in
theorem fc_Law_83 : FcV Wall classes R_Law 83 7 y_Model_memory b_Model_memory 2 (some .int) ws_Model_memory 1 := ⟨⟨rfl, cw_Model_memory, inW 1045 rfl rfl, in_i_Model, by decide +kernel⟩, inW 1046 rfl rfl, inW 1047 rfl rfl, _, _, rfl⟩
