abbrev b_Model_beginning : ByteArray := prog_9_method_31_code
def y_Model_beginning : MethodName := ⟨"BootMakerModel", "beginning", "(I)V"⟩
def ws_Model_beginning : List Cond := Cond.code y_Model_beginning b_Model_beginning 5 (none) :: Wall
set_option maxRecDepth 100000 in
theorem cw_Model_beginning : Cond.code y_Model_beginning b_Model_beginning 5 (none) ∈ Wall := inW 982 rfl rfl
theorem d_Model_beginning_0 : decode b_Model_beginning 0 = .ok (.aload_n 0, 1) := by decide +kernel
theorem d_Model_beginning_1 : decode b_Model_beginning 1 = .ok (.getfield 8, 3) := by decide +kernel
theorem d_Model_beginning_4 : decode b_Model_beginning 4 = .ok (.iconst 0, 1) := by decide +kernel
theorem d_Model_beginning_5 : decode b_Model_beginning 5 = .ok (.bipush (-21), 2) := by decide +kernel
theorem d_Model_beginning_7 : decode b_Model_beginning 7 = .ok (.bastore, 1) := by decide +kernel
theorem d_Model_beginning_8 : decode b_Model_beginning 8 = .ok (.aload_n 0, 1) := by decide +kernel
theorem d_Model_beginning_9 : decode b_Model_beginning 9 = .ok (.getfield 8, 3) := by decide +kernel
theorem d_Model_beginning_12 : decode b_Model_beginning 12 = .ok (.iconst 1, 1) := by decide +kernel
theorem d_Model_beginning_13 : decode b_Model_beginning 13 = .ok (.bipush 62, 2) := by decide +kernel
theorem d_Model_beginning_15 : decode b_Model_beginning 15 = .ok (.bastore, 1) := by decide +kernel
theorem d_Model_beginning_16 : decode b_Model_beginning 16 = .ok (.iload_n 1, 1) := by decide +kernel
theorem d_Model_beginning_17 : decode b_Model_beginning 17 = .ok (.ifCond .lt 181, 3) := by decide +kernel
theorem d_Model_beginning_20 : decode b_Model_beginning 20 = .ok (.aload_n 0, 1) := by decide +kernel
theorem d_Model_beginning_21 : decode b_Model_beginning 21 = .ok (.getfield 28, 3) := by decide +kernel
theorem d_Model_beginning_24 : decode b_Model_beginning 24 = .ok (.iload_n 1, 1) := by decide +kernel
theorem d_Model_beginning_25 : decode b_Model_beginning 25 = .ok (.iaload, 1) := by decide +kernel
theorem d_Model_beginning_26 : decode b_Model_beginning 26 = .ok (.ifCond .le 172, 3) := by decide +kernel
theorem d_Model_beginning_29 : decode b_Model_beginning 29 = .ok (.aload_n 0, 1) := by decide +kernel
theorem d_Model_beginning_30 : decode b_Model_beginning 30 = .ok (.getfield 8, 3) := by decide +kernel
theorem d_Model_beginning_33 : decode b_Model_beginning 33 = .ok (.bipush 64, 2) := by decide +kernel
theorem d_Model_beginning_35 : decode b_Model_beginning 35 = .ok (.aload_n 0, 1) := by decide +kernel
theorem d_Model_beginning_36 : decode b_Model_beginning 36 = .ok (.iload_n 1, 1) := by decide +kernel
theorem d_Model_beginning_37 : decode b_Model_beginning 37 = .ok (.invokevirtual 145, 3) := by decide +kernel
theorem d_Model_beginning_40 : decode b_Model_beginning 40 = .ok (.i2b, 1) := by decide +kernel
theorem d_Model_beginning_41 : decode b_Model_beginning 41 = .ok (.bastore, 1) := by decide +kernel
theorem d_Model_beginning_42 : decode b_Model_beginning 42 = .ok (.bipush 59, 2) := by decide +kernel
theorem d_Model_beginning_44 : decode b_Model_beginning 44 = .ok (.istore_n 2, 1) := by decide +kernel
theorem d_Model_beginning_45 : decode b_Model_beginning 45 = .ok (.iconst 0, 1) := by decide +kernel
theorem d_Model_beginning_46 : decode b_Model_beginning 46 = .ok (.istore_n 3, 1) := by decide +kernel
theorem d_Model_beginning_47 : decode b_Model_beginning 47 = .ok (.iload_n 3, 1) := by decide +kernel
theorem d_Model_beginning_48 : decode b_Model_beginning 48 = .ok (.aload_n 0, 1) := by decide +kernel
theorem d_Model_beginning_49 : decode b_Model_beginning 49 = .ok (.getfield 28, 3) := by decide +kernel
theorem d_Model_beginning_52 : decode b_Model_beginning 52 = .ok (.iload_n 1, 1) := by decide +kernel
theorem d_Model_beginning_53 : decode b_Model_beginning 53 = .ok (.iaload, 1) := by decide +kernel
theorem d_Model_beginning_54 : decode b_Model_beginning 54 = .ok (.invokestatic 112, 3) := by decide +kernel
theorem d_Model_beginning_57 : decode b_Model_beginning 57 = .ok (.if_icmp .ge 78, 3) := by decide +kernel
theorem d_Model_beginning_60 : decode b_Model_beginning 60 = .ok (.iload_n 3, 1) := by decide +kernel
theorem d_Model_beginning_61 : decode b_Model_beginning 61 = .ok (.ifCond .eq 22, 3) := by decide +kernel
theorem d_Model_beginning_64 : decode b_Model_beginning 64 = .ok (.aload_n 0, 1) := by decide +kernel
theorem d_Model_beginning_65 : decode b_Model_beginning 65 = .ok (.iload_n 1, 1) := by decide +kernel
theorem d_Model_beginning_66 : decode b_Model_beginning 66 = .ok (.iload_n 3, 1) := by decide +kernel
theorem d_Model_beginning_67 : decode b_Model_beginning 67 = .ok (.invokevirtual 124, 3) := by decide +kernel
theorem d_Model_beginning_70 : decode b_Model_beginning 70 = .ok (.aload_n 0, 1) := by decide +kernel
theorem d_Model_beginning_71 : decode b_Model_beginning 71 = .ok (.iload_n 1, 1) := by decide +kernel
theorem d_Model_beginning_72 : decode b_Model_beginning 72 = .ok (.iload_n 3, 1) := by decide +kernel
theorem d_Model_beginning_73 : decode b_Model_beginning 73 = .ok (.iconst 1, 1) := by decide +kernel
theorem d_Model_beginning_74 : decode b_Model_beginning 74 = .ok (.isub, 1) := by decide +kernel
theorem d_Model_beginning_75 : decode b_Model_beginning 75 = .ok (.invokevirtual 124, 3) := by decide +kernel
theorem d_Model_beginning_78 : decode b_Model_beginning 78 = .ok (.iconst 1, 1) := by decide +kernel
theorem d_Model_beginning_79 : decode b_Model_beginning 79 = .ok (.iadd, 1) := by decide +kernel
theorem d_Model_beginning_80 : decode b_Model_beginning 80 = .ok (.if_icmp .eq 7, 3) := by decide +kernel
theorem d_Model_beginning_83 : decode b_Model_beginning 83 = .ok (.iconst 1, 1) := by decide +kernel
theorem d_Model_beginning_84 : decode b_Model_beginning 84 = .ok (.goto 4, 3) := by decide +kernel
theorem d_Model_beginning_87 : decode b_Model_beginning 87 = .ok (.iconst 0, 1) := by decide +kernel
theorem d_Model_beginning_88 : decode b_Model_beginning 88 = .ok (.istore 4, 2) := by decide +kernel
theorem d_Model_beginning_90 : decode b_Model_beginning 90 = .ok (.iload 4, 2) := by decide +kernel
theorem d_Model_beginning_92 : decode b_Model_beginning 92 = .ok (.ifCond .eq 19, 3) := by decide +kernel
theorem d_Model_beginning_95 : decode b_Model_beginning 95 = .ok (.iinc 2 6, 3) := by decide +kernel
theorem d_Model_beginning_98 : decode b_Model_beginning 98 = .ok (.aload_n 0, 1) := by decide +kernel
theorem d_Model_beginning_99 : decode b_Model_beginning 99 = .ok (.iload_n 2, 1) := by decide +kernel
theorem d_Model_beginning_100 : decode b_Model_beginning 100 = .ok (.iconst 4, 1) := by decide +kernel
theorem d_Model_beginning_101 : decode b_Model_beginning 101 = .ok (.aload_n 0, 1) := by decide +kernel
theorem d_Model_beginning_102 : decode b_Model_beginning 102 = .ok (.iload_n 1, 1) := by decide +kernel
theorem d_Model_beginning_103 : decode b_Model_beginning 103 = .ok (.iload_n 3, 1) := by decide +kernel
theorem d_Model_beginning_104 : decode b_Model_beginning 104 = .ok (.invokevirtual 124, 3) := by decide +kernel
theorem d_Model_beginning_107 : decode b_Model_beginning 107 = .ok (.i2l, 1) := by decide +kernel
theorem d_Model_beginning_108 : decode b_Model_beginning 108 = .ok (.invokevirtual 158, 3) := by decide +kernel
theorem d_Model_beginning_111 : decode b_Model_beginning 111 = .ok (.aload_n 0, 1) := by decide +kernel
theorem d_Model_beginning_112 : decode b_Model_beginning 112 = .ok (.iload_n 2, 1) := by decide +kernel
theorem d_Model_beginning_113 : decode b_Model_beginning 113 = .ok (.iconst 4, 1) := by decide +kernel
theorem d_Model_beginning_114 : decode b_Model_beginning 114 = .ok (.iadd, 1) := by decide +kernel
theorem d_Model_beginning_115 : decode b_Model_beginning 115 = .ok (.iconst 2, 1) := by decide +kernel
theorem d_Model_beginning_116 : decode b_Model_beginning 116 = .ok (.aload_n 0, 1) := by decide +kernel
theorem d_Model_beginning_117 : decode b_Model_beginning 117 = .ok (.iload_n 2, 1) := by decide +kernel
theorem d_Model_beginning_118 : decode b_Model_beginning 118 = .ok (.iconst 4, 1) := by decide +kernel
theorem d_Model_beginning_119 : decode b_Model_beginning 119 = .ok (.iadd, 1) := by decide +kernel
theorem d_Model_beginning_120 : decode b_Model_beginning 120 = .ok (.iconst 2, 1) := by decide +kernel
theorem d_Model_beginning_121 : decode b_Model_beginning 121 = .ok (.invokevirtual 162, 3) := by decide +kernel
theorem d_Model_beginning_124 : decode b_Model_beginning 124 = .ok (.lconst 1, 1) := by decide +kernel
theorem d_Model_beginning_125 : decode b_Model_beginning 125 = .ok (.ladd, 1) := by decide +kernel
theorem d_Model_beginning_126 : decode b_Model_beginning 126 = .ok (.invokevirtual 158, 3) := by decide +kernel
theorem d_Model_beginning_129 : decode b_Model_beginning 129 = .ok (.iinc 3 1, 3) := by decide +kernel
theorem d_Model_beginning_132 : decode b_Model_beginning 132 = .ok (.goto (-85), 3) := by decide +kernel
theorem d_Model_beginning_135 : decode b_Model_beginning 135 = .ok (.iconst (-1), 1) := by decide +kernel
theorem d_Model_beginning_136 : decode b_Model_beginning 136 = .ok (.istore_n 3, 1) := by decide +kernel
theorem d_Model_beginning_137 : decode b_Model_beginning 137 = .ok (.iconst 0, 1) := by decide +kernel
theorem d_Model_beginning_138 : decode b_Model_beginning 138 = .ok (.istore 4, 2) := by decide +kernel
theorem d_Model_beginning_140 : decode b_Model_beginning 140 = .ok (.iload 4, 2) := by decide +kernel
theorem d_Model_beginning_142 : decode b_Model_beginning 142 = .ok (.aload_n 0, 1) := by decide +kernel
theorem d_Model_beginning_143 : decode b_Model_beginning 143 = .ok (.getfield 28, 3) := by decide +kernel
theorem d_Model_beginning_146 : decode b_Model_beginning 146 = .ok (.iload_n 1, 1) := by decide +kernel
theorem d_Model_beginning_147 : decode b_Model_beginning 147 = .ok (.iaload, 1) := by decide +kernel
theorem d_Model_beginning_148 : decode b_Model_beginning 148 = .ok (.if_icmp .ge 21, 3) := by decide +kernel
theorem d_Model_beginning_151 : decode b_Model_beginning 151 = .ok (.iload_n 3, 1) := by decide +kernel
theorem d_Model_beginning_152 : decode b_Model_beginning 152 = .ok (.aload_n 0, 1) := by decide +kernel
theorem d_Model_beginning_153 : decode b_Model_beginning 153 = .ok (.iload_n 1, 1) := by decide +kernel
theorem d_Model_beginning_154 : decode b_Model_beginning 154 = .ok (.iload 4, 2) := by decide +kernel
theorem d_Model_beginning_156 : decode b_Model_beginning 156 = .ok (.invokevirtual 166, 3) := by decide +kernel
theorem d_Model_beginning_159 : decode b_Model_beginning 159 = .ok (.invokestatic 69, 3) := by decide +kernel
theorem d_Model_beginning_162 : decode b_Model_beginning 162 = .ok (.istore_n 3, 1) := by decide +kernel
theorem d_Model_beginning_163 : decode b_Model_beginning 163 = .ok (.iinc 4 1, 3) := by decide +kernel
theorem d_Model_beginning_166 : decode b_Model_beginning 166 = .ok (.goto (-26), 3) := by decide +kernel
theorem d_Model_beginning_169 : decode b_Model_beginning 169 = .ok (.aload_n 0, 1) := by decide +kernel
theorem d_Model_beginning_170 : decode b_Model_beginning 170 = .ok (.iload_n 2, 1) := by decide +kernel
theorem d_Model_beginning_171 : decode b_Model_beginning 171 = .ok (.bipush 6, 2) := by decide +kernel
theorem d_Model_beginning_173 : decode b_Model_beginning 173 = .ok (.iadd, 1) := by decide +kernel
theorem d_Model_beginning_174 : decode b_Model_beginning 174 = .ok (.iconst 4, 1) := by decide +kernel
theorem d_Model_beginning_175 : decode b_Model_beginning 175 = .ok (.aload_n 0, 1) := by decide +kernel
theorem d_Model_beginning_176 : decode b_Model_beginning 176 = .ok (.getfield 28, 3) := by decide +kernel
theorem d_Model_beginning_179 : decode b_Model_beginning 179 = .ok (.iload_n 1, 1) := by decide +kernel
theorem d_Model_beginning_180 : decode b_Model_beginning 180 = .ok (.iaload, 1) := by decide +kernel
theorem d_Model_beginning_181 : decode b_Model_beginning 181 = .ok (.i2l, 1) := by decide +kernel
theorem d_Model_beginning_182 : decode b_Model_beginning 182 = .ok (.invokevirtual 158, 3) := by decide +kernel
theorem d_Model_beginning_185 : decode b_Model_beginning 185 = .ok (.aload_n 0, 1) := by decide +kernel
theorem d_Model_beginning_186 : decode b_Model_beginning 186 = .ok (.iload_n 2, 1) := by decide +kernel
theorem d_Model_beginning_187 : decode b_Model_beginning 187 = .ok (.bipush 10, 2) := by decide +kernel
theorem d_Model_beginning_189 : decode b_Model_beginning 189 = .ok (.iadd, 1) := by decide +kernel
theorem d_Model_beginning_190 : decode b_Model_beginning 190 = .ok (.iconst 4, 1) := by decide +kernel
theorem d_Model_beginning_191 : decode b_Model_beginning 191 = .ok (.iload_n 3, 1) := by decide +kernel
theorem d_Model_beginning_192 : decode b_Model_beginning 192 = .ok (.iconst (-1), 1) := by decide +kernel
theorem d_Model_beginning_193 : decode b_Model_beginning 193 = .ok (.ixor, 1) := by decide +kernel
theorem d_Model_beginning_194 : decode b_Model_beginning 194 = .ok (.i2l, 1) := by decide +kernel
theorem d_Model_beginning_195 : decode b_Model_beginning 195 = .ok (.invokevirtual 158, 3) := by decide +kernel
theorem d_Model_beginning_198 : decode b_Model_beginning 198 = .ok (.aload_n 0, 1) := by decide +kernel
theorem d_Model_beginning_199 : decode b_Model_beginning 199 = .ok (.sipush 446, 3) := by decide +kernel
theorem d_Model_beginning_202 : decode b_Model_beginning 202 = .ok (.iconst 0, 1) := by decide +kernel
theorem d_Model_beginning_203 : decode b_Model_beginning 203 = .ok (.iconst 0, 1) := by decide +kernel
theorem d_Model_beginning_204 : decode b_Model_beginning 204 = .ok (.iconst 2, 1) := by decide +kernel
theorem d_Model_beginning_205 : decode b_Model_beginning 205 = .ok (.iconst 0, 1) := by decide +kernel
theorem d_Model_beginning_206 : decode b_Model_beginning 206 = .ok (.invokevirtual 169, 3) := by decide +kernel
theorem d_Model_beginning_209 : decode b_Model_beginning 209 = .ok (.aload_n 0, 1) := by decide +kernel
theorem d_Model_beginning_210 : decode b_Model_beginning 210 = .ok (.sipush 450, 3) := by decide +kernel
theorem d_Model_beginning_213 : decode b_Model_beginning 213 = .ok (.sipush 238, 3) := by decide +kernel
theorem d_Model_beginning_216 : decode b_Model_beginning 216 = .ok (.sipush 255, 3) := by decide +kernel
theorem d_Model_beginning_219 : decode b_Model_beginning 219 = .ok (.sipush 255, 3) := by decide +kernel
theorem d_Model_beginning_222 : decode b_Model_beginning 222 = .ok (.sipush 255, 3) := by decide +kernel
theorem d_Model_beginning_225 : decode b_Model_beginning 225 = .ok (.invokevirtual 169, 3) := by decide +kernel
theorem d_Model_beginning_228 : decode b_Model_beginning 228 = .ok (.aload_n 0, 1) := by decide +kernel
theorem d_Model_beginning_229 : decode b_Model_beginning 229 = .ok (.sipush 454, 3) := by decide +kernel
theorem d_Model_beginning_232 : decode b_Model_beginning 232 = .ok (.iconst 4, 1) := by decide +kernel
theorem d_Model_beginning_233 : decode b_Model_beginning 233 = .ok (.lconst 1, 1) := by decide +kernel
theorem d_Model_beginning_234 : decode b_Model_beginning 234 = .ok (.invokevirtual 158, 3) := by decide +kernel
theorem d_Model_beginning_237 : decode b_Model_beginning 237 = .ok (.aload_n 0, 1) := by decide +kernel
theorem d_Model_beginning_238 : decode b_Model_beginning 238 = .ok (.sipush 458, 3) := by decide +kernel
theorem d_Model_beginning_241 : decode b_Model_beginning 241 = .ok (.iconst 4, 1) := by decide +kernel
theorem d_Model_beginning_242 : decode b_Model_beginning 242 = .ok (.aload_n 0, 1) := by decide +kernel
theorem d_Model_beginning_243 : decode b_Model_beginning 243 = .ok (.getfield 48, 3) := by decide +kernel
theorem d_Model_beginning_246 : decode b_Model_beginning 246 = .ok (.iconst 1, 1) := by decide +kernel
theorem d_Model_beginning_247 : decode b_Model_beginning 247 = .ok (.isub, 1) := by decide +kernel
theorem d_Model_beginning_248 : decode b_Model_beginning 248 = .ok (.i2l, 1) := by decide +kernel
theorem d_Model_beginning_249 : decode b_Model_beginning 249 = .ok (.invokevirtual 158, 3) := by decide +kernel
theorem d_Model_beginning_252 : decode b_Model_beginning 252 = .ok (.aload_n 0, 1) := by decide +kernel
theorem d_Model_beginning_253 : decode b_Model_beginning 253 = .ok (.getfield 8, 3) := by decide +kernel
theorem d_Model_beginning_256 : decode b_Model_beginning 256 = .ok (.sipush 510, 3) := by decide +kernel
theorem d_Model_beginning_259 : decode b_Model_beginning 259 = .ok (.bipush 85, 2) := by decide +kernel
theorem d_Model_beginning_261 : decode b_Model_beginning 261 = .ok (.bastore, 1) := by decide +kernel
theorem d_Model_beginning_262 : decode b_Model_beginning 262 = .ok (.aload_n 0, 1) := by decide +kernel
theorem d_Model_beginning_263 : decode b_Model_beginning 263 = .ok (.getfield 8, 3) := by decide +kernel
theorem d_Model_beginning_266 : decode b_Model_beginning 266 = .ok (.sipush 511, 3) := by decide +kernel
theorem d_Model_beginning_269 : decode b_Model_beginning 269 = .ok (.bipush (-86), 2) := by decide +kernel
theorem d_Model_beginning_271 : decode b_Model_beginning 271 = .ok (.bastore, 1) := by decide +kernel
theorem d_Model_beginning_272 : decode b_Model_beginning 272 = .ok (.return_, 1) := by decide +kernel
set_option maxRecDepth 100000 in
theorem fc_Model_169 : FcV Wall classes R_Model 169 7 y_Model_word b_Model_word 6 (none) ws_Model_word 5 := ⟨⟨rfl, cw_Model_word, inW 987 rfl rfl, in_i_Model, by decide +kernel⟩, inW 989 rfl rfl, inP 45 rfl rfl, _, _, rfl⟩
set_option maxRecDepth 100000 in
theorem fc_Model_158 : FcV Wall classes R_Model 158 7 y_Model_low b_Model_low 6 (none) ws_Model_low 3 := ⟨⟨rfl, cw_Model_low, inW 958 rfl rfl, in_i_Model, by decide +kernel⟩, inW 960 rfl rfl, inP 40 rfl rfl, _, _, rfl⟩
set_option maxRecDepth 100000 in
theorem fc_Model_145 : FcV Wall classes R_Model 145 7 y_Model_runs b_Model_runs 4 (some .int) ws_Model_runs 1 := ⟨⟨rfl, cw_Model_runs, inW 940 rfl rfl, in_i_Model, by decide +kernel⟩, inW 942 rfl rfl, inP 36 rfl rfl, _, _, rfl⟩
set_option maxRecDepth 100000 in
theorem fc_Model_166 : FcV Wall classes R_Model 166 7 y_Model_byteOf b_Model_byteOf 4 (some .int) ws_Model_byteOf 2 := ⟨⟨rfl, cw_Model_byteOf, inW 971 rfl rfl, in_i_Model, by decide +kernel⟩, inW 973 rfl rfl, inP 42 rfl rfl, _, _, rfl⟩
set_option maxRecDepth 100000 in
theorem fc_Model_162 : FcV Wall classes R_Model 162 7 y_Model_lowAt b_Model_lowAt 6 (some .long) ws_Model_lowAt 2 := ⟨⟨rfl, cw_Model_lowAt, inW 983 rfl rfl, in_i_Model, by decide +kernel⟩, inW 985 rfl rfl, inP 44 rfl rfl, _, _, rfl⟩
