abbrev b_Model_runAt : ByteArray := prog_9_method_40_code
def y_Model_runAt : MethodName := ⟨"BootMakerModel", "runAt", "(I)I"⟩
def ws_Model_runAt : List Cond := Cond.code y_Model_runAt b_Model_runAt 5 (some .int) :: Wall
set_option maxRecDepth 100000 in
theorem cw_Model_runAt : Cond.code y_Model_runAt b_Model_runAt 5 (some .int) ∈ Wall := inW 1026 rfl rfl
abbrev b_Model_byLoader : ByteArray := prog_9_method_41_code
def y_Model_byLoader : MethodName := ⟨"BootMakerModel", "byLoader", "()I"⟩
def ws_Model_byLoader : List Cond := Cond.code y_Model_byLoader b_Model_byLoader 10 (some .int) :: Wall
set_option maxRecDepth 100000 in
theorem cw_Model_byLoader : Cond.code y_Model_byLoader b_Model_byLoader 10 (some .int) ∈ Wall := inW 1020 rfl rfl
abbrev b_Model_entryAt : ByteArray := prog_9_method_42_code
def y_Model_entryAt : MethodName := ⟨"BootMakerModel", "entryAt", "(II)I"⟩
def ws_Model_entryAt : List Cond := Cond.code y_Model_entryAt b_Model_entryAt 5 (some .int) :: Wall
set_option maxRecDepth 100000 in
theorem cw_Model_entryAt : Cond.code y_Model_entryAt b_Model_entryAt 5 (some .int) ∈ Wall := inW 1039 rfl rfl
abbrev b_Model_kernelEntry : ByteArray := prog_9_method_44_code
def y_Model_kernelEntry : MethodName := ⟨"BootMakerModel", "kernelEntry", "(I)I"⟩
def ws_Model_kernelEntry : List Cond := Cond.code y_Model_kernelEntry b_Model_kernelEntry 6 (some .int) :: Wall
set_option maxRecDepth 100000 in
theorem cw_Model_kernelEntry : Cond.code y_Model_kernelEntry b_Model_kernelEntry 6 (some .int) ∈ Wall := inW 1034 rfl rfl
theorem d_Model_runAt_0 : decode b_Model_runAt 0 = .ok (.iload_n 1, 1) := by decide +kernel
theorem d_Model_runAt_1 : decode b_Model_runAt 1 = .ok (.istore_n 2, 1) := by decide +kernel
theorem d_Model_runAt_2 : decode b_Model_runAt 2 = .ok (.iconst 0, 1) := by decide +kernel
theorem d_Model_runAt_3 : decode b_Model_runAt 3 = .ok (.istore_n 3, 1) := by decide +kernel
theorem d_Model_runAt_4 : decode b_Model_runAt 4 = .ok (.iload_n 3, 1) := by decide +kernel
theorem d_Model_runAt_5 : decode b_Model_runAt 5 = .ok (.aload_n 0, 1) := by decide +kernel
theorem d_Model_runAt_6 : decode b_Model_runAt 6 = .ok (.bipush 64, 2) := by decide +kernel
theorem d_Model_runAt_8 : decode b_Model_runAt 8 = .ok (.invokevirtual 64, 3) := by decide +kernel
theorem d_Model_runAt_11 : decode b_Model_runAt 11 = .ok (.if_icmp .ge 51, 3) := by decide +kernel
theorem d_Model_runAt_14 : decode b_Model_runAt 14 = .ok (.aload_n 0, 1) := by decide +kernel
theorem d_Model_runAt_15 : decode b_Model_runAt 15 = .ok (.bipush 69, 2) := by decide +kernel
theorem d_Model_runAt_17 : decode b_Model_runAt 17 = .ok (.bipush 6, 2) := by decide +kernel
theorem d_Model_runAt_19 : decode b_Model_runAt 19 = .ok (.iload_n 3, 1) := by decide +kernel
theorem d_Model_runAt_20 : decode b_Model_runAt 20 = .ok (.imul, 1) := by decide +kernel
theorem d_Model_runAt_21 : decode b_Model_runAt 21 = .ok (.iadd, 1) := by decide +kernel
theorem d_Model_runAt_22 : decode b_Model_runAt 22 = .ok (.iconst 2, 1) := by decide +kernel
theorem d_Model_runAt_23 : decode b_Model_runAt 23 = .ok (.invokevirtual 162, 3) := by decide +kernel
theorem d_Model_runAt_26 : decode b_Model_runAt 26 = .ok (.l2i, 1) := by decide +kernel
theorem d_Model_runAt_27 : decode b_Model_runAt 27 = .ok (.istore 4, 2) := by decide +kernel
theorem d_Model_runAt_29 : decode b_Model_runAt 29 = .ok (.iload_n 2, 1) := by decide +kernel
theorem d_Model_runAt_30 : decode b_Model_runAt 30 = .ok (.iload 4, 2) := by decide +kernel
theorem d_Model_runAt_32 : decode b_Model_runAt 32 = .ok (.if_icmp .ge 19, 3) := by decide +kernel
theorem d_Model_runAt_35 : decode b_Model_runAt 35 = .ok (.aload_n 0, 1) := by decide +kernel
theorem d_Model_runAt_36 : decode b_Model_runAt 36 = .ok (.bipush 65, 2) := by decide +kernel
theorem d_Model_runAt_38 : decode b_Model_runAt 38 = .ok (.bipush 6, 2) := by decide +kernel
theorem d_Model_runAt_40 : decode b_Model_runAt 40 = .ok (.iload_n 3, 1) := by decide +kernel
theorem d_Model_runAt_41 : decode b_Model_runAt 41 = .ok (.imul, 1) := by decide +kernel
theorem d_Model_runAt_42 : decode b_Model_runAt 42 = .ok (.iadd, 1) := by decide +kernel
theorem d_Model_runAt_43 : decode b_Model_runAt 43 = .ok (.iconst 4, 1) := by decide +kernel
theorem d_Model_runAt_44 : decode b_Model_runAt 44 = .ok (.invokevirtual 162, 3) := by decide +kernel
theorem d_Model_runAt_47 : decode b_Model_runAt 47 = .ok (.l2i, 1) := by decide +kernel
theorem d_Model_runAt_48 : decode b_Model_runAt 48 = .ok (.iload_n 2, 1) := by decide +kernel
theorem d_Model_runAt_49 : decode b_Model_runAt 49 = .ok (.iadd, 1) := by decide +kernel
theorem d_Model_runAt_50 : decode b_Model_runAt 50 = .ok (.ireturn, 1) := by decide +kernel
theorem d_Model_runAt_51 : decode b_Model_runAt 51 = .ok (.iload_n 2, 1) := by decide +kernel
theorem d_Model_runAt_52 : decode b_Model_runAt 52 = .ok (.iload 4, 2) := by decide +kernel
theorem d_Model_runAt_54 : decode b_Model_runAt 54 = .ok (.isub, 1) := by decide +kernel
theorem d_Model_runAt_55 : decode b_Model_runAt 55 = .ok (.istore_n 2, 1) := by decide +kernel
theorem d_Model_runAt_56 : decode b_Model_runAt 56 = .ok (.iinc 3 1, 3) := by decide +kernel
theorem d_Model_runAt_59 : decode b_Model_runAt 59 = .ok (.goto (-55), 3) := by decide +kernel
theorem d_Model_runAt_62 : decode b_Model_runAt 62 = .ok (.iconst (-1), 1) := by decide +kernel
theorem d_Model_runAt_63 : decode b_Model_runAt 63 = .ok (.ireturn, 1) := by decide +kernel
theorem d_Model_byLoader_0 : decode b_Model_byLoader 0 = .ok (.aload_n 0, 1) := by decide +kernel
theorem d_Model_byLoader_1 : decode b_Model_byLoader 1 = .ok (.bipush 64, 2) := by decide +kernel
theorem d_Model_byLoader_3 : decode b_Model_byLoader 3 = .ok (.invokevirtual 64, 3) := by decide +kernel
theorem d_Model_byLoader_6 : decode b_Model_byLoader 6 = .ok (.istore_n 1, 1) := by decide +kernel
theorem d_Model_byLoader_7 : decode b_Model_byLoader 7 = .ok (.iload_n 1, 1) := by decide +kernel
theorem d_Model_byLoader_8 : decode b_Model_byLoader 8 = .ok (.ifCond .eq 9, 3) := by decide +kernel
theorem d_Model_byLoader_11 : decode b_Model_byLoader 11 = .ok (.iload_n 1, 1) := by decide +kernel
theorem d_Model_byLoader_12 : decode b_Model_byLoader 12 = .ok (.bipush 20, 2) := by decide +kernel
theorem d_Model_byLoader_14 : decode b_Model_byLoader 14 = .ok (.if_icmp .le 6, 3) := by decide +kernel
theorem d_Model_byLoader_17 : decode b_Model_byLoader 17 = .ok (.bipush 9, 2) := by decide +kernel
theorem d_Model_byLoader_19 : decode b_Model_byLoader 19 = .ok (.ireturn, 1) := by decide +kernel
theorem d_Model_byLoader_20 : decode b_Model_byLoader 20 = .ok (.lconst 0, 1) := by decide +kernel
theorem d_Model_byLoader_21 : decode b_Model_byLoader 21 = .ok (.lstore_n 2, 1) := by decide +kernel
theorem d_Model_byLoader_22 : decode b_Model_byLoader 22 = .ok (.iconst 0, 1) := by decide +kernel
theorem d_Model_byLoader_23 : decode b_Model_byLoader 23 = .ok (.istore 4, 2) := by decide +kernel
theorem d_Model_byLoader_25 : decode b_Model_byLoader 25 = .ok (.iload 4, 2) := by decide +kernel
theorem d_Model_byLoader_27 : decode b_Model_byLoader 27 = .ok (.iload_n 1, 1) := by decide +kernel
theorem d_Model_byLoader_28 : decode b_Model_byLoader 28 = .ok (.if_icmp .ge 68, 3) := by decide +kernel
theorem d_Model_byLoader_31 : decode b_Model_byLoader 31 = .ok (.aload_n 0, 1) := by decide +kernel
theorem d_Model_byLoader_32 : decode b_Model_byLoader 32 = .ok (.bipush 65, 2) := by decide +kernel
theorem d_Model_byLoader_34 : decode b_Model_byLoader 34 = .ok (.bipush 6, 2) := by decide +kernel
theorem d_Model_byLoader_36 : decode b_Model_byLoader 36 = .ok (.iload 4, 2) := by decide +kernel
theorem d_Model_byLoader_38 : decode b_Model_byLoader 38 = .ok (.imul, 1) := by decide +kernel
theorem d_Model_byLoader_39 : decode b_Model_byLoader 39 = .ok (.iadd, 1) := by decide +kernel
theorem d_Model_byLoader_40 : decode b_Model_byLoader 40 = .ok (.iconst 4, 1) := by decide +kernel
theorem d_Model_byLoader_41 : decode b_Model_byLoader 41 = .ok (.invokevirtual 162, 3) := by decide +kernel
theorem d_Model_byLoader_44 : decode b_Model_byLoader 44 = .ok (.lstore 5, 2) := by decide +kernel
theorem d_Model_byLoader_46 : decode b_Model_byLoader 46 = .ok (.aload_n 0, 1) := by decide +kernel
theorem d_Model_byLoader_47 : decode b_Model_byLoader 47 = .ok (.bipush 69, 2) := by decide +kernel
theorem d_Model_byLoader_49 : decode b_Model_byLoader 49 = .ok (.bipush 6, 2) := by decide +kernel
theorem d_Model_byLoader_51 : decode b_Model_byLoader 51 = .ok (.iload 4, 2) := by decide +kernel
theorem d_Model_byLoader_53 : decode b_Model_byLoader 53 = .ok (.imul, 1) := by decide +kernel
theorem d_Model_byLoader_54 : decode b_Model_byLoader 54 = .ok (.iadd, 1) := by decide +kernel
theorem d_Model_byLoader_55 : decode b_Model_byLoader 55 = .ok (.iconst 2, 1) := by decide +kernel
theorem d_Model_byLoader_56 : decode b_Model_byLoader 56 = .ok (.invokevirtual 162, 3) := by decide +kernel
theorem d_Model_byLoader_59 : decode b_Model_byLoader 59 = .ok (.lstore 7, 2) := by decide +kernel
theorem d_Model_byLoader_61 : decode b_Model_byLoader 61 = .ok (.lload 7, 2) := by decide +kernel
theorem d_Model_byLoader_63 : decode b_Model_byLoader 63 = .ok (.lconst 0, 1) := by decide +kernel
theorem d_Model_byLoader_64 : decode b_Model_byLoader 64 = .ok (.lcmp, 1) := by decide +kernel
theorem d_Model_byLoader_65 : decode b_Model_byLoader 65 = .ok (.ifCond .eq 17, 3) := by decide +kernel
theorem d_Model_byLoader_68 : decode b_Model_byLoader 68 = .ok (.lload 5, 2) := by decide +kernel
theorem d_Model_byLoader_70 : decode b_Model_byLoader 70 = .ok (.lload 7, 2) := by decide +kernel
theorem d_Model_byLoader_72 : decode b_Model_byLoader 72 = .ok (.ladd, 1) := by decide +kernel
theorem d_Model_byLoader_73 : decode b_Model_byLoader 73 = .ok (.aload_n 0, 1) := by decide +kernel
theorem d_Model_byLoader_74 : decode b_Model_byLoader 74 = .ok (.getfield 48, 3) := by decide +kernel
theorem d_Model_byLoader_77 : decode b_Model_byLoader 77 = .ok (.i2l, 1) := by decide +kernel
theorem d_Model_byLoader_78 : decode b_Model_byLoader 78 = .ok (.lcmp, 1) := by decide +kernel
theorem d_Model_byLoader_79 : decode b_Model_byLoader 79 = .ok (.ifCond .le 6, 3) := by decide +kernel
theorem d_Model_byLoader_82 : decode b_Model_byLoader 82 = .ok (.bipush 9, 2) := by decide +kernel
theorem d_Model_byLoader_84 : decode b_Model_byLoader 84 = .ok (.ireturn, 1) := by decide +kernel
theorem d_Model_byLoader_85 : decode b_Model_byLoader 85 = .ok (.lload_n 2, 1) := by decide +kernel
theorem d_Model_byLoader_86 : decode b_Model_byLoader 86 = .ok (.lload 7, 2) := by decide +kernel
theorem d_Model_byLoader_88 : decode b_Model_byLoader 88 = .ok (.ladd, 1) := by decide +kernel
theorem d_Model_byLoader_89 : decode b_Model_byLoader 89 = .ok (.lstore_n 2, 1) := by decide +kernel
theorem d_Model_byLoader_90 : decode b_Model_byLoader 90 = .ok (.iinc 4 1, 3) := by decide +kernel
theorem d_Model_byLoader_93 : decode b_Model_byLoader 93 = .ok (.goto (-68), 3) := by decide +kernel
theorem d_Model_byLoader_96 : decode b_Model_byLoader 96 = .ok (.aload_n 0, 1) := by decide +kernel
theorem d_Model_byLoader_97 : decode b_Model_byLoader 97 = .ok (.bipush 65, 2) := by decide +kernel
theorem d_Model_byLoader_99 : decode b_Model_byLoader 99 = .ok (.bipush 6, 2) := by decide +kernel
theorem d_Model_byLoader_101 : decode b_Model_byLoader 101 = .ok (.iload_n 1, 1) := by decide +kernel
theorem d_Model_byLoader_102 : decode b_Model_byLoader 102 = .ok (.imul, 1) := by decide +kernel
theorem d_Model_byLoader_103 : decode b_Model_byLoader 103 = .ok (.iadd, 1) := by decide +kernel
theorem d_Model_byLoader_104 : decode b_Model_byLoader 104 = .ok (.iconst 4, 1) := by decide +kernel
theorem d_Model_byLoader_105 : decode b_Model_byLoader 105 = .ok (.invokevirtual 162, 3) := by decide +kernel
theorem d_Model_byLoader_108 : decode b_Model_byLoader 108 = .ok (.lstore 4, 2) := by decide +kernel
theorem d_Model_byLoader_110 : decode b_Model_byLoader 110 = .ok (.lload 4, 2) := by decide +kernel
theorem d_Model_byLoader_112 : decode b_Model_byLoader 112 = .ok (.ldc2_w 230, 3) := by decide +kernel
theorem d_Model_byLoader_115 : decode b_Model_byLoader 115 = .ok (.lcmp, 1) := by decide +kernel
theorem d_Model_byLoader_116 : decode b_Model_byLoader 116 = .ok (.ifCond .lt 23, 3) := by decide +kernel
theorem d_Model_byLoader_119 : decode b_Model_byLoader 119 = .ok (.lload 4, 2) := by decide +kernel
theorem d_Model_byLoader_121 : decode b_Model_byLoader 121 = .ok (.ldc2_w 232, 3) := by decide +kernel
theorem d_Model_byLoader_124 : decode b_Model_byLoader 124 = .ok (.lcmp, 1) := by decide +kernel
theorem d_Model_byLoader_125 : decode b_Model_byLoader 125 = .ok (.ifCond .gt 14, 3) := by decide +kernel
theorem d_Model_byLoader_128 : decode b_Model_byLoader 128 = .ok (.ldc2_w 77, 3) := by decide +kernel
theorem d_Model_byLoader_131 : decode b_Model_byLoader 131 = .ok (.lload_n 2, 1) := by decide +kernel
theorem d_Model_byLoader_132 : decode b_Model_byLoader 132 = .ok (.lmul, 1) := by decide +kernel
theorem d_Model_byLoader_133 : decode b_Model_byLoader 133 = .ok (.lload 4, 2) := by decide +kernel
theorem d_Model_byLoader_135 : decode b_Model_byLoader 135 = .ok (.lcmp, 1) := by decide +kernel
theorem d_Model_byLoader_136 : decode b_Model_byLoader 136 = .ok (.ifCond .ge 6, 3) := by decide +kernel
theorem d_Model_byLoader_139 : decode b_Model_byLoader 139 = .ok (.bipush 9, 2) := by decide +kernel
theorem d_Model_byLoader_141 : decode b_Model_byLoader 141 = .ok (.ireturn, 1) := by decide +kernel
theorem d_Model_byLoader_142 : decode b_Model_byLoader 142 = .ok (.iconst (-1), 1) := by decide +kernel
theorem d_Model_byLoader_143 : decode b_Model_byLoader 143 = .ok (.istore 6, 2) := by decide +kernel
theorem d_Model_byLoader_145 : decode b_Model_byLoader 145 = .ok (.iconst 0, 1) := by decide +kernel
theorem d_Model_byLoader_146 : decode b_Model_byLoader 146 = .ok (.istore 7, 2) := by decide +kernel
theorem d_Model_byLoader_148 : decode b_Model_byLoader 148 = .ok (.iload 7, 2) := by decide +kernel
theorem d_Model_byLoader_150 : decode b_Model_byLoader 150 = .ok (.i2l, 1) := by decide +kernel
theorem d_Model_byLoader_151 : decode b_Model_byLoader 151 = .ok (.lload 4, 2) := by decide +kernel
theorem d_Model_byLoader_153 : decode b_Model_byLoader 153 = .ok (.lcmp, 1) := by decide +kernel
theorem d_Model_byLoader_154 : decode b_Model_byLoader 154 = .ok (.ifCond .ge 41, 3) := by decide +kernel
theorem d_Model_byLoader_157 : decode b_Model_byLoader 157 = .ok (.iload 6, 2) := by decide +kernel
theorem d_Model_byLoader_159 : decode b_Model_byLoader 159 = .ok (.aload_n 0, 1) := by decide +kernel
theorem d_Model_byLoader_160 : decode b_Model_byLoader 160 = .ok (.sipush 512, 3) := by decide +kernel
theorem d_Model_byLoader_163 : decode b_Model_byLoader 163 = .ok (.aload_n 0, 1) := by decide +kernel
theorem d_Model_byLoader_164 : decode b_Model_byLoader 164 = .ok (.iload 7, 2) := by decide +kernel
theorem d_Model_byLoader_166 : decode b_Model_byLoader 166 = .ok (.sipush 512, 3) := by decide +kernel
theorem d_Model_byLoader_169 : decode b_Model_byLoader 169 = .ok (.idiv, 1) := by decide +kernel
theorem d_Model_byLoader_170 : decode b_Model_byLoader 170 = .ok (.invokevirtual 234, 3) := by decide +kernel
theorem d_Model_byLoader_173 : decode b_Model_byLoader 173 = .ok (.imul, 1) := by decide +kernel
theorem d_Model_byLoader_174 : decode b_Model_byLoader 174 = .ok (.iload 7, 2) := by decide +kernel
theorem d_Model_byLoader_176 : decode b_Model_byLoader 176 = .ok (.sipush 512, 3) := by decide +kernel
theorem d_Model_byLoader_179 : decode b_Model_byLoader 179 = .ok (.irem, 1) := by decide +kernel
theorem d_Model_byLoader_180 : decode b_Model_byLoader 180 = .ok (.iadd, 1) := by decide +kernel
theorem d_Model_byLoader_181 : decode b_Model_byLoader 181 = .ok (.invokevirtual 64, 3) := by decide +kernel
theorem d_Model_byLoader_184 : decode b_Model_byLoader 184 = .ok (.invokestatic 69, 3) := by decide +kernel
theorem d_Model_byLoader_187 : decode b_Model_byLoader 187 = .ok (.istore 6, 2) := by decide +kernel
theorem d_Model_byLoader_189 : decode b_Model_byLoader 189 = .ok (.iinc 7 1, 3) := by decide +kernel
theorem d_Model_byLoader_192 : decode b_Model_byLoader 192 = .ok (.goto (-44), 3) := by decide +kernel
theorem d_Model_byLoader_195 : decode b_Model_byLoader 195 = .ok (.sipush 512, 3) := by decide +kernel
theorem d_Model_byLoader_198 : decode b_Model_byLoader 198 = .ok (.aload_n 0, 1) := by decide +kernel
theorem d_Model_byLoader_199 : decode b_Model_byLoader 199 = .ok (.iconst 0, 1) := by decide +kernel
theorem d_Model_byLoader_200 : decode b_Model_byLoader 200 = .ok (.invokevirtual 234, 3) := by decide +kernel
theorem d_Model_byLoader_203 : decode b_Model_byLoader 203 = .ok (.imul, 1) := by decide +kernel
theorem d_Model_byLoader_204 : decode b_Model_byLoader 204 = .ok (.istore 7, 2) := by decide +kernel
theorem d_Model_byLoader_206 : decode b_Model_byLoader 206 = .ok (.iload 6, 2) := by decide +kernel
theorem d_Model_byLoader_208 : decode b_Model_byLoader 208 = .ok (.iconst (-1), 1) := by decide +kernel
theorem d_Model_byLoader_209 : decode b_Model_byLoader 209 = .ok (.ixor, 1) := by decide +kernel
theorem d_Model_byLoader_210 : decode b_Model_byLoader 210 = .ok (.aload_n 0, 1) := by decide +kernel
theorem d_Model_byLoader_211 : decode b_Model_byLoader 211 = .ok (.bipush 69, 2) := by decide +kernel
theorem d_Model_byLoader_213 : decode b_Model_byLoader 213 = .ok (.bipush 6, 2) := by decide +kernel
theorem d_Model_byLoader_215 : decode b_Model_byLoader 215 = .ok (.iload_n 1, 1) := by decide +kernel
theorem d_Model_byLoader_216 : decode b_Model_byLoader 216 = .ok (.imul, 1) := by decide +kernel
theorem d_Model_byLoader_217 : decode b_Model_byLoader 217 = .ok (.iadd, 1) := by decide +kernel
theorem d_Model_byLoader_218 : decode b_Model_byLoader 218 = .ok (.iconst 4, 1) := by decide +kernel
theorem d_Model_byLoader_219 : decode b_Model_byLoader 219 = .ok (.invokevirtual 162, 3) := by decide +kernel
theorem d_Model_byLoader_222 : decode b_Model_byLoader 222 = .ok (.l2i, 1) := by decide +kernel
theorem d_Model_byLoader_223 : decode b_Model_byLoader 223 = .ok (.if_icmp .ne 53, 3) := by decide +kernel
theorem d_Model_byLoader_226 : decode b_Model_byLoader 226 = .ok (.aload_n 0, 1) := by decide +kernel
theorem d_Model_byLoader_227 : decode b_Model_byLoader 227 = .ok (.iload 7, 2) := by decide +kernel
theorem d_Model_byLoader_229 : decode b_Model_byLoader 229 = .ok (.invokevirtual 64, 3) := by decide +kernel
theorem d_Model_byLoader_232 : decode b_Model_byLoader 232 = .ok (.bipush 76, 2) := by decide +kernel
theorem d_Model_byLoader_234 : decode b_Model_byLoader 234 = .ok (.if_icmp .ne 42, 3) := by decide +kernel
theorem d_Model_byLoader_237 : decode b_Model_byLoader 237 = .ok (.aload_n 0, 1) := by decide +kernel
theorem d_Model_byLoader_238 : decode b_Model_byLoader 238 = .ok (.iload 7, 2) := by decide +kernel
theorem d_Model_byLoader_240 : decode b_Model_byLoader 240 = .ok (.iconst 1, 1) := by decide +kernel
theorem d_Model_byLoader_241 : decode b_Model_byLoader 241 = .ok (.iadd, 1) := by decide +kernel
theorem d_Model_byLoader_242 : decode b_Model_byLoader 242 = .ok (.invokevirtual 64, 3) := by decide +kernel
theorem d_Model_byLoader_245 : decode b_Model_byLoader 245 = .ok (.bipush 79, 2) := by decide +kernel
theorem d_Model_byLoader_247 : decode b_Model_byLoader 247 = .ok (.if_icmp .ne 29, 3) := by decide +kernel
theorem d_Model_byLoader_250 : decode b_Model_byLoader 250 = .ok (.aload_n 0, 1) := by decide +kernel
theorem d_Model_byLoader_251 : decode b_Model_byLoader 251 = .ok (.iload 7, 2) := by decide +kernel
theorem d_Model_byLoader_253 : decode b_Model_byLoader 253 = .ok (.iconst 2, 1) := by decide +kernel
theorem d_Model_byLoader_254 : decode b_Model_byLoader 254 = .ok (.iadd, 1) := by decide +kernel
theorem d_Model_byLoader_255 : decode b_Model_byLoader 255 = .ok (.invokevirtual 64, 3) := by decide +kernel
theorem d_Model_byLoader_258 : decode b_Model_byLoader 258 = .ok (.bipush 65, 2) := by decide +kernel
theorem d_Model_byLoader_260 : decode b_Model_byLoader 260 = .ok (.if_icmp .ne 16, 3) := by decide +kernel
theorem d_Model_byLoader_263 : decode b_Model_byLoader 263 = .ok (.aload_n 0, 1) := by decide +kernel
theorem d_Model_byLoader_264 : decode b_Model_byLoader 264 = .ok (.iload 7, 2) := by decide +kernel
theorem d_Model_byLoader_266 : decode b_Model_byLoader 266 = .ok (.iconst 3, 1) := by decide +kernel
theorem d_Model_byLoader_267 : decode b_Model_byLoader 267 = .ok (.iadd, 1) := by decide +kernel
theorem d_Model_byLoader_268 : decode b_Model_byLoader 268 = .ok (.invokevirtual 64, 3) := by decide +kernel
theorem d_Model_byLoader_271 : decode b_Model_byLoader 271 = .ok (.bipush 68, 2) := by decide +kernel
theorem d_Model_byLoader_273 : decode b_Model_byLoader 273 = .ok (.if_icmp .eq 6, 3) := by decide +kernel
theorem d_Model_byLoader_276 : decode b_Model_byLoader 276 = .ok (.bipush 9, 2) := by decide +kernel
theorem d_Model_byLoader_278 : decode b_Model_byLoader 278 = .ok (.ireturn, 1) := by decide +kernel
theorem d_Model_byLoader_279 : decode b_Model_byLoader 279 = .ok (.aload_n 0, 1) := by decide +kernel
theorem d_Model_byLoader_280 : decode b_Model_byLoader 280 = .ok (.iload 7, 2) := by decide +kernel
theorem d_Model_byLoader_282 : decode b_Model_byLoader 282 = .ok (.iconst 4, 1) := by decide +kernel
theorem d_Model_byLoader_283 : decode b_Model_byLoader 283 = .ok (.iadd, 1) := by decide +kernel
theorem d_Model_byLoader_284 : decode b_Model_byLoader 284 = .ok (.iconst 4, 1) := by decide +kernel
theorem d_Model_byLoader_285 : decode b_Model_byLoader 285 = .ok (.invokevirtual 162, 3) := by decide +kernel
theorem d_Model_byLoader_288 : decode b_Model_byLoader 288 = .ok (.lstore 8, 2) := by decide +kernel
theorem d_Model_byLoader_290 : decode b_Model_byLoader 290 = .ok (.lload 8, 2) := by decide +kernel
theorem d_Model_byLoader_292 : decode b_Model_byLoader 292 = .ok (.aload_n 0, 1) := by decide +kernel
theorem d_Model_byLoader_293 : decode b_Model_byLoader 293 = .ok (.getfield 48, 3) := by decide +kernel
theorem d_Model_byLoader_296 : decode b_Model_byLoader 296 = .ok (.i2l, 1) := by decide +kernel
theorem d_Model_byLoader_297 : decode b_Model_byLoader 297 = .ok (.lcmp, 1) := by decide +kernel
theorem d_Model_byLoader_298 : decode b_Model_byLoader 298 = .ok (.ifCond .lt 6, 3) := by decide +kernel
theorem d_Model_byLoader_301 : decode b_Model_byLoader 301 = .ok (.bipush 9, 2) := by decide +kernel
theorem d_Model_byLoader_303 : decode b_Model_byLoader 303 = .ok (.ireturn, 1) := by decide +kernel
theorem d_Model_byLoader_304 : decode b_Model_byLoader 304 = .ok (.aload_n 0, 1) := by decide +kernel
theorem d_Model_byLoader_305 : decode b_Model_byLoader 305 = .ok (.lload 8, 2) := by decide +kernel
theorem d_Model_byLoader_307 : decode b_Model_byLoader 307 = .ok (.l2i, 1) := by decide +kernel
theorem d_Model_byLoader_308 : decode b_Model_byLoader 308 = .ok (.putfield 52, 3) := by decide +kernel
theorem d_Model_byLoader_311 : decode b_Model_byLoader 311 = .ok (.iconst 0, 1) := by decide +kernel
theorem d_Model_byLoader_312 : decode b_Model_byLoader 312 = .ok (.ireturn, 1) := by decide +kernel
theorem d_Model_entryAt_0 : decode b_Model_entryAt 0 = .ok (.sipush 512, 3) := by decide +kernel
theorem d_Model_entryAt_3 : decode b_Model_entryAt 3 = .ok (.iload_n 1, 1) := by decide +kernel
theorem d_Model_entryAt_4 : decode b_Model_entryAt 4 = .ok (.imul, 1) := by decide +kernel
theorem d_Model_entryAt_5 : decode b_Model_entryAt 5 = .ok (.iload_n 2, 1) := by decide +kernel
theorem d_Model_entryAt_6 : decode b_Model_entryAt 6 = .ok (.iconst 3, 1) := by decide +kernel
theorem d_Model_entryAt_7 : decode b_Model_entryAt 7 = .ok (.imul, 1) := by decide +kernel
theorem d_Model_entryAt_8 : decode b_Model_entryAt 8 = .ok (.iconst 2, 1) := by decide +kernel
theorem d_Model_entryAt_9 : decode b_Model_entryAt 9 = .ok (.idiv, 1) := by decide +kernel
theorem d_Model_entryAt_10 : decode b_Model_entryAt 10 = .ok (.iadd, 1) := by decide +kernel
theorem d_Model_entryAt_11 : decode b_Model_entryAt 11 = .ok (.istore_n 3, 1) := by decide +kernel
theorem d_Model_entryAt_12 : decode b_Model_entryAt 12 = .ok (.aload_n 0, 1) := by decide +kernel
theorem d_Model_entryAt_13 : decode b_Model_entryAt 13 = .ok (.iload_n 3, 1) := by decide +kernel
theorem d_Model_entryAt_14 : decode b_Model_entryAt 14 = .ok (.invokevirtual 64, 3) := by decide +kernel
theorem d_Model_entryAt_17 : decode b_Model_entryAt 17 = .ok (.aload_n 0, 1) := by decide +kernel
theorem d_Model_entryAt_18 : decode b_Model_entryAt 18 = .ok (.iload_n 3, 1) := by decide +kernel
theorem d_Model_entryAt_19 : decode b_Model_entryAt 19 = .ok (.iconst 1, 1) := by decide +kernel
theorem d_Model_entryAt_20 : decode b_Model_entryAt 20 = .ok (.iadd, 1) := by decide +kernel
theorem d_Model_entryAt_21 : decode b_Model_entryAt 21 = .ok (.invokevirtual 64, 3) := by decide +kernel
theorem d_Model_entryAt_24 : decode b_Model_entryAt 24 = .ok (.bipush 8, 2) := by decide +kernel
theorem d_Model_entryAt_26 : decode b_Model_entryAt 26 = .ok (.ishl, 1) := by decide +kernel
theorem d_Model_entryAt_27 : decode b_Model_entryAt 27 = .ok (.ior, 1) := by decide +kernel
theorem d_Model_entryAt_28 : decode b_Model_entryAt 28 = .ok (.istore 4, 2) := by decide +kernel
theorem d_Model_entryAt_30 : decode b_Model_entryAt 30 = .ok (.iload_n 2, 1) := by decide +kernel
theorem d_Model_entryAt_31 : decode b_Model_entryAt 31 = .ok (.iconst 2, 1) := by decide +kernel
theorem d_Model_entryAt_32 : decode b_Model_entryAt 32 = .ok (.irem, 1) := by decide +kernel
theorem d_Model_entryAt_33 : decode b_Model_entryAt 33 = .ok (.ifCond .ne 12, 3) := by decide +kernel
theorem d_Model_entryAt_36 : decode b_Model_entryAt 36 = .ok (.iload 4, 2) := by decide +kernel
theorem d_Model_entryAt_38 : decode b_Model_entryAt 38 = .ok (.sipush 4095, 3) := by decide +kernel
theorem d_Model_entryAt_41 : decode b_Model_entryAt 41 = .ok (.iand, 1) := by decide +kernel
theorem d_Model_entryAt_42 : decode b_Model_entryAt 42 = .ok (.goto 7, 3) := by decide +kernel
theorem d_Model_entryAt_45 : decode b_Model_entryAt 45 = .ok (.iload 4, 2) := by decide +kernel
theorem d_Model_entryAt_47 : decode b_Model_entryAt 47 = .ok (.iconst 4, 1) := by decide +kernel
theorem d_Model_entryAt_48 : decode b_Model_entryAt 48 = .ok (.ishr, 1) := by decide +kernel
theorem d_Model_entryAt_49 : decode b_Model_entryAt 49 = .ok (.ireturn, 1) := by decide +kernel
theorem d_Model_kernelEntry_0 : decode b_Model_kernelEntry 0 = .ok (.iconst 0, 1) := by decide +kernel
theorem d_Model_kernelEntry_1 : decode b_Model_kernelEntry 1 = .ok (.istore_n 2, 1) := by decide +kernel
theorem d_Model_kernelEntry_2 : decode b_Model_kernelEntry 2 = .ok (.iload_n 2, 1) := by decide +kernel
theorem d_Model_kernelEntry_3 : decode b_Model_kernelEntry 3 = .ok (.bipush 32, 2) := by decide +kernel
theorem d_Model_kernelEntry_5 : decode b_Model_kernelEntry 5 = .ok (.if_icmp .ge 169, 3) := by decide +kernel
theorem d_Model_kernelEntry_8 : decode b_Model_kernelEntry 8 = .ok (.sipush 512, 3) := by decide +kernel
theorem d_Model_kernelEntry_11 : decode b_Model_kernelEntry 11 = .ok (.iload_n 1, 1) := by decide +kernel
theorem d_Model_kernelEntry_12 : decode b_Model_kernelEntry 12 = .ok (.imul, 1) := by decide +kernel
theorem d_Model_kernelEntry_13 : decode b_Model_kernelEntry 13 = .ok (.bipush 32, 2) := by decide +kernel
theorem d_Model_kernelEntry_15 : decode b_Model_kernelEntry 15 = .ok (.iload_n 2, 1) := by decide +kernel
theorem d_Model_kernelEntry_16 : decode b_Model_kernelEntry 16 = .ok (.imul, 1) := by decide +kernel
theorem d_Model_kernelEntry_17 : decode b_Model_kernelEntry 17 = .ok (.iadd, 1) := by decide +kernel
theorem d_Model_kernelEntry_18 : decode b_Model_kernelEntry 18 = .ok (.istore_n 3, 1) := by decide +kernel
theorem d_Model_kernelEntry_19 : decode b_Model_kernelEntry 19 = .ok (.aload_n 0, 1) := by decide +kernel
theorem d_Model_kernelEntry_20 : decode b_Model_kernelEntry 20 = .ok (.iload_n 3, 1) := by decide +kernel
theorem d_Model_kernelEntry_21 : decode b_Model_kernelEntry 21 = .ok (.invokevirtual 64, 3) := by decide +kernel
theorem d_Model_kernelEntry_24 : decode b_Model_kernelEntry 24 = .ok (.ifCond .ne 5, 3) := by decide +kernel
theorem d_Model_kernelEntry_27 : decode b_Model_kernelEntry 27 = .ok (.iconst (-1), 1) := by decide +kernel
theorem d_Model_kernelEntry_28 : decode b_Model_kernelEntry 28 = .ok (.ireturn, 1) := by decide +kernel
theorem d_Model_kernelEntry_29 : decode b_Model_kernelEntry 29 = .ok (.aload_n 0, 1) := by decide +kernel
theorem d_Model_kernelEntry_30 : decode b_Model_kernelEntry 30 = .ok (.iload_n 3, 1) := by decide +kernel
theorem d_Model_kernelEntry_31 : decode b_Model_kernelEntry 31 = .ok (.invokevirtual 64, 3) := by decide +kernel
theorem d_Model_kernelEntry_34 : decode b_Model_kernelEntry 34 = .ok (.bipush 75, 2) := by decide +kernel
theorem d_Model_kernelEntry_36 : decode b_Model_kernelEntry 36 = .ok (.if_icmp .ne 80, 3) := by decide +kernel
theorem d_Model_kernelEntry_39 : decode b_Model_kernelEntry 39 = .ok (.aload_n 0, 1) := by decide +kernel
theorem d_Model_kernelEntry_40 : decode b_Model_kernelEntry 40 = .ok (.iload_n 3, 1) := by decide +kernel
theorem d_Model_kernelEntry_41 : decode b_Model_kernelEntry 41 = .ok (.iconst 1, 1) := by decide +kernel
theorem d_Model_kernelEntry_42 : decode b_Model_kernelEntry 42 = .ok (.iadd, 1) := by decide +kernel
theorem d_Model_kernelEntry_43 : decode b_Model_kernelEntry 43 = .ok (.invokevirtual 64, 3) := by decide +kernel
theorem d_Model_kernelEntry_46 : decode b_Model_kernelEntry 46 = .ok (.bipush 69, 2) := by decide +kernel
theorem d_Model_kernelEntry_48 : decode b_Model_kernelEntry 48 = .ok (.if_icmp .ne 68, 3) := by decide +kernel
theorem d_Model_kernelEntry_51 : decode b_Model_kernelEntry 51 = .ok (.aload_n 0, 1) := by decide +kernel
theorem d_Model_kernelEntry_52 : decode b_Model_kernelEntry 52 = .ok (.iload_n 3, 1) := by decide +kernel
theorem d_Model_kernelEntry_53 : decode b_Model_kernelEntry 53 = .ok (.iconst 2, 1) := by decide +kernel
theorem d_Model_kernelEntry_54 : decode b_Model_kernelEntry 54 = .ok (.iadd, 1) := by decide +kernel
theorem d_Model_kernelEntry_55 : decode b_Model_kernelEntry 55 = .ok (.invokevirtual 64, 3) := by decide +kernel
theorem d_Model_kernelEntry_58 : decode b_Model_kernelEntry 58 = .ok (.bipush 82, 2) := by decide +kernel
theorem d_Model_kernelEntry_60 : decode b_Model_kernelEntry 60 = .ok (.if_icmp .ne 56, 3) := by decide +kernel
theorem d_Model_kernelEntry_63 : decode b_Model_kernelEntry 63 = .ok (.aload_n 0, 1) := by decide +kernel
theorem d_Model_kernelEntry_64 : decode b_Model_kernelEntry 64 = .ok (.iload_n 3, 1) := by decide +kernel
theorem d_Model_kernelEntry_65 : decode b_Model_kernelEntry 65 = .ok (.iconst 3, 1) := by decide +kernel
theorem d_Model_kernelEntry_66 : decode b_Model_kernelEntry 66 = .ok (.iadd, 1) := by decide +kernel
theorem d_Model_kernelEntry_67 : decode b_Model_kernelEntry 67 = .ok (.invokevirtual 64, 3) := by decide +kernel
theorem d_Model_kernelEntry_70 : decode b_Model_kernelEntry 70 = .ok (.bipush 78, 2) := by decide +kernel
theorem d_Model_kernelEntry_72 : decode b_Model_kernelEntry 72 = .ok (.if_icmp .ne 44, 3) := by decide +kernel
theorem d_Model_kernelEntry_75 : decode b_Model_kernelEntry 75 = .ok (.aload_n 0, 1) := by decide +kernel
theorem d_Model_kernelEntry_76 : decode b_Model_kernelEntry 76 = .ok (.iload_n 3, 1) := by decide +kernel
theorem d_Model_kernelEntry_77 : decode b_Model_kernelEntry 77 = .ok (.iconst 4, 1) := by decide +kernel
theorem d_Model_kernelEntry_78 : decode b_Model_kernelEntry 78 = .ok (.iadd, 1) := by decide +kernel
theorem d_Model_kernelEntry_79 : decode b_Model_kernelEntry 79 = .ok (.invokevirtual 64, 3) := by decide +kernel
theorem d_Model_kernelEntry_82 : decode b_Model_kernelEntry 82 = .ok (.bipush 69, 2) := by decide +kernel
theorem d_Model_kernelEntry_84 : decode b_Model_kernelEntry 84 = .ok (.if_icmp .ne 32, 3) := by decide +kernel
theorem d_Model_kernelEntry_87 : decode b_Model_kernelEntry 87 = .ok (.aload_n 0, 1) := by decide +kernel
theorem d_Model_kernelEntry_88 : decode b_Model_kernelEntry 88 = .ok (.iload_n 3, 1) := by decide +kernel
theorem d_Model_kernelEntry_89 : decode b_Model_kernelEntry 89 = .ok (.iconst 5, 1) := by decide +kernel
theorem d_Model_kernelEntry_90 : decode b_Model_kernelEntry 90 = .ok (.iadd, 1) := by decide +kernel
theorem d_Model_kernelEntry_91 : decode b_Model_kernelEntry 91 = .ok (.invokevirtual 64, 3) := by decide +kernel
theorem d_Model_kernelEntry_94 : decode b_Model_kernelEntry 94 = .ok (.bipush 76, 2) := by decide +kernel
theorem d_Model_kernelEntry_96 : decode b_Model_kernelEntry 96 = .ok (.if_icmp .ne 20, 3) := by decide +kernel
theorem d_Model_kernelEntry_99 : decode b_Model_kernelEntry 99 = .ok (.aload_n 0, 1) := by decide +kernel
theorem d_Model_kernelEntry_100 : decode b_Model_kernelEntry 100 = .ok (.iload_n 3, 1) := by decide +kernel
theorem d_Model_kernelEntry_101 : decode b_Model_kernelEntry 101 = .ok (.bipush 11, 2) := by decide +kernel
theorem d_Model_kernelEntry_103 : decode b_Model_kernelEntry 103 = .ok (.iadd, 1) := by decide +kernel
theorem d_Model_kernelEntry_104 : decode b_Model_kernelEntry 104 = .ok (.invokevirtual 64, 3) := by decide +kernel
theorem d_Model_kernelEntry_107 : decode b_Model_kernelEntry 107 = .ok (.bipush 32, 2) := by decide +kernel
theorem d_Model_kernelEntry_109 : decode b_Model_kernelEntry 109 = .ok (.if_icmp .ne 7, 3) := by decide +kernel
theorem d_Model_kernelEntry_112 : decode b_Model_kernelEntry 112 = .ok (.iconst 1, 1) := by decide +kernel
theorem d_Model_kernelEntry_113 : decode b_Model_kernelEntry 113 = .ok (.goto 4, 3) := by decide +kernel
theorem d_Model_kernelEntry_116 : decode b_Model_kernelEntry 116 = .ok (.iconst 0, 1) := by decide +kernel
theorem d_Model_kernelEntry_117 : decode b_Model_kernelEntry 117 = .ok (.istore 4, 2) := by decide +kernel
theorem d_Model_kernelEntry_119 : decode b_Model_kernelEntry 119 = .ok (.bipush 6, 2) := by decide +kernel
theorem d_Model_kernelEntry_121 : decode b_Model_kernelEntry 121 = .ok (.istore 5, 2) := by decide +kernel
theorem d_Model_kernelEntry_123 : decode b_Model_kernelEntry 123 = .ok (.iload 5, 2) := by decide +kernel
theorem d_Model_kernelEntry_125 : decode b_Model_kernelEntry 125 = .ok (.bipush 11, 2) := by decide +kernel
theorem d_Model_kernelEntry_127 : decode b_Model_kernelEntry 127 = .ok (.if_icmp .ge 34, 3) := by decide +kernel
theorem d_Model_kernelEntry_130 : decode b_Model_kernelEntry 130 = .ok (.iload 4, 2) := by decide +kernel
theorem d_Model_kernelEntry_132 : decode b_Model_kernelEntry 132 = .ok (.ifCond .eq 20, 3) := by decide +kernel
theorem d_Model_kernelEntry_135 : decode b_Model_kernelEntry 135 = .ok (.aload_n 0, 1) := by decide +kernel
theorem d_Model_kernelEntry_136 : decode b_Model_kernelEntry 136 = .ok (.iload_n 3, 1) := by decide +kernel
theorem d_Model_kernelEntry_137 : decode b_Model_kernelEntry 137 = .ok (.iload 5, 2) := by decide +kernel
theorem d_Model_kernelEntry_139 : decode b_Model_kernelEntry 139 = .ok (.iadd, 1) := by decide +kernel
theorem d_Model_kernelEntry_140 : decode b_Model_kernelEntry 140 = .ok (.invokevirtual 64, 3) := by decide +kernel
theorem d_Model_kernelEntry_143 : decode b_Model_kernelEntry 143 = .ok (.bipush 32, 2) := by decide +kernel
theorem d_Model_kernelEntry_145 : decode b_Model_kernelEntry 145 = .ok (.if_icmp .ne 7, 3) := by decide +kernel
theorem d_Model_kernelEntry_148 : decode b_Model_kernelEntry 148 = .ok (.iconst 1, 1) := by decide +kernel
theorem d_Model_kernelEntry_149 : decode b_Model_kernelEntry 149 = .ok (.goto 4, 3) := by decide +kernel
theorem d_Model_kernelEntry_152 : decode b_Model_kernelEntry 152 = .ok (.iconst 0, 1) := by decide +kernel
theorem d_Model_kernelEntry_153 : decode b_Model_kernelEntry 153 = .ok (.istore 4, 2) := by decide +kernel
theorem d_Model_kernelEntry_155 : decode b_Model_kernelEntry 155 = .ok (.iinc 5 1, 3) := by decide +kernel
theorem d_Model_kernelEntry_158 : decode b_Model_kernelEntry 158 = .ok (.goto (-35), 3) := by decide +kernel
theorem d_Model_kernelEntry_161 : decode b_Model_kernelEntry 161 = .ok (.iload 4, 2) := by decide +kernel
theorem d_Model_kernelEntry_163 : decode b_Model_kernelEntry 163 = .ok (.ifCond .eq 5, 3) := by decide +kernel
theorem d_Model_kernelEntry_166 : decode b_Model_kernelEntry 166 = .ok (.iload_n 3, 1) := by decide +kernel
theorem d_Model_kernelEntry_167 : decode b_Model_kernelEntry 167 = .ok (.ireturn, 1) := by decide +kernel
theorem d_Model_kernelEntry_168 : decode b_Model_kernelEntry 168 = .ok (.iinc 2 1, 3) := by decide +kernel
theorem d_Model_kernelEntry_171 : decode b_Model_kernelEntry 171 = .ok (.goto (-169), 3) := by decide +kernel
theorem d_Model_kernelEntry_174 : decode b_Model_kernelEntry 174 = .ok (.iconst (-1), 1) := by decide +kernel
theorem d_Model_kernelEntry_175 : decode b_Model_kernelEntry 175 = .ok (.ireturn, 1) := by decide +kernel
set_option maxRecDepth 100000 in
theorem kc_Model_230 : Cond.constantLong R_Model 230 8 ∈ Wall := inW 1021 rfl rfl
set_option maxRecDepth 100000 in
theorem kc_Model_232 : Cond.constantLong R_Model 232 9000 ∈ Wall := inW 1022 rfl rfl
set_option maxRecDepth 100000 in
theorem fc_Model_234 : FcV Wall classes R_Model 234 7 y_Model_runAt b_Model_runAt 5 (some .int) ws_Model_runAt 1 := ⟨⟨rfl, cw_Model_runAt, inW 1023 rfl rfl, in_i_Model, by decide +kernel⟩, inW 1025 rfl rfl, inP 50 rfl rfl, _, _, rfl⟩
