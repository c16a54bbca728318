abbrev b_Writer_writeVolumeSector : ByteArray := prog_7_method_9_code
def y_Writer_writeVolumeSector : MethodName := ⟨"BootMaker$Writer", "writeVolumeSector", "()V"⟩
def ws_Writer_writeVolumeSector : List Cond := Cond.code y_Writer_writeVolumeSector b_Writer_writeVolumeSector 2 (none) :: Wall
set_option maxRecDepth 100000 in
theorem cw_Writer_writeVolumeSector : Cond.code y_Writer_writeVolumeSector b_Writer_writeVolumeSector 2 (none) ∈ Wall := inW 504 rfl rfl
abbrev b_Writer_writeClusterEntry : ByteArray := prog_7_method_11_code
def y_Writer_writeClusterEntry : MethodName := ⟨"BootMaker$Writer", "writeClusterEntry", "(II)V"⟩
def ws_Writer_writeClusterEntry : List Cond := Cond.code y_Writer_writeClusterEntry b_Writer_writeClusterEntry 5 (none) :: Wall
set_option maxRecDepth 100000 in
theorem cw_Writer_writeClusterEntry : Cond.code y_Writer_writeClusterEntry b_Writer_writeClusterEntry 5 (none) ∈ Wall := inW 524 rfl rfl
abbrev b_Writer_writeClusterTables : ByteArray := prog_7_method_10_code
def y_Writer_writeClusterTables : MethodName := ⟨"BootMaker$Writer", "writeClusterTables", "()V"⟩
def ws_Writer_writeClusterTables : List Cond := Cond.code y_Writer_writeClusterTables b_Writer_writeClusterTables 4 (none) :: Wall
set_option maxRecDepth 100000 in
theorem cw_Writer_writeClusterTables : Cond.code y_Writer_writeClusterTables b_Writer_writeClusterTables 4 (none) ∈ Wall := inW 520 rfl rfl
abbrev b_Writer_writeDirectoryEntry : ByteArray := prog_7_method_13_code
def y_Writer_writeDirectoryEntry : MethodName := ⟨"BootMaker$Writer", "writeDirectoryEntry", "(II)V"⟩
def ws_Writer_writeDirectoryEntry : List Cond := Cond.code y_Writer_writeDirectoryEntry b_Writer_writeDirectoryEntry 6 (none) :: Wall
set_option maxRecDepth 100000 in
theorem cw_Writer_writeDirectoryEntry : Cond.code y_Writer_writeDirectoryEntry b_Writer_writeDirectoryEntry 6 (none) ∈ Wall := inW 535 rfl rfl
abbrev b_Writer_writeFile : ByteArray := prog_7_method_12_code
def y_Writer_writeFile : MethodName := ⟨"BootMaker$Writer", "writeFile", "(I)V"⟩
def ws_Writer_writeFile : List Cond := Cond.code y_Writer_writeFile b_Writer_writeFile 6 (none) :: Wall
set_option maxRecDepth 100000 in
theorem cw_Writer_writeFile : Cond.code y_Writer_writeFile b_Writer_writeFile 6 (none) ∈ Wall := inW 530 rfl rfl
abbrev b_Writer_layOut : ByteArray := prog_7_method_3_code
def y_Writer_layOut : MethodName := ⟨"BootMaker$Writer", "layOut", "()I"⟩
def ws_Writer_layOut : List Cond := Cond.code y_Writer_layOut b_Writer_layOut 3 (some .int) :: Wall
set_option maxRecDepth 100000 in
theorem cw_Writer_layOut : Cond.code y_Writer_layOut b_Writer_layOut 3 (some .int) ∈ Wall := inW 293 rfl rfl
abbrev b_Writer_writeDisk : ByteArray := prog_7_method_2_code
def y_Writer_writeDisk : MethodName := ⟨"BootMaker$Writer", "writeDisk", "()I"⟩
def ws_Writer_writeDisk : List Cond := Cond.code y_Writer_writeDisk b_Writer_writeDisk 3 (some .int) :: Wall
set_option maxRecDepth 100000 in
theorem cw_Writer_writeDisk : Cond.code y_Writer_writeDisk b_Writer_writeDisk 3 (some .int) ∈ Wall := inW 289 rfl rfl
theorem d_Writer_writeVolumeSector_0 : decode b_Writer_writeVolumeSector 0 = .ok (.aload_n 0, 1) := by decide +kernel
theorem d_Writer_writeVolumeSector_1 : decode b_Writer_writeVolumeSector 1 = .ok (.getfield 32, 3) := by decide +kernel
theorem d_Writer_writeVolumeSector_4 : decode b_Writer_writeVolumeSector 4 = .ok (.getfield 142, 3) := by decide +kernel
theorem d_Writer_writeVolumeSector_7 : decode b_Writer_writeVolumeSector 7 = .ok (.sipush 512, 3) := by decide +kernel
theorem d_Writer_writeVolumeSector_10 : decode b_Writer_writeVolumeSector 10 = .ok (.imul, 1) := by decide +kernel
theorem d_Writer_writeVolumeSector_11 : decode b_Writer_writeVolumeSector 11 = .ok (.istore_n 1, 1) := by decide +kernel
theorem d_Writer_writeVolumeSector_12 : decode b_Writer_writeVolumeSector 12 = .ok (.aload_n 0, 1) := by decide +kernel
theorem d_Writer_writeVolumeSector_13 : decode b_Writer_writeVolumeSector 13 = .ok (.getfield 9, 3) := by decide +kernel
theorem d_Writer_writeVolumeSector_16 : decode b_Writer_writeVolumeSector 16 = .ok (.iload_n 1, 1) := by decide +kernel
theorem d_Writer_writeVolumeSector_17 : decode b_Writer_writeVolumeSector 17 = .ok (.sipush 235, 3) := by decide +kernel
theorem d_Writer_writeVolumeSector_20 : decode b_Writer_writeVolumeSector 20 = .ok (.invokevirtual 104, 3) := by decide +kernel
theorem d_Writer_writeVolumeSector_23 : decode b_Writer_writeVolumeSector 23 = .ok (.aload_n 0, 1) := by decide +kernel
theorem d_Writer_writeVolumeSector_24 : decode b_Writer_writeVolumeSector 24 = .ok (.getfield 9, 3) := by decide +kernel
theorem d_Writer_writeVolumeSector_27 : decode b_Writer_writeVolumeSector 27 = .ok (.iload_n 1, 1) := by decide +kernel
theorem d_Writer_writeVolumeSector_28 : decode b_Writer_writeVolumeSector 28 = .ok (.iconst 1, 1) := by decide +kernel
theorem d_Writer_writeVolumeSector_29 : decode b_Writer_writeVolumeSector 29 = .ok (.iadd, 1) := by decide +kernel
theorem d_Writer_writeVolumeSector_30 : decode b_Writer_writeVolumeSector 30 = .ok (.bipush 60, 2) := by decide +kernel
theorem d_Writer_writeVolumeSector_32 : decode b_Writer_writeVolumeSector 32 = .ok (.invokevirtual 104, 3) := by decide +kernel
theorem d_Writer_writeVolumeSector_35 : decode b_Writer_writeVolumeSector 35 = .ok (.aload_n 0, 1) := by decide +kernel
theorem d_Writer_writeVolumeSector_36 : decode b_Writer_writeVolumeSector 36 = .ok (.getfield 9, 3) := by decide +kernel
theorem d_Writer_writeVolumeSector_39 : decode b_Writer_writeVolumeSector 39 = .ok (.iload_n 1, 1) := by decide +kernel
theorem d_Writer_writeVolumeSector_40 : decode b_Writer_writeVolumeSector 40 = .ok (.iconst 2, 1) := by decide +kernel
theorem d_Writer_writeVolumeSector_41 : decode b_Writer_writeVolumeSector 41 = .ok (.iadd, 1) := by decide +kernel
theorem d_Writer_writeVolumeSector_42 : decode b_Writer_writeVolumeSector 42 = .ok (.sipush 144, 3) := by decide +kernel
theorem d_Writer_writeVolumeSector_45 : decode b_Writer_writeVolumeSector 45 = .ok (.invokevirtual 104, 3) := by decide +kernel
theorem d_Writer_writeVolumeSector_48 : decode b_Writer_writeVolumeSector 48 = .ok (.aload_n 0, 1) := by decide +kernel
theorem d_Writer_writeVolumeSector_49 : decode b_Writer_writeVolumeSector 49 = .ok (.getfield 9, 3) := by decide +kernel
theorem d_Writer_writeVolumeSector_52 : decode b_Writer_writeVolumeSector 52 = .ok (.iload_n 1, 1) := by decide +kernel
theorem d_Writer_writeVolumeSector_53 : decode b_Writer_writeVolumeSector 53 = .ok (.iconst 3, 1) := by decide +kernel
theorem d_Writer_writeVolumeSector_54 : decode b_Writer_writeVolumeSector 54 = .ok (.iadd, 1) := by decide +kernel
theorem d_Writer_writeVolumeSector_55 : decode b_Writer_writeVolumeSector 55 = .ok (.ldc 203, 2) := by decide +kernel
theorem d_Writer_writeVolumeSector_57 : decode b_Writer_writeVolumeSector 57 = .ok (.invokevirtual 205, 3) := by decide +kernel
theorem d_Writer_writeVolumeSector_60 : decode b_Writer_writeVolumeSector 60 = .ok (.aload_n 0, 1) := by decide +kernel
theorem d_Writer_writeVolumeSector_61 : decode b_Writer_writeVolumeSector 61 = .ok (.getfield 9, 3) := by decide +kernel
theorem d_Writer_writeVolumeSector_64 : decode b_Writer_writeVolumeSector 64 = .ok (.iload_n 1, 1) := by decide +kernel
theorem d_Writer_writeVolumeSector_65 : decode b_Writer_writeVolumeSector 65 = .ok (.bipush 11, 2) := by decide +kernel
theorem d_Writer_writeVolumeSector_67 : decode b_Writer_writeVolumeSector 67 = .ok (.iadd, 1) := by decide +kernel
theorem d_Writer_writeVolumeSector_68 : decode b_Writer_writeVolumeSector 68 = .ok (.iconst 2, 1) := by decide +kernel
theorem d_Writer_writeVolumeSector_69 : decode b_Writer_writeVolumeSector 69 = .ok (.ldc2_w 209, 3) := by decide +kernel
theorem d_Writer_writeVolumeSector_72 : decode b_Writer_writeVolumeSector 72 = .ok (.invokevirtual 120, 3) := by decide +kernel
theorem d_Writer_writeVolumeSector_75 : decode b_Writer_writeVolumeSector 75 = .ok (.aload_n 0, 1) := by decide +kernel
theorem d_Writer_writeVolumeSector_76 : decode b_Writer_writeVolumeSector 76 = .ok (.getfield 9, 3) := by decide +kernel
theorem d_Writer_writeVolumeSector_79 : decode b_Writer_writeVolumeSector 79 = .ok (.iload_n 1, 1) := by decide +kernel
theorem d_Writer_writeVolumeSector_80 : decode b_Writer_writeVolumeSector 80 = .ok (.bipush 13, 2) := by decide +kernel
theorem d_Writer_writeVolumeSector_82 : decode b_Writer_writeVolumeSector 82 = .ok (.iadd, 1) := by decide +kernel
theorem d_Writer_writeVolumeSector_83 : decode b_Writer_writeVolumeSector 83 = .ok (.iconst 1, 1) := by decide +kernel
theorem d_Writer_writeVolumeSector_84 : decode b_Writer_writeVolumeSector 84 = .ok (.invokevirtual 104, 3) := by decide +kernel
theorem d_Writer_writeVolumeSector_87 : decode b_Writer_writeVolumeSector 87 = .ok (.aload_n 0, 1) := by decide +kernel
theorem d_Writer_writeVolumeSector_88 : decode b_Writer_writeVolumeSector 88 = .ok (.getfield 9, 3) := by decide +kernel
theorem d_Writer_writeVolumeSector_91 : decode b_Writer_writeVolumeSector 91 = .ok (.iload_n 1, 1) := by decide +kernel
theorem d_Writer_writeVolumeSector_92 : decode b_Writer_writeVolumeSector 92 = .ok (.bipush 14, 2) := by decide +kernel
theorem d_Writer_writeVolumeSector_94 : decode b_Writer_writeVolumeSector 94 = .ok (.iadd, 1) := by decide +kernel
theorem d_Writer_writeVolumeSector_95 : decode b_Writer_writeVolumeSector 95 = .ok (.iconst 2, 1) := by decide +kernel
theorem d_Writer_writeVolumeSector_96 : decode b_Writer_writeVolumeSector 96 = .ok (.lconst 1, 1) := by decide +kernel
theorem d_Writer_writeVolumeSector_97 : decode b_Writer_writeVolumeSector 97 = .ok (.invokevirtual 120, 3) := by decide +kernel
theorem d_Writer_writeVolumeSector_100 : decode b_Writer_writeVolumeSector 100 = .ok (.aload_n 0, 1) := by decide +kernel
theorem d_Writer_writeVolumeSector_101 : decode b_Writer_writeVolumeSector 101 = .ok (.getfield 9, 3) := by decide +kernel
theorem d_Writer_writeVolumeSector_104 : decode b_Writer_writeVolumeSector 104 = .ok (.iload_n 1, 1) := by decide +kernel
theorem d_Writer_writeVolumeSector_105 : decode b_Writer_writeVolumeSector 105 = .ok (.bipush 16, 2) := by decide +kernel
theorem d_Writer_writeVolumeSector_107 : decode b_Writer_writeVolumeSector 107 = .ok (.iadd, 1) := by decide +kernel
theorem d_Writer_writeVolumeSector_108 : decode b_Writer_writeVolumeSector 108 = .ok (.iconst 2, 1) := by decide +kernel
theorem d_Writer_writeVolumeSector_109 : decode b_Writer_writeVolumeSector 109 = .ok (.invokevirtual 104, 3) := by decide +kernel
theorem d_Writer_writeVolumeSector_112 : decode b_Writer_writeVolumeSector 112 = .ok (.aload_n 0, 1) := by decide +kernel
theorem d_Writer_writeVolumeSector_113 : decode b_Writer_writeVolumeSector 113 = .ok (.getfield 9, 3) := by decide +kernel
theorem d_Writer_writeVolumeSector_116 : decode b_Writer_writeVolumeSector 116 = .ok (.iload_n 1, 1) := by decide +kernel
theorem d_Writer_writeVolumeSector_117 : decode b_Writer_writeVolumeSector 117 = .ok (.bipush 17, 2) := by decide +kernel
theorem d_Writer_writeVolumeSector_119 : decode b_Writer_writeVolumeSector 119 = .ok (.iadd, 1) := by decide +kernel
theorem d_Writer_writeVolumeSector_120 : decode b_Writer_writeVolumeSector 120 = .ok (.iconst 2, 1) := by decide +kernel
theorem d_Writer_writeVolumeSector_121 : decode b_Writer_writeVolumeSector 121 = .ok (.ldc2_w 211, 3) := by decide +kernel
theorem d_Writer_writeVolumeSector_124 : decode b_Writer_writeVolumeSector 124 = .ok (.invokevirtual 120, 3) := by decide +kernel
theorem d_Writer_writeVolumeSector_127 : decode b_Writer_writeVolumeSector 127 = .ok (.aload_n 0, 1) := by decide +kernel
theorem d_Writer_writeVolumeSector_128 : decode b_Writer_writeVolumeSector 128 = .ok (.getfield 9, 3) := by decide +kernel
theorem d_Writer_writeVolumeSector_131 : decode b_Writer_writeVolumeSector 131 = .ok (.iload_n 1, 1) := by decide +kernel
theorem d_Writer_writeVolumeSector_132 : decode b_Writer_writeVolumeSector 132 = .ok (.bipush 19, 2) := by decide +kernel
theorem d_Writer_writeVolumeSector_134 : decode b_Writer_writeVolumeSector 134 = .ok (.iadd, 1) := by decide +kernel
theorem d_Writer_writeVolumeSector_135 : decode b_Writer_writeVolumeSector 135 = .ok (.iconst 2, 1) := by decide +kernel
theorem d_Writer_writeVolumeSector_136 : decode b_Writer_writeVolumeSector 136 = .ok (.aload_n 0, 1) := by decide +kernel
theorem d_Writer_writeVolumeSector_137 : decode b_Writer_writeVolumeSector 137 = .ok (.getfield 32, 3) := by decide +kernel
theorem d_Writer_writeVolumeSector_140 : decode b_Writer_writeVolumeSector 140 = .ok (.getfield 213, 3) := by decide +kernel
theorem d_Writer_writeVolumeSector_143 : decode b_Writer_writeVolumeSector 143 = .ok (.i2l, 1) := by decide +kernel
theorem d_Writer_writeVolumeSector_144 : decode b_Writer_writeVolumeSector 144 = .ok (.invokevirtual 120, 3) := by decide +kernel
theorem d_Writer_writeVolumeSector_147 : decode b_Writer_writeVolumeSector 147 = .ok (.aload_n 0, 1) := by decide +kernel
theorem d_Writer_writeVolumeSector_148 : decode b_Writer_writeVolumeSector 148 = .ok (.getfield 9, 3) := by decide +kernel
theorem d_Writer_writeVolumeSector_151 : decode b_Writer_writeVolumeSector 151 = .ok (.iload_n 1, 1) := by decide +kernel
theorem d_Writer_writeVolumeSector_152 : decode b_Writer_writeVolumeSector 152 = .ok (.bipush 21, 2) := by decide +kernel
theorem d_Writer_writeVolumeSector_154 : decode b_Writer_writeVolumeSector 154 = .ok (.iadd, 1) := by decide +kernel
theorem d_Writer_writeVolumeSector_155 : decode b_Writer_writeVolumeSector 155 = .ok (.sipush 248, 3) := by decide +kernel
theorem d_Writer_writeVolumeSector_158 : decode b_Writer_writeVolumeSector 158 = .ok (.invokevirtual 104, 3) := by decide +kernel
theorem d_Writer_writeVolumeSector_161 : decode b_Writer_writeVolumeSector 161 = .ok (.aload_n 0, 1) := by decide +kernel
theorem d_Writer_writeVolumeSector_162 : decode b_Writer_writeVolumeSector 162 = .ok (.getfield 9, 3) := by decide +kernel
theorem d_Writer_writeVolumeSector_165 : decode b_Writer_writeVolumeSector 165 = .ok (.iload_n 1, 1) := by decide +kernel
theorem d_Writer_writeVolumeSector_166 : decode b_Writer_writeVolumeSector 166 = .ok (.bipush 22, 2) := by decide +kernel
theorem d_Writer_writeVolumeSector_168 : decode b_Writer_writeVolumeSector 168 = .ok (.iadd, 1) := by decide +kernel
theorem d_Writer_writeVolumeSector_169 : decode b_Writer_writeVolumeSector 169 = .ok (.iconst 2, 1) := by decide +kernel
theorem d_Writer_writeVolumeSector_170 : decode b_Writer_writeVolumeSector 170 = .ok (.aload_n 0, 1) := by decide +kernel
theorem d_Writer_writeVolumeSector_171 : decode b_Writer_writeVolumeSector 171 = .ok (.getfield 32, 3) := by decide +kernel
theorem d_Writer_writeVolumeSector_174 : decode b_Writer_writeVolumeSector 174 = .ok (.getfield 215, 3) := by decide +kernel
theorem d_Writer_writeVolumeSector_177 : decode b_Writer_writeVolumeSector 177 = .ok (.i2l, 1) := by decide +kernel
theorem d_Writer_writeVolumeSector_178 : decode b_Writer_writeVolumeSector 178 = .ok (.invokevirtual 120, 3) := by decide +kernel
theorem d_Writer_writeVolumeSector_181 : decode b_Writer_writeVolumeSector 181 = .ok (.aload_n 0, 1) := by decide +kernel
theorem d_Writer_writeVolumeSector_182 : decode b_Writer_writeVolumeSector 182 = .ok (.getfield 9, 3) := by decide +kernel
theorem d_Writer_writeVolumeSector_185 : decode b_Writer_writeVolumeSector 185 = .ok (.iload_n 1, 1) := by decide +kernel
theorem d_Writer_writeVolumeSector_186 : decode b_Writer_writeVolumeSector 186 = .ok (.bipush 24, 2) := by decide +kernel
theorem d_Writer_writeVolumeSector_188 : decode b_Writer_writeVolumeSector 188 = .ok (.iadd, 1) := by decide +kernel
theorem d_Writer_writeVolumeSector_189 : decode b_Writer_writeVolumeSector 189 = .ok (.iconst 2, 1) := by decide +kernel
theorem d_Writer_writeVolumeSector_190 : decode b_Writer_writeVolumeSector 190 = .ok (.ldc2_w 211, 3) := by decide +kernel
theorem d_Writer_writeVolumeSector_193 : decode b_Writer_writeVolumeSector 193 = .ok (.invokevirtual 120, 3) := by decide +kernel
theorem d_Writer_writeVolumeSector_196 : decode b_Writer_writeVolumeSector 196 = .ok (.aload_n 0, 1) := by decide +kernel
theorem d_Writer_writeVolumeSector_197 : decode b_Writer_writeVolumeSector 197 = .ok (.getfield 9, 3) := by decide +kernel
theorem d_Writer_writeVolumeSector_200 : decode b_Writer_writeVolumeSector 200 = .ok (.iload_n 1, 1) := by decide +kernel
theorem d_Writer_writeVolumeSector_201 : decode b_Writer_writeVolumeSector 201 = .ok (.bipush 26, 2) := by decide +kernel
theorem d_Writer_writeVolumeSector_203 : decode b_Writer_writeVolumeSector 203 = .ok (.iadd, 1) := by decide +kernel
theorem d_Writer_writeVolumeSector_204 : decode b_Writer_writeVolumeSector 204 = .ok (.iconst 2, 1) := by decide +kernel
theorem d_Writer_writeVolumeSector_205 : decode b_Writer_writeVolumeSector 205 = .ok (.ldc2_w 218, 3) := by decide +kernel
theorem d_Writer_writeVolumeSector_208 : decode b_Writer_writeVolumeSector 208 = .ok (.invokevirtual 120, 3) := by decide +kernel
theorem d_Writer_writeVolumeSector_211 : decode b_Writer_writeVolumeSector 211 = .ok (.aload_n 0, 1) := by decide +kernel
theorem d_Writer_writeVolumeSector_212 : decode b_Writer_writeVolumeSector 212 = .ok (.getfield 9, 3) := by decide +kernel
theorem d_Writer_writeVolumeSector_215 : decode b_Writer_writeVolumeSector 215 = .ok (.iload_n 1, 1) := by decide +kernel
theorem d_Writer_writeVolumeSector_216 : decode b_Writer_writeVolumeSector 216 = .ok (.bipush 28, 2) := by decide +kernel
theorem d_Writer_writeVolumeSector_218 : decode b_Writer_writeVolumeSector 218 = .ok (.iadd, 1) := by decide +kernel
theorem d_Writer_writeVolumeSector_219 : decode b_Writer_writeVolumeSector 219 = .ok (.iconst 4, 1) := by decide +kernel
theorem d_Writer_writeVolumeSector_220 : decode b_Writer_writeVolumeSector 220 = .ok (.aload_n 0, 1) := by decide +kernel
theorem d_Writer_writeVolumeSector_221 : decode b_Writer_writeVolumeSector 221 = .ok (.getfield 32, 3) := by decide +kernel
theorem d_Writer_writeVolumeSector_224 : decode b_Writer_writeVolumeSector 224 = .ok (.getfield 142, 3) := by decide +kernel
theorem d_Writer_writeVolumeSector_227 : decode b_Writer_writeVolumeSector 227 = .ok (.i2l, 1) := by decide +kernel
theorem d_Writer_writeVolumeSector_228 : decode b_Writer_writeVolumeSector 228 = .ok (.invokevirtual 120, 3) := by decide +kernel
theorem d_Writer_writeVolumeSector_231 : decode b_Writer_writeVolumeSector 231 = .ok (.aload_n 0, 1) := by decide +kernel
theorem d_Writer_writeVolumeSector_232 : decode b_Writer_writeVolumeSector 232 = .ok (.getfield 9, 3) := by decide +kernel
theorem d_Writer_writeVolumeSector_235 : decode b_Writer_writeVolumeSector 235 = .ok (.iload_n 1, 1) := by decide +kernel
theorem d_Writer_writeVolumeSector_236 : decode b_Writer_writeVolumeSector 236 = .ok (.bipush 36, 2) := by decide +kernel
theorem d_Writer_writeVolumeSector_238 : decode b_Writer_writeVolumeSector 238 = .ok (.iadd, 1) := by decide +kernel
theorem d_Writer_writeVolumeSector_239 : decode b_Writer_writeVolumeSector 239 = .ok (.sipush 128, 3) := by decide +kernel
theorem d_Writer_writeVolumeSector_242 : decode b_Writer_writeVolumeSector 242 = .ok (.invokevirtual 104, 3) := by decide +kernel
theorem d_Writer_writeVolumeSector_245 : decode b_Writer_writeVolumeSector 245 = .ok (.aload_n 0, 1) := by decide +kernel
theorem d_Writer_writeVolumeSector_246 : decode b_Writer_writeVolumeSector 246 = .ok (.getfield 9, 3) := by decide +kernel
theorem d_Writer_writeVolumeSector_249 : decode b_Writer_writeVolumeSector 249 = .ok (.iload_n 1, 1) := by decide +kernel
theorem d_Writer_writeVolumeSector_250 : decode b_Writer_writeVolumeSector 250 = .ok (.bipush 38, 2) := by decide +kernel
theorem d_Writer_writeVolumeSector_252 : decode b_Writer_writeVolumeSector 252 = .ok (.iadd, 1) := by decide +kernel
theorem d_Writer_writeVolumeSector_253 : decode b_Writer_writeVolumeSector 253 = .ok (.bipush 41, 2) := by decide +kernel
theorem d_Writer_writeVolumeSector_255 : decode b_Writer_writeVolumeSector 255 = .ok (.invokevirtual 104, 3) := by decide +kernel
theorem d_Writer_writeVolumeSector_258 : decode b_Writer_writeVolumeSector 258 = .ok (.aload_n 0, 1) := by decide +kernel
theorem d_Writer_writeVolumeSector_259 : decode b_Writer_writeVolumeSector 259 = .ok (.getfield 9, 3) := by decide +kernel
theorem d_Writer_writeVolumeSector_262 : decode b_Writer_writeVolumeSector 262 = .ok (.iload_n 1, 1) := by decide +kernel
theorem d_Writer_writeVolumeSector_263 : decode b_Writer_writeVolumeSector 263 = .ok (.bipush 39, 2) := by decide +kernel
theorem d_Writer_writeVolumeSector_265 : decode b_Writer_writeVolumeSector 265 = .ok (.iadd, 1) := by decide +kernel
theorem d_Writer_writeVolumeSector_266 : decode b_Writer_writeVolumeSector 266 = .ok (.iconst 4, 1) := by decide +kernel
theorem d_Writer_writeVolumeSector_267 : decode b_Writer_writeVolumeSector 267 = .ok (.aload_n 0, 1) := by decide +kernel
theorem d_Writer_writeVolumeSector_268 : decode b_Writer_writeVolumeSector 268 = .ok (.getfield 32, 3) := by decide +kernel
theorem d_Writer_writeVolumeSector_271 : decode b_Writer_writeVolumeSector 271 = .ok (.getfield 142, 3) := by decide +kernel
theorem d_Writer_writeVolumeSector_274 : decode b_Writer_writeVolumeSector 274 = .ok (.i2l, 1) := by decide +kernel
theorem d_Writer_writeVolumeSector_275 : decode b_Writer_writeVolumeSector 275 = .ok (.invokevirtual 120, 3) := by decide +kernel
theorem d_Writer_writeVolumeSector_278 : decode b_Writer_writeVolumeSector 278 = .ok (.aload_n 0, 1) := by decide +kernel
theorem d_Writer_writeVolumeSector_279 : decode b_Writer_writeVolumeSector 279 = .ok (.getfield 9, 3) := by decide +kernel
theorem d_Writer_writeVolumeSector_282 : decode b_Writer_writeVolumeSector 282 = .ok (.iload_n 1, 1) := by decide +kernel
theorem d_Writer_writeVolumeSector_283 : decode b_Writer_writeVolumeSector 283 = .ok (.bipush 43, 2) := by decide +kernel
theorem d_Writer_writeVolumeSector_285 : decode b_Writer_writeVolumeSector 285 = .ok (.iadd, 1) := by decide +kernel
theorem d_Writer_writeVolumeSector_286 : decode b_Writer_writeVolumeSector 286 = .ok (.ldc 220, 2) := by decide +kernel
theorem d_Writer_writeVolumeSector_288 : decode b_Writer_writeVolumeSector 288 = .ok (.invokevirtual 205, 3) := by decide +kernel
theorem d_Writer_writeVolumeSector_291 : decode b_Writer_writeVolumeSector 291 = .ok (.aload_n 0, 1) := by decide +kernel
theorem d_Writer_writeVolumeSector_292 : decode b_Writer_writeVolumeSector 292 = .ok (.getfield 9, 3) := by decide +kernel
theorem d_Writer_writeVolumeSector_295 : decode b_Writer_writeVolumeSector 295 = .ok (.iload_n 1, 1) := by decide +kernel
theorem d_Writer_writeVolumeSector_296 : decode b_Writer_writeVolumeSector 296 = .ok (.bipush 54, 2) := by decide +kernel
theorem d_Writer_writeVolumeSector_298 : decode b_Writer_writeVolumeSector 298 = .ok (.iadd, 1) := by decide +kernel
theorem d_Writer_writeVolumeSector_299 : decode b_Writer_writeVolumeSector 299 = .ok (.ldc 222, 2) := by decide +kernel
theorem d_Writer_writeVolumeSector_301 : decode b_Writer_writeVolumeSector 301 = .ok (.invokevirtual 205, 3) := by decide +kernel
theorem d_Writer_writeVolumeSector_304 : decode b_Writer_writeVolumeSector 304 = .ok (.aload_n 0, 1) := by decide +kernel
theorem d_Writer_writeVolumeSector_305 : decode b_Writer_writeVolumeSector 305 = .ok (.getfield 9, 3) := by decide +kernel
theorem d_Writer_writeVolumeSector_308 : decode b_Writer_writeVolumeSector 308 = .ok (.aload_n 0, 1) := by decide +kernel
theorem d_Writer_writeVolumeSector_309 : decode b_Writer_writeVolumeSector 309 = .ok (.getfield 32, 3) := by decide +kernel
theorem d_Writer_writeVolumeSector_312 : decode b_Writer_writeVolumeSector 312 = .ok (.getfield 142, 3) := by decide +kernel
theorem d_Writer_writeVolumeSector_315 : decode b_Writer_writeVolumeSector 315 = .ok (.invokevirtual 124, 3) := by decide +kernel
theorem d_Writer_writeVolumeSector_318 : decode b_Writer_writeVolumeSector 318 = .ok (.return_, 1) := by decide +kernel
theorem d_Writer_writeClusterEntry_0 : decode b_Writer_writeClusterEntry 0 = .ok (.iload_n 1, 1) := by decide +kernel
theorem d_Writer_writeClusterEntry_1 : decode b_Writer_writeClusterEntry 1 = .ok (.iload_n 2, 1) := by decide +kernel
theorem d_Writer_writeClusterEntry_2 : decode b_Writer_writeClusterEntry 2 = .ok (.iconst 3, 1) := by decide +kernel
theorem d_Writer_writeClusterEntry_3 : decode b_Writer_writeClusterEntry 3 = .ok (.imul, 1) := by decide +kernel
theorem d_Writer_writeClusterEntry_4 : decode b_Writer_writeClusterEntry 4 = .ok (.iconst 2, 1) := by decide +kernel
theorem d_Writer_writeClusterEntry_5 : decode b_Writer_writeClusterEntry 5 = .ok (.idiv, 1) := by decide +kernel
theorem d_Writer_writeClusterEntry_6 : decode b_Writer_writeClusterEntry 6 = .ok (.iadd, 1) := by decide +kernel
theorem d_Writer_writeClusterEntry_7 : decode b_Writer_writeClusterEntry 7 = .ok (.istore_n 3, 1) := by decide +kernel
theorem d_Writer_writeClusterEntry_8 : decode b_Writer_writeClusterEntry 8 = .ok (.aload_n 0, 1) := by decide +kernel
theorem d_Writer_writeClusterEntry_9 : decode b_Writer_writeClusterEntry 9 = .ok (.getfield 32, 3) := by decide +kernel
theorem d_Writer_writeClusterEntry_12 : decode b_Writer_writeClusterEntry 12 = .ok (.iload_n 2, 1) := by decide +kernel
theorem d_Writer_writeClusterEntry_13 : decode b_Writer_writeClusterEntry 13 = .ok (.invokevirtual 230, 3) := by decide +kernel
theorem d_Writer_writeClusterEntry_16 : decode b_Writer_writeClusterEntry 16 = .ok (.istore 4, 2) := by decide +kernel
theorem d_Writer_writeClusterEntry_18 : decode b_Writer_writeClusterEntry 18 = .ok (.iload_n 2, 1) := by decide +kernel
theorem d_Writer_writeClusterEntry_19 : decode b_Writer_writeClusterEntry 19 = .ok (.iconst 2, 1) := by decide +kernel
theorem d_Writer_writeClusterEntry_20 : decode b_Writer_writeClusterEntry 20 = .ok (.irem, 1) := by decide +kernel
theorem d_Writer_writeClusterEntry_21 : decode b_Writer_writeClusterEntry 21 = .ok (.ifCond .ne 18, 3) := by decide +kernel
theorem d_Writer_writeClusterEntry_24 : decode b_Writer_writeClusterEntry 24 = .ok (.aload_n 0, 1) := by decide +kernel
theorem d_Writer_writeClusterEntry_25 : decode b_Writer_writeClusterEntry 25 = .ok (.getfield 9, 3) := by decide +kernel
theorem d_Writer_writeClusterEntry_28 : decode b_Writer_writeClusterEntry 28 = .ok (.iload_n 3, 1) := by decide +kernel
theorem d_Writer_writeClusterEntry_29 : decode b_Writer_writeClusterEntry 29 = .ok (.iconst 2, 1) := by decide +kernel
theorem d_Writer_writeClusterEntry_30 : decode b_Writer_writeClusterEntry 30 = .ok (.iload 4, 2) := by decide +kernel
theorem d_Writer_writeClusterEntry_32 : decode b_Writer_writeClusterEntry 32 = .ok (.i2l, 1) := by decide +kernel
theorem d_Writer_writeClusterEntry_33 : decode b_Writer_writeClusterEntry 33 = .ok (.invokevirtual 120, 3) := by decide +kernel
theorem d_Writer_writeClusterEntry_36 : decode b_Writer_writeClusterEntry 36 = .ok (.goto 26, 3) := by decide +kernel
theorem d_Writer_writeClusterEntry_39 : decode b_Writer_writeClusterEntry 39 = .ok (.aload_n 0, 1) := by decide +kernel
theorem d_Writer_writeClusterEntry_40 : decode b_Writer_writeClusterEntry 40 = .ok (.getfield 9, 3) := by decide +kernel
theorem d_Writer_writeClusterEntry_43 : decode b_Writer_writeClusterEntry 43 = .ok (.iload_n 3, 1) := by decide +kernel
theorem d_Writer_writeClusterEntry_44 : decode b_Writer_writeClusterEntry 44 = .ok (.iconst 2, 1) := by decide +kernel
theorem d_Writer_writeClusterEntry_45 : decode b_Writer_writeClusterEntry 45 = .ok (.aload_n 0, 1) := by decide +kernel
theorem d_Writer_writeClusterEntry_46 : decode b_Writer_writeClusterEntry 46 = .ok (.getfield 9, 3) := by decide +kernel
theorem d_Writer_writeClusterEntry_49 : decode b_Writer_writeClusterEntry 49 = .ok (.iload_n 3, 1) := by decide +kernel
theorem d_Writer_writeClusterEntry_50 : decode b_Writer_writeClusterEntry 50 = .ok (.invokevirtual 233, 3) := by decide +kernel
theorem d_Writer_writeClusterEntry_53 : decode b_Writer_writeClusterEntry 53 = .ok (.iload 4, 2) := by decide +kernel
theorem d_Writer_writeClusterEntry_55 : decode b_Writer_writeClusterEntry 55 = .ok (.iconst 4, 1) := by decide +kernel
theorem d_Writer_writeClusterEntry_56 : decode b_Writer_writeClusterEntry 56 = .ok (.ishl, 1) := by decide +kernel
theorem d_Writer_writeClusterEntry_57 : decode b_Writer_writeClusterEntry 57 = .ok (.ior, 1) := by decide +kernel
theorem d_Writer_writeClusterEntry_58 : decode b_Writer_writeClusterEntry 58 = .ok (.i2l, 1) := by decide +kernel
theorem d_Writer_writeClusterEntry_59 : decode b_Writer_writeClusterEntry 59 = .ok (.invokevirtual 120, 3) := by decide +kernel
theorem d_Writer_writeClusterEntry_62 : decode b_Writer_writeClusterEntry 62 = .ok (.return_, 1) := by decide +kernel
theorem d_Writer_writeClusterTables_0 : decode b_Writer_writeClusterTables 0 = .ok (.aload_n 0, 1) := by decide +kernel
theorem d_Writer_writeClusterTables_1 : decode b_Writer_writeClusterTables 1 = .ok (.getfield 32, 3) := by decide +kernel
theorem d_Writer_writeClusterTables_4 : decode b_Writer_writeClusterTables 4 = .ok (.getfield 142, 3) := by decide +kernel
theorem d_Writer_writeClusterTables_7 : decode b_Writer_writeClusterTables 7 = .ok (.iconst 1, 1) := by decide +kernel
theorem d_Writer_writeClusterTables_8 : decode b_Writer_writeClusterTables 8 = .ok (.iadd, 1) := by decide +kernel
theorem d_Writer_writeClusterTables_9 : decode b_Writer_writeClusterTables 9 = .ok (.sipush 512, 3) := by decide +kernel
theorem d_Writer_writeClusterTables_12 : decode b_Writer_writeClusterTables 12 = .ok (.imul, 1) := by decide +kernel
theorem d_Writer_writeClusterTables_13 : decode b_Writer_writeClusterTables 13 = .ok (.istore_n 1, 1) := by decide +kernel
theorem d_Writer_writeClusterTables_14 : decode b_Writer_writeClusterTables 14 = .ok (.iload_n 1, 1) := by decide +kernel
theorem d_Writer_writeClusterTables_15 : decode b_Writer_writeClusterTables 15 = .ok (.aload_n 0, 1) := by decide +kernel
theorem d_Writer_writeClusterTables_16 : decode b_Writer_writeClusterTables 16 = .ok (.getfield 32, 3) := by decide +kernel
theorem d_Writer_writeClusterTables_19 : decode b_Writer_writeClusterTables 19 = .ok (.getfield 215, 3) := by decide +kernel
theorem d_Writer_writeClusterTables_22 : decode b_Writer_writeClusterTables 22 = .ok (.sipush 512, 3) := by decide +kernel
theorem d_Writer_writeClusterTables_25 : decode b_Writer_writeClusterTables 25 = .ok (.imul, 1) := by decide +kernel
theorem d_Writer_writeClusterTables_26 : decode b_Writer_writeClusterTables 26 = .ok (.iadd, 1) := by decide +kernel
theorem d_Writer_writeClusterTables_27 : decode b_Writer_writeClusterTables 27 = .ok (.istore_n 2, 1) := by decide +kernel
theorem d_Writer_writeClusterTables_28 : decode b_Writer_writeClusterTables 28 = .ok (.iconst 0, 1) := by decide +kernel
theorem d_Writer_writeClusterTables_29 : decode b_Writer_writeClusterTables 29 = .ok (.istore_n 3, 1) := by decide +kernel
theorem d_Writer_writeClusterTables_30 : decode b_Writer_writeClusterTables 30 = .ok (.iload_n 3, 1) := by decide +kernel
theorem d_Writer_writeClusterTables_31 : decode b_Writer_writeClusterTables 31 = .ok (.aload_n 0, 1) := by decide +kernel
theorem d_Writer_writeClusterTables_32 : decode b_Writer_writeClusterTables 32 = .ok (.getfield 32, 3) := by decide +kernel
theorem d_Writer_writeClusterTables_35 : decode b_Writer_writeClusterTables 35 = .ok (.getfield 224, 3) := by decide +kernel
theorem d_Writer_writeClusterTables_38 : decode b_Writer_writeClusterTables 38 = .ok (.iconst 2, 1) := by decide +kernel
theorem d_Writer_writeClusterTables_39 : decode b_Writer_writeClusterTables 39 = .ok (.iadd, 1) := by decide +kernel
theorem d_Writer_writeClusterTables_40 : decode b_Writer_writeClusterTables 40 = .ok (.if_icmp .ge 21, 3) := by decide +kernel
theorem d_Writer_writeClusterTables_43 : decode b_Writer_writeClusterTables 43 = .ok (.aload_n 0, 1) := by decide +kernel
theorem d_Writer_writeClusterTables_44 : decode b_Writer_writeClusterTables 44 = .ok (.iload_n 1, 1) := by decide +kernel
theorem d_Writer_writeClusterTables_45 : decode b_Writer_writeClusterTables 45 = .ok (.iload_n 3, 1) := by decide +kernel
theorem d_Writer_writeClusterTables_46 : decode b_Writer_writeClusterTables 46 = .ok (.invokevirtual 227, 3) := by decide +kernel
theorem d_Writer_writeClusterTables_49 : decode b_Writer_writeClusterTables 49 = .ok (.aload_n 0, 1) := by decide +kernel
theorem d_Writer_writeClusterTables_50 : decode b_Writer_writeClusterTables 50 = .ok (.iload_n 2, 1) := by decide +kernel
theorem d_Writer_writeClusterTables_51 : decode b_Writer_writeClusterTables 51 = .ok (.iload_n 3, 1) := by decide +kernel
theorem d_Writer_writeClusterTables_52 : decode b_Writer_writeClusterTables 52 = .ok (.invokevirtual 227, 3) := by decide +kernel
theorem d_Writer_writeClusterTables_55 : decode b_Writer_writeClusterTables 55 = .ok (.iinc 3 1, 3) := by decide +kernel
theorem d_Writer_writeClusterTables_58 : decode b_Writer_writeClusterTables 58 = .ok (.goto (-28), 3) := by decide +kernel
theorem d_Writer_writeClusterTables_61 : decode b_Writer_writeClusterTables 61 = .ok (.return_, 1) := by decide +kernel
theorem d_Writer_writeDirectoryEntry_0 : decode b_Writer_writeDirectoryEntry 0 = .ok (.aload_n 0, 1) := by decide +kernel
theorem d_Writer_writeDirectoryEntry_1 : decode b_Writer_writeDirectoryEntry 1 = .ok (.getfield 9, 3) := by decide +kernel
theorem d_Writer_writeDirectoryEntry_4 : decode b_Writer_writeDirectoryEntry 4 = .ok (.iload_n 1, 1) := by decide +kernel
theorem d_Writer_writeDirectoryEntry_5 : decode b_Writer_writeDirectoryEntry 5 = .ok (.ldc 248, 2) := by decide +kernel
theorem d_Writer_writeDirectoryEntry_7 : decode b_Writer_writeDirectoryEntry 7 = .ok (.invokevirtual 205, 3) := by decide +kernel
theorem d_Writer_writeDirectoryEntry_10 : decode b_Writer_writeDirectoryEntry 10 = .ok (.iconst 0, 1) := by decide +kernel
theorem d_Writer_writeDirectoryEntry_11 : decode b_Writer_writeDirectoryEntry 11 = .ok (.istore_n 3, 1) := by decide +kernel
theorem d_Writer_writeDirectoryEntry_12 : decode b_Writer_writeDirectoryEntry 12 = .ok (.bipush 56, 2) := by decide +kernel
theorem d_Writer_writeDirectoryEntry_14 : decode b_Writer_writeDirectoryEntry 14 = .ok (.istore 4, 2) := by decide +kernel
theorem d_Writer_writeDirectoryEntry_16 : decode b_Writer_writeDirectoryEntry 16 = .ok (.iload 4, 2) := by decide +kernel
theorem d_Writer_writeDirectoryEntry_18 : decode b_Writer_writeDirectoryEntry 18 = .ok (.ifCond .lt 48, 3) := by decide +kernel
theorem d_Writer_writeDirectoryEntry_21 : decode b_Writer_writeDirectoryEntry 21 = .ok (.aload_n 0, 1) := by decide +kernel
theorem d_Writer_writeDirectoryEntry_22 : decode b_Writer_writeDirectoryEntry 22 = .ok (.getfield 19, 3) := by decide +kernel
theorem d_Writer_writeDirectoryEntry_25 : decode b_Writer_writeDirectoryEntry 25 = .ok (.getfield 250, 3) := by decide +kernel
theorem d_Writer_writeDirectoryEntry_28 : decode b_Writer_writeDirectoryEntry 28 = .ok (.iload_n 2, 1) := by decide +kernel
theorem d_Writer_writeDirectoryEntry_29 : decode b_Writer_writeDirectoryEntry 29 = .ok (.laload, 1) := by decide +kernel
theorem d_Writer_writeDirectoryEntry_30 : decode b_Writer_writeDirectoryEntry 30 = .ok (.iload 4, 2) := by decide +kernel
theorem d_Writer_writeDirectoryEntry_32 : decode b_Writer_writeDirectoryEntry 32 = .ok (.lushr, 1) := by decide +kernel
theorem d_Writer_writeDirectoryEntry_33 : decode b_Writer_writeDirectoryEntry 33 = .ok (.l2i, 1) := by decide +kernel
theorem d_Writer_writeDirectoryEntry_34 : decode b_Writer_writeDirectoryEntry 34 = .ok (.sipush 255, 3) := by decide +kernel
theorem d_Writer_writeDirectoryEntry_37 : decode b_Writer_writeDirectoryEntry 37 = .ok (.iand, 1) := by decide +kernel
theorem d_Writer_writeDirectoryEntry_38 : decode b_Writer_writeDirectoryEntry 38 = .ok (.istore 5, 2) := by decide +kernel
theorem d_Writer_writeDirectoryEntry_40 : decode b_Writer_writeDirectoryEntry 40 = .ok (.iload 5, 2) := by decide +kernel
theorem d_Writer_writeDirectoryEntry_42 : decode b_Writer_writeDirectoryEntry 42 = .ok (.ifCond .eq 18, 3) := by decide +kernel
theorem d_Writer_writeDirectoryEntry_45 : decode b_Writer_writeDirectoryEntry 45 = .ok (.aload_n 0, 1) := by decide +kernel
theorem d_Writer_writeDirectoryEntry_46 : decode b_Writer_writeDirectoryEntry 46 = .ok (.getfield 9, 3) := by decide +kernel
theorem d_Writer_writeDirectoryEntry_49 : decode b_Writer_writeDirectoryEntry 49 = .ok (.iload_n 1, 1) := by decide +kernel
theorem d_Writer_writeDirectoryEntry_50 : decode b_Writer_writeDirectoryEntry 50 = .ok (.iload_n 3, 1) := by decide +kernel
theorem d_Writer_writeDirectoryEntry_51 : decode b_Writer_writeDirectoryEntry 51 = .ok (.iadd, 1) := by decide +kernel
theorem d_Writer_writeDirectoryEntry_52 : decode b_Writer_writeDirectoryEntry 52 = .ok (.iload 5, 2) := by decide +kernel
theorem d_Writer_writeDirectoryEntry_54 : decode b_Writer_writeDirectoryEntry 54 = .ok (.invokevirtual 104, 3) := by decide +kernel
theorem d_Writer_writeDirectoryEntry_57 : decode b_Writer_writeDirectoryEntry 57 = .ok (.iinc 3 1, 3) := by decide +kernel
theorem d_Writer_writeDirectoryEntry_60 : decode b_Writer_writeDirectoryEntry 60 = .ok (.iinc 4 (-8), 3) := by decide +kernel
theorem d_Writer_writeDirectoryEntry_63 : decode b_Writer_writeDirectoryEntry 63 = .ok (.goto (-47), 3) := by decide +kernel
theorem d_Writer_writeDirectoryEntry_66 : decode b_Writer_writeDirectoryEntry 66 = .ok (.aload_n 0, 1) := by decide +kernel
theorem d_Writer_writeDirectoryEntry_67 : decode b_Writer_writeDirectoryEntry 67 = .ok (.getfield 9, 3) := by decide +kernel
theorem d_Writer_writeDirectoryEntry_70 : decode b_Writer_writeDirectoryEntry 70 = .ok (.iload_n 1, 1) := by decide +kernel
theorem d_Writer_writeDirectoryEntry_71 : decode b_Writer_writeDirectoryEntry 71 = .ok (.bipush 11, 2) := by decide +kernel
theorem d_Writer_writeDirectoryEntry_73 : decode b_Writer_writeDirectoryEntry 73 = .ok (.iadd, 1) := by decide +kernel
theorem d_Writer_writeDirectoryEntry_74 : decode b_Writer_writeDirectoryEntry 74 = .ok (.bipush 32, 2) := by decide +kernel
theorem d_Writer_writeDirectoryEntry_76 : decode b_Writer_writeDirectoryEntry 76 = .ok (.invokevirtual 104, 3) := by decide +kernel
theorem d_Writer_writeDirectoryEntry_79 : decode b_Writer_writeDirectoryEntry 79 = .ok (.aload_n 0, 1) := by decide +kernel
theorem d_Writer_writeDirectoryEntry_80 : decode b_Writer_writeDirectoryEntry 80 = .ok (.getfield 9, 3) := by decide +kernel
theorem d_Writer_writeDirectoryEntry_83 : decode b_Writer_writeDirectoryEntry 83 = .ok (.iload_n 1, 1) := by decide +kernel
theorem d_Writer_writeDirectoryEntry_84 : decode b_Writer_writeDirectoryEntry 84 = .ok (.bipush 24, 2) := by decide +kernel
theorem d_Writer_writeDirectoryEntry_86 : decode b_Writer_writeDirectoryEntry 86 = .ok (.iadd, 1) := by decide +kernel
theorem d_Writer_writeDirectoryEntry_87 : decode b_Writer_writeDirectoryEntry 87 = .ok (.iconst 2, 1) := by decide +kernel
theorem d_Writer_writeDirectoryEntry_88 : decode b_Writer_writeDirectoryEntry 88 = .ok (.ldc2_w 254, 3) := by decide +kernel
theorem d_Writer_writeDirectoryEntry_91 : decode b_Writer_writeDirectoryEntry 91 = .ok (.invokevirtual 120, 3) := by decide +kernel
theorem d_Writer_writeDirectoryEntry_94 : decode b_Writer_writeDirectoryEntry 94 = .ok (.aload_n 0, 1) := by decide +kernel
theorem d_Writer_writeDirectoryEntry_95 : decode b_Writer_writeDirectoryEntry 95 = .ok (.getfield 9, 3) := by decide +kernel
theorem d_Writer_writeDirectoryEntry_98 : decode b_Writer_writeDirectoryEntry 98 = .ok (.iload_n 1, 1) := by decide +kernel
theorem d_Writer_writeDirectoryEntry_99 : decode b_Writer_writeDirectoryEntry 99 = .ok (.bipush 26, 2) := by decide +kernel
theorem d_Writer_writeDirectoryEntry_101 : decode b_Writer_writeDirectoryEntry 101 = .ok (.iadd, 1) := by decide +kernel
theorem d_Writer_writeDirectoryEntry_102 : decode b_Writer_writeDirectoryEntry 102 = .ok (.iconst 2, 1) := by decide +kernel
theorem d_Writer_writeDirectoryEntry_103 : decode b_Writer_writeDirectoryEntry 103 = .ok (.aload_n 0, 1) := by decide +kernel
theorem d_Writer_writeDirectoryEntry_104 : decode b_Writer_writeDirectoryEntry 104 = .ok (.getfield 32, 3) := by decide +kernel
theorem d_Writer_writeDirectoryEntry_107 : decode b_Writer_writeDirectoryEntry 107 = .ok (.getfield 242, 3) := by decide +kernel
theorem d_Writer_writeDirectoryEntry_110 : decode b_Writer_writeDirectoryEntry 110 = .ok (.iload_n 2, 1) := by decide +kernel
theorem d_Writer_writeDirectoryEntry_111 : decode b_Writer_writeDirectoryEntry 111 = .ok (.iaload, 1) := by decide +kernel
theorem d_Writer_writeDirectoryEntry_112 : decode b_Writer_writeDirectoryEntry 112 = .ok (.i2l, 1) := by decide +kernel
theorem d_Writer_writeDirectoryEntry_113 : decode b_Writer_writeDirectoryEntry 113 = .ok (.invokevirtual 120, 3) := by decide +kernel
theorem d_Writer_writeDirectoryEntry_116 : decode b_Writer_writeDirectoryEntry 116 = .ok (.aload_n 0, 1) := by decide +kernel
theorem d_Writer_writeDirectoryEntry_117 : decode b_Writer_writeDirectoryEntry 117 = .ok (.getfield 9, 3) := by decide +kernel
theorem d_Writer_writeDirectoryEntry_120 : decode b_Writer_writeDirectoryEntry 120 = .ok (.iload_n 1, 1) := by decide +kernel
theorem d_Writer_writeDirectoryEntry_121 : decode b_Writer_writeDirectoryEntry 121 = .ok (.bipush 28, 2) := by decide +kernel
theorem d_Writer_writeDirectoryEntry_123 : decode b_Writer_writeDirectoryEntry 123 = .ok (.iadd, 1) := by decide +kernel
theorem d_Writer_writeDirectoryEntry_124 : decode b_Writer_writeDirectoryEntry 124 = .ok (.iconst 4, 1) := by decide +kernel
theorem d_Writer_writeDirectoryEntry_125 : decode b_Writer_writeDirectoryEntry 125 = .ok (.aload_n 0, 1) := by decide +kernel
theorem d_Writer_writeDirectoryEntry_126 : decode b_Writer_writeDirectoryEntry 126 = .ok (.getfield 19, 3) := by decide +kernel
theorem d_Writer_writeDirectoryEntry_129 : decode b_Writer_writeDirectoryEntry 129 = .ok (.getfield 97, 3) := by decide +kernel
theorem d_Writer_writeDirectoryEntry_132 : decode b_Writer_writeDirectoryEntry 132 = .ok (.iload_n 2, 1) := by decide +kernel
theorem d_Writer_writeDirectoryEntry_133 : decode b_Writer_writeDirectoryEntry 133 = .ok (.iaload, 1) := by decide +kernel
theorem d_Writer_writeDirectoryEntry_134 : decode b_Writer_writeDirectoryEntry 134 = .ok (.i2l, 1) := by decide +kernel
theorem d_Writer_writeDirectoryEntry_135 : decode b_Writer_writeDirectoryEntry 135 = .ok (.invokevirtual 120, 3) := by decide +kernel
theorem d_Writer_writeDirectoryEntry_138 : decode b_Writer_writeDirectoryEntry 138 = .ok (.return_, 1) := by decide +kernel
theorem d_Writer_writeFile_0 : decode b_Writer_writeFile 0 = .ok (.aload_n 0, 1) := by decide +kernel
theorem d_Writer_writeFile_1 : decode b_Writer_writeFile 1 = .ok (.getfield 19, 3) := by decide +kernel
theorem d_Writer_writeFile_4 : decode b_Writer_writeFile 4 = .ok (.getfield 97, 3) := by decide +kernel
theorem d_Writer_writeFile_7 : decode b_Writer_writeFile 7 = .ok (.iload_n 1, 1) := by decide +kernel
theorem d_Writer_writeFile_8 : decode b_Writer_writeFile 8 = .ok (.iaload, 1) := by decide +kernel
theorem d_Writer_writeFile_9 : decode b_Writer_writeFile 9 = .ok (.istore_n 2, 1) := by decide +kernel
theorem d_Writer_writeFile_10 : decode b_Writer_writeFile 10 = .ok (.aload_n 0, 1) := by decide +kernel
theorem d_Writer_writeFile_11 : decode b_Writer_writeFile 11 = .ok (.aload_n 0, 1) := by decide +kernel
theorem d_Writer_writeFile_12 : decode b_Writer_writeFile 12 = .ok (.getfield 32, 3) := by decide +kernel
theorem d_Writer_writeFile_15 : decode b_Writer_writeFile 15 = .ok (.invokevirtual 236, 3) := by decide +kernel
theorem d_Writer_writeFile_18 : decode b_Writer_writeFile 18 = .ok (.sipush 512, 3) := by decide +kernel
theorem d_Writer_writeFile_21 : decode b_Writer_writeFile 21 = .ok (.imul, 1) := by decide +kernel
theorem d_Writer_writeFile_22 : decode b_Writer_writeFile 22 = .ok (.iload_n 1, 1) := by decide +kernel
theorem d_Writer_writeFile_23 : decode b_Writer_writeFile 23 = .ok (.bipush 32, 2) := by decide +kernel
theorem d_Writer_writeFile_25 : decode b_Writer_writeFile 25 = .ok (.imul, 1) := by decide +kernel
theorem d_Writer_writeFile_26 : decode b_Writer_writeFile 26 = .ok (.iadd, 1) := by decide +kernel
theorem d_Writer_writeFile_27 : decode b_Writer_writeFile 27 = .ok (.iload_n 1, 1) := by decide +kernel
theorem d_Writer_writeFile_28 : decode b_Writer_writeFile 28 = .ok (.invokevirtual 239, 3) := by decide +kernel
theorem d_Writer_writeFile_31 : decode b_Writer_writeFile 31 = .ok (.aload_n 0, 1) := by decide +kernel
theorem d_Writer_writeFile_32 : decode b_Writer_writeFile 32 = .ok (.getfield 32, 3) := by decide +kernel
theorem d_Writer_writeFile_35 : decode b_Writer_writeFile 35 = .ok (.getfield 242, 3) := by decide +kernel
theorem d_Writer_writeFile_38 : decode b_Writer_writeFile 38 = .ok (.iload_n 1, 1) := by decide +kernel
theorem d_Writer_writeFile_39 : decode b_Writer_writeFile 39 = .ok (.iaload, 1) := by decide +kernel
theorem d_Writer_writeFile_40 : decode b_Writer_writeFile 40 = .ok (.istore_n 3, 1) := by decide +kernel
theorem d_Writer_writeFile_41 : decode b_Writer_writeFile 41 = .ok (.iconst 0, 1) := by decide +kernel
theorem d_Writer_writeFile_42 : decode b_Writer_writeFile 42 = .ok (.istore 4, 2) := by decide +kernel
theorem d_Writer_writeFile_44 : decode b_Writer_writeFile 44 = .ok (.iconst 0, 1) := by decide +kernel
theorem d_Writer_writeFile_45 : decode b_Writer_writeFile 45 = .ok (.istore 5, 2) := by decide +kernel
theorem d_Writer_writeFile_47 : decode b_Writer_writeFile 47 = .ok (.iload 5, 2) := by decide +kernel
theorem d_Writer_writeFile_49 : decode b_Writer_writeFile 49 = .ok (.iload_n 2, 1) := by decide +kernel
theorem d_Writer_writeFile_50 : decode b_Writer_writeFile 50 = .ok (.if_icmp .ge 74, 3) := by decide +kernel
theorem d_Writer_writeFile_53 : decode b_Writer_writeFile 53 = .ok (.iload 5, 2) := by decide +kernel
theorem d_Writer_writeFile_55 : decode b_Writer_writeFile 55 = .ok (.sipush 512, 3) := by decide +kernel
theorem d_Writer_writeFile_58 : decode b_Writer_writeFile 58 = .ok (.irem, 1) := by decide +kernel
theorem d_Writer_writeFile_59 : decode b_Writer_writeFile 59 = .ok (.ifCond .ne 26, 3) := by decide +kernel
theorem d_Writer_writeFile_62 : decode b_Writer_writeFile 62 = .ok (.aload_n 0, 1) := by decide +kernel
theorem d_Writer_writeFile_63 : decode b_Writer_writeFile 63 = .ok (.getfield 32, 3) := by decide +kernel
theorem d_Writer_writeFile_66 : decode b_Writer_writeFile 66 = .ok (.iload_n 3, 1) := by decide +kernel
theorem d_Writer_writeFile_67 : decode b_Writer_writeFile 67 = .ok (.invokevirtual 245, 3) := by decide +kernel
theorem d_Writer_writeFile_70 : decode b_Writer_writeFile 70 = .ok (.sipush 512, 3) := by decide +kernel
theorem d_Writer_writeFile_73 : decode b_Writer_writeFile 73 = .ok (.imul, 1) := by decide +kernel
theorem d_Writer_writeFile_74 : decode b_Writer_writeFile 74 = .ok (.istore 4, 2) := by decide +kernel
theorem d_Writer_writeFile_76 : decode b_Writer_writeFile 76 = .ok (.aload_n 0, 1) := by decide +kernel
theorem d_Writer_writeFile_77 : decode b_Writer_writeFile 77 = .ok (.getfield 32, 3) := by decide +kernel
theorem d_Writer_writeFile_80 : decode b_Writer_writeFile 80 = .ok (.iload_n 3, 1) := by decide +kernel
theorem d_Writer_writeFile_81 : decode b_Writer_writeFile 81 = .ok (.invokevirtual 230, 3) := by decide +kernel
theorem d_Writer_writeFile_84 : decode b_Writer_writeFile 84 = .ok (.istore_n 3, 1) := by decide +kernel
theorem d_Writer_writeFile_85 : decode b_Writer_writeFile 85 = .ok (.aload_n 0, 1) := by decide +kernel
theorem d_Writer_writeFile_86 : decode b_Writer_writeFile 86 = .ok (.getfield 9, 3) := by decide +kernel
theorem d_Writer_writeFile_89 : decode b_Writer_writeFile 89 = .ok (.iload 4, 2) := by decide +kernel
theorem d_Writer_writeFile_91 : decode b_Writer_writeFile 91 = .ok (.iload 5, 2) := by decide +kernel
theorem d_Writer_writeFile_93 : decode b_Writer_writeFile 93 = .ok (.sipush 512, 3) := by decide +kernel
theorem d_Writer_writeFile_96 : decode b_Writer_writeFile 96 = .ok (.irem, 1) := by decide +kernel
theorem d_Writer_writeFile_97 : decode b_Writer_writeFile 97 = .ok (.iadd, 1) := by decide +kernel
theorem d_Writer_writeFile_98 : decode b_Writer_writeFile 98 = .ok (.aload_n 0, 1) := by decide +kernel
theorem d_Writer_writeFile_99 : decode b_Writer_writeFile 99 = .ok (.getfield 19, 3) := by decide +kernel
theorem d_Writer_writeFile_102 : decode b_Writer_writeFile 102 = .ok (.iload_n 1, 1) := by decide +kernel
theorem d_Writer_writeFile_103 : decode b_Writer_writeFile 103 = .ok (.iload 5, 2) := by decide +kernel
theorem d_Writer_writeFile_105 : decode b_Writer_writeFile 105 = .ok (.aload_n 0, 1) := by decide +kernel
theorem d_Writer_writeFile_106 : decode b_Writer_writeFile 106 = .ok (.getfield 32, 3) := by decide +kernel
theorem d_Writer_writeFile_109 : decode b_Writer_writeFile 109 = .ok (.getfield 142, 3) := by decide +kernel
theorem d_Writer_writeFile_112 : decode b_Writer_writeFile 112 = .ok (.invokevirtual 145, 3) := by decide +kernel
theorem d_Writer_writeFile_115 : decode b_Writer_writeFile 115 = .ok (.invokevirtual 104, 3) := by decide +kernel
theorem d_Writer_writeFile_118 : decode b_Writer_writeFile 118 = .ok (.iinc 5 1, 3) := by decide +kernel
theorem d_Writer_writeFile_121 : decode b_Writer_writeFile 121 = .ok (.goto (-74), 3) := by decide +kernel
theorem d_Writer_writeFile_124 : decode b_Writer_writeFile 124 = .ok (.return_, 1) := by decide +kernel
theorem d_Writer_layOut_0 : decode b_Writer_layOut 0 = .ok (.aload_n 0, 1) := by decide +kernel
theorem d_Writer_layOut_1 : decode b_Writer_layOut 1 = .ok (.getfield 32, 3) := by decide +kernel
theorem d_Writer_layOut_4 : decode b_Writer_layOut 4 = .ok (.invokevirtual 70, 3) := by decide +kernel
theorem d_Writer_layOut_7 : decode b_Writer_layOut 7 = .ok (.aload_n 0, 1) := by decide +kernel
theorem d_Writer_layOut_8 : decode b_Writer_layOut 8 = .ok (.getfield 19, 3) := by decide +kernel
theorem d_Writer_layOut_11 : decode b_Writer_layOut 11 = .ok (.invokevirtual 73, 3) := by decide +kernel
theorem d_Writer_layOut_14 : decode b_Writer_layOut 14 = .ok (.istore_n 1, 1) := by decide +kernel
theorem d_Writer_layOut_15 : decode b_Writer_layOut 15 = .ok (.iload_n 1, 1) := by decide +kernel
theorem d_Writer_layOut_16 : decode b_Writer_layOut 16 = .ok (.iconst (-1), 1) := by decide +kernel
theorem d_Writer_layOut_17 : decode b_Writer_layOut 17 = .ok (.if_icmp .ne 19, 3) := by decide +kernel
theorem d_Writer_layOut_20 : decode b_Writer_layOut 20 = .ok (.aload_n 0, 1) := by decide +kernel
theorem d_Writer_layOut_21 : decode b_Writer_layOut 21 = .ok (.getfield 19, 3) := by decide +kernel
theorem d_Writer_layOut_24 : decode b_Writer_layOut 24 = .ok (.getfield 62, 3) := by decide +kernel
theorem d_Writer_layOut_27 : decode b_Writer_layOut 27 = .ok (.ifCond .le 7, 3) := by decide +kernel
theorem d_Writer_layOut_30 : decode b_Writer_layOut 30 = .ok (.iconst 1, 1) := by decide +kernel
theorem d_Writer_layOut_31 : decode b_Writer_layOut 31 = .ok (.goto 4, 3) := by decide +kernel
theorem d_Writer_layOut_34 : decode b_Writer_layOut 34 = .ok (.iconst 0, 1) := by decide +kernel
theorem d_Writer_layOut_35 : decode b_Writer_layOut 35 = .ok (.ireturn, 1) := by decide +kernel
theorem d_Writer_layOut_36 : decode b_Writer_layOut 36 = .ok (.aload_n 0, 1) := by decide +kernel
theorem d_Writer_layOut_37 : decode b_Writer_layOut 37 = .ok (.getfield 32, 3) := by decide +kernel
theorem d_Writer_layOut_40 : decode b_Writer_layOut 40 = .ok (.aload_n 0, 1) := by decide +kernel
theorem d_Writer_layOut_41 : decode b_Writer_layOut 41 = .ok (.getfield 19, 3) := by decide +kernel
theorem d_Writer_layOut_44 : decode b_Writer_layOut 44 = .ok (.getfield 76, 3) := by decide +kernel
theorem d_Writer_layOut_47 : decode b_Writer_layOut 47 = .ok (.iload_n 1, 1) := by decide +kernel
theorem d_Writer_layOut_48 : decode b_Writer_layOut 48 = .ok (.iaload, 1) := by decide +kernel
theorem d_Writer_layOut_49 : decode b_Writer_layOut 49 = .ok (.aload_n 0, 1) := by decide +kernel
theorem d_Writer_layOut_50 : decode b_Writer_layOut 50 = .ok (.getfield 19, 3) := by decide +kernel
theorem d_Writer_layOut_53 : decode b_Writer_layOut 53 = .ok (.getfield 80, 3) := by decide +kernel
theorem d_Writer_layOut_56 : decode b_Writer_layOut 56 = .ok (.iload_n 1, 1) := by decide +kernel
theorem d_Writer_layOut_57 : decode b_Writer_layOut 57 = .ok (.iaload, 1) := by decide +kernel
theorem d_Writer_layOut_58 : decode b_Writer_layOut 58 = .ok (.invokevirtual 83, 3) := by decide +kernel
theorem d_Writer_layOut_61 : decode b_Writer_layOut 61 = .ok (.aload_n 0, 1) := by decide +kernel
theorem d_Writer_layOut_62 : decode b_Writer_layOut 62 = .ok (.getfield 32, 3) := by decide +kernel
theorem d_Writer_layOut_65 : decode b_Writer_layOut 65 = .ok (.invokevirtual 52, 3) := by decide +kernel
theorem d_Writer_layOut_68 : decode b_Writer_layOut 68 = .ok (.ifCond .ne 19, 3) := by decide +kernel
theorem d_Writer_layOut_71 : decode b_Writer_layOut 71 = .ok (.aload_n 0, 1) := by decide +kernel
theorem d_Writer_layOut_72 : decode b_Writer_layOut 72 = .ok (.getfield 19, 3) := by decide +kernel
theorem d_Writer_layOut_75 : decode b_Writer_layOut 75 = .ok (.getfield 62, 3) := by decide +kernel
theorem d_Writer_layOut_78 : decode b_Writer_layOut 78 = .ok (.ifCond .le 7, 3) := by decide +kernel
theorem d_Writer_layOut_81 : decode b_Writer_layOut 81 = .ok (.iconst 2, 1) := by decide +kernel
theorem d_Writer_layOut_82 : decode b_Writer_layOut 82 = .ok (.goto 4, 3) := by decide +kernel
theorem d_Writer_layOut_85 : decode b_Writer_layOut 85 = .ok (.iconst 0, 1) := by decide +kernel
theorem d_Writer_layOut_86 : decode b_Writer_layOut 86 = .ok (.ireturn, 1) := by decide +kernel
theorem d_Writer_layOut_87 : decode b_Writer_layOut 87 = .ok (.aload_n 0, 1) := by decide +kernel
theorem d_Writer_layOut_88 : decode b_Writer_layOut 88 = .ok (.getfield 32, 3) := by decide +kernel
theorem d_Writer_layOut_91 : decode b_Writer_layOut 91 = .ok (.aload_n 0, 1) := by decide +kernel
theorem d_Writer_layOut_92 : decode b_Writer_layOut 92 = .ok (.getfield 19, 3) := by decide +kernel
theorem d_Writer_layOut_95 : decode b_Writer_layOut 95 = .ok (.invokevirtual 87, 3) := by decide +kernel
theorem d_Writer_layOut_98 : decode b_Writer_layOut 98 = .ok (.ifCond .ne 5, 3) := by decide +kernel
theorem d_Writer_layOut_101 : decode b_Writer_layOut 101 = .ok (.iconst 2, 1) := by decide +kernel
theorem d_Writer_layOut_102 : decode b_Writer_layOut 102 = .ok (.ireturn, 1) := by decide +kernel
theorem d_Writer_layOut_103 : decode b_Writer_layOut 103 = .ok (.aload_n 0, 1) := by decide +kernel
theorem d_Writer_layOut_104 : decode b_Writer_layOut 104 = .ok (.getfield 19, 3) := by decide +kernel
theorem d_Writer_layOut_107 : decode b_Writer_layOut 107 = .ok (.ldc2_w 91, 3) := by decide +kernel
theorem d_Writer_layOut_110 : decode b_Writer_layOut 110 = .ok (.invokevirtual 93, 3) := by decide +kernel
theorem d_Writer_layOut_113 : decode b_Writer_layOut 113 = .ok (.istore_n 2, 1) := by decide +kernel
theorem d_Writer_layOut_114 : decode b_Writer_layOut 114 = .ok (.iload_n 2, 1) := by decide +kernel
theorem d_Writer_layOut_115 : decode b_Writer_layOut 115 = .ok (.iconst (-1), 1) := by decide +kernel
theorem d_Writer_layOut_116 : decode b_Writer_layOut 116 = .ok (.if_icmp .eq 25, 3) := by decide +kernel
theorem d_Writer_layOut_119 : decode b_Writer_layOut 119 = .ok (.aload_n 0, 1) := by decide +kernel
theorem d_Writer_layOut_120 : decode b_Writer_layOut 120 = .ok (.getfield 32, 3) := by decide +kernel
theorem d_Writer_layOut_123 : decode b_Writer_layOut 123 = .ok (.iload_n 2, 1) := by decide +kernel
theorem d_Writer_layOut_124 : decode b_Writer_layOut 124 = .ok (.aload_n 0, 1) := by decide +kernel
theorem d_Writer_layOut_125 : decode b_Writer_layOut 125 = .ok (.getfield 19, 3) := by decide +kernel
theorem d_Writer_layOut_128 : decode b_Writer_layOut 128 = .ok (.getfield 97, 3) := by decide +kernel
theorem d_Writer_layOut_131 : decode b_Writer_layOut 131 = .ok (.iload_n 2, 1) := by decide +kernel
theorem d_Writer_layOut_132 : decode b_Writer_layOut 132 = .ok (.iaload, 1) := by decide +kernel
theorem d_Writer_layOut_133 : decode b_Writer_layOut 133 = .ok (.invokevirtual 100, 3) := by decide +kernel
theorem d_Writer_layOut_136 : decode b_Writer_layOut 136 = .ok (.ifCond .ne 5, 3) := by decide +kernel
theorem d_Writer_layOut_139 : decode b_Writer_layOut 139 = .ok (.iconst 3, 1) := by decide +kernel
theorem d_Writer_layOut_140 : decode b_Writer_layOut 140 = .ok (.ireturn, 1) := by decide +kernel
theorem d_Writer_layOut_141 : decode b_Writer_layOut 141 = .ok (.iconst 0, 1) := by decide +kernel
theorem d_Writer_layOut_142 : decode b_Writer_layOut 142 = .ok (.ireturn, 1) := by decide +kernel
theorem d_Writer_writeDisk_0 : decode b_Writer_writeDisk 0 = .ok (.aload_n 0, 1) := by decide +kernel
theorem d_Writer_writeDisk_1 : decode b_Writer_writeDisk 1 = .ok (.invokevirtual 36, 3) := by decide +kernel
theorem d_Writer_writeDisk_4 : decode b_Writer_writeDisk 4 = .ok (.istore_n 1, 1) := by decide +kernel
theorem d_Writer_writeDisk_5 : decode b_Writer_writeDisk 5 = .ok (.iload_n 1, 1) := by decide +kernel
theorem d_Writer_writeDisk_6 : decode b_Writer_writeDisk 6 = .ok (.ifCond .eq 5, 3) := by decide +kernel
theorem d_Writer_writeDisk_9 : decode b_Writer_writeDisk 9 = .ok (.iload_n 1, 1) := by decide +kernel
theorem d_Writer_writeDisk_10 : decode b_Writer_writeDisk 10 = .ok (.ireturn, 1) := by decide +kernel
theorem d_Writer_writeDisk_11 : decode b_Writer_writeDisk 11 = .ok (.aload_n 0, 1) := by decide +kernel
theorem d_Writer_writeDisk_12 : decode b_Writer_writeDisk 12 = .ok (.getfield 9, 3) := by decide +kernel
theorem d_Writer_writeDisk_15 : decode b_Writer_writeDisk 15 = .ok (.invokevirtual 40, 3) := by decide +kernel
theorem d_Writer_writeDisk_18 : decode b_Writer_writeDisk 18 = .ok (.aload_n 0, 1) := by decide +kernel
theorem d_Writer_writeDisk_19 : decode b_Writer_writeDisk 19 = .ok (.invokevirtual 45, 3) := by decide +kernel
theorem d_Writer_writeDisk_22 : decode b_Writer_writeDisk 22 = .ok (.aload_n 0, 1) := by decide +kernel
theorem d_Writer_writeDisk_23 : decode b_Writer_writeDisk 23 = .ok (.iconst 2, 1) := by decide +kernel
theorem d_Writer_writeDisk_24 : decode b_Writer_writeDisk 24 = .ok (.iconst 1, 1) := by decide +kernel
theorem d_Writer_writeDisk_25 : decode b_Writer_writeDisk 25 = .ok (.aload_n 0, 1) := by decide +kernel
theorem d_Writer_writeDisk_26 : decode b_Writer_writeDisk 26 = .ok (.getfield 15, 3) := by decide +kernel
theorem d_Writer_writeDisk_29 : decode b_Writer_writeDisk 29 = .ok (.iconst 1, 1) := by decide +kernel
theorem d_Writer_writeDisk_30 : decode b_Writer_writeDisk 30 = .ok (.isub, 1) := by decide +kernel
theorem d_Writer_writeDisk_31 : decode b_Writer_writeDisk 31 = .ok (.invokevirtual 48, 3) := by decide +kernel
theorem d_Writer_writeDisk_34 : decode b_Writer_writeDisk 34 = .ok (.aload_n 0, 1) := by decide +kernel
theorem d_Writer_writeDisk_35 : decode b_Writer_writeDisk 35 = .ok (.aload_n 0, 1) := by decide +kernel
theorem d_Writer_writeDisk_36 : decode b_Writer_writeDisk 36 = .ok (.getfield 15, 3) := by decide +kernel
theorem d_Writer_writeDisk_39 : decode b_Writer_writeDisk 39 = .ok (.bipush 33, 2) := by decide +kernel
theorem d_Writer_writeDisk_41 : decode b_Writer_writeDisk 41 = .ok (.isub, 1) := by decide +kernel
theorem d_Writer_writeDisk_42 : decode b_Writer_writeDisk 42 = .ok (.aload_n 0, 1) := by decide +kernel
theorem d_Writer_writeDisk_43 : decode b_Writer_writeDisk 43 = .ok (.getfield 15, 3) := by decide +kernel
theorem d_Writer_writeDisk_46 : decode b_Writer_writeDisk 46 = .ok (.iconst 1, 1) := by decide +kernel
theorem d_Writer_writeDisk_47 : decode b_Writer_writeDisk 47 = .ok (.isub, 1) := by decide +kernel
theorem d_Writer_writeDisk_48 : decode b_Writer_writeDisk 48 = .ok (.iconst 1, 1) := by decide +kernel
theorem d_Writer_writeDisk_49 : decode b_Writer_writeDisk 49 = .ok (.invokevirtual 48, 3) := by decide +kernel
theorem d_Writer_writeDisk_52 : decode b_Writer_writeDisk 52 = .ok (.aload_n 0, 1) := by decide +kernel
theorem d_Writer_writeDisk_53 : decode b_Writer_writeDisk 53 = .ok (.getfield 32, 3) := by decide +kernel
theorem d_Writer_writeDisk_56 : decode b_Writer_writeDisk 56 = .ok (.invokevirtual 52, 3) := by decide +kernel
theorem d_Writer_writeDisk_59 : decode b_Writer_writeDisk 59 = .ok (.ifCond .eq 35, 3) := by decide +kernel
theorem d_Writer_writeDisk_62 : decode b_Writer_writeDisk 62 = .ok (.aload_n 0, 1) := by decide +kernel
theorem d_Writer_writeDisk_63 : decode b_Writer_writeDisk 63 = .ok (.invokevirtual 56, 3) := by decide +kernel
theorem d_Writer_writeDisk_66 : decode b_Writer_writeDisk 66 = .ok (.aload_n 0, 1) := by decide +kernel
theorem d_Writer_writeDisk_67 : decode b_Writer_writeDisk 67 = .ok (.invokevirtual 59, 3) := by decide +kernel
theorem d_Writer_writeDisk_70 : decode b_Writer_writeDisk 70 = .ok (.iconst 0, 1) := by decide +kernel
theorem d_Writer_writeDisk_71 : decode b_Writer_writeDisk 71 = .ok (.istore_n 2, 1) := by decide +kernel
theorem d_Writer_writeDisk_72 : decode b_Writer_writeDisk 72 = .ok (.iload_n 2, 1) := by decide +kernel
theorem d_Writer_writeDisk_73 : decode b_Writer_writeDisk 73 = .ok (.aload_n 0, 1) := by decide +kernel
theorem d_Writer_writeDisk_74 : decode b_Writer_writeDisk 74 = .ok (.getfield 19, 3) := by decide +kernel
theorem d_Writer_writeDisk_77 : decode b_Writer_writeDisk 77 = .ok (.getfield 62, 3) := by decide +kernel
theorem d_Writer_writeDisk_80 : decode b_Writer_writeDisk 80 = .ok (.if_icmp .ge 14, 3) := by decide +kernel
theorem d_Writer_writeDisk_83 : decode b_Writer_writeDisk 83 = .ok (.aload_n 0, 1) := by decide +kernel
theorem d_Writer_writeDisk_84 : decode b_Writer_writeDisk 84 = .ok (.iload_n 2, 1) := by decide +kernel
theorem d_Writer_writeDisk_85 : decode b_Writer_writeDisk 85 = .ok (.invokevirtual 67, 3) := by decide +kernel
theorem d_Writer_writeDisk_88 : decode b_Writer_writeDisk 88 = .ok (.iinc 2 1, 3) := by decide +kernel
theorem d_Writer_writeDisk_91 : decode b_Writer_writeDisk 91 = .ok (.goto (-19), 3) := by decide +kernel
theorem d_Writer_writeDisk_94 : decode b_Writer_writeDisk 94 = .ok (.iconst 0, 1) := by decide +kernel
theorem d_Writer_writeDisk_95 : decode b_Writer_writeDisk 95 = .ok (.ireturn, 1) := by decide +kernel
set_option maxRecDepth 100000 in
theorem kc_Writer_209 : Cond.constantLong R_Writer 209 512 ∈ Wall := inW 512 rfl rfl
set_option maxRecDepth 100000 in
theorem kc_Writer_211 : Cond.constantLong R_Writer 211 32 ∈ Wall := inW 513 rfl rfl
set_option maxRecDepth 100000 in
theorem kc_Writer_218 : Cond.constantLong R_Writer 218 2 ∈ Wall := inW 514 rfl rfl
set_option maxRecDepth 100000 in
theorem fc_Writer_205 : FcV Wall classes R_Writer 205 0 y_Store_putText b_Store_putText 4 (none) ws_Store_putText 2 := ⟨⟨rfl, cw_Store_putText, inW 506 rfl rfl, in_i_Store, by decide +kernel⟩, inW 507 rfl rfl, inW 508 rfl rfl, _, _, rfl⟩
set_option maxRecDepth 100000 in
theorem fg_Writer_213 : FlG Wall classes R_Writer 213 3 1 := ⟨_, _, _, rfl, by decide, in_Volume, inW 125 rfl rfl⟩
set_option maxRecDepth 100000 in
theorem fg_Writer_215 : FlG Wall classes R_Writer 215 3 2 := ⟨_, _, _, rfl, by decide, in_Volume, inW 127 rfl rfl⟩
set_option maxRecDepth 100000 in
theorem fc_Writer_230 : FcV Wall classes R_Writer 230 3 y_Volume_follower b_Volume_follower 2 (some .int) ws_Volume_follower 1 := ⟨⟨rfl, cw_Volume_follower, inW 525 rfl rfl, in_i_Volume, by decide +kernel⟩, inW 349 rfl rfl, inW 350 rfl rfl, _, _, rfl⟩
set_option maxRecDepth 100000 in
theorem fc_Writer_233 : FcV Wall classes R_Writer 233 0 y_Store_get b_Store_get 2 (some .int) ws_Store_get 1 := ⟨⟨rfl, cw_Store_get, inW 526 rfl rfl, in_i_Store, by decide +kernel⟩, inW 492 rfl rfl, inW 493 rfl rfl, _, _, rfl⟩
set_option maxRecDepth 100000 in
theorem fg_Writer_224 : FlG Wall classes R_Writer 224 3 3 := ⟨_, _, _, rfl, by decide, in_Volume, inW 129 rfl rfl⟩
set_option maxRecDepth 100000 in
theorem fc_Writer_227 : FcV Wall classes R_Writer 227 4 y_Writer_writeClusterEntry b_Writer_writeClusterEntry 5 (none) ws_Writer_writeClusterEntry 2 := ⟨⟨rfl, cw_Writer_writeClusterEntry, inW 521 rfl rfl, in_i_Writer, by decide +kernel⟩, inW 523 rfl rfl, inP 11 rfl rfl, _, _, rfl⟩
set_option maxRecDepth 100000 in
theorem kc_Writer_254 : Cond.constantLong R_Writer 254 33 ∈ Wall := inW 537 rfl rfl
set_option maxRecDepth 100000 in
theorem fg_Writer_242 : FlG Wall classes R_Writer 242 3 5 := ⟨_, _, _, rfl, by decide, in_Volume, inW 132 rfl rfl⟩
set_option maxRecDepth 100000 in
theorem fg_Writer_250 : FlG Wall classes R_Writer 250 2 5 := ⟨_, _, _, rfl, by decide, in_Plan, inW 74 rfl rfl⟩
set_option maxRecDepth 100000 in
theorem fc_Writer_236 : FcV Wall classes R_Writer 236 3 y_Volume_directorySector b_Volume_directorySector 1 (some .int) ws_Volume_directorySector 0 := ⟨⟨rfl, cw_Volume_directorySector, inW 531 rfl rfl, in_i_Volume, by decide +kernel⟩, inW 345 rfl rfl, inW 346 rfl rfl, _, _, rfl⟩
set_option maxRecDepth 100000 in
theorem fc_Writer_239 : FcV Wall classes R_Writer 239 4 y_Writer_writeDirectoryEntry b_Writer_writeDirectoryEntry 6 (none) ws_Writer_writeDirectoryEntry 2 := ⟨⟨rfl, cw_Writer_writeDirectoryEntry, inW 532 rfl rfl, in_i_Writer, by decide +kernel⟩, inW 534 rfl rfl, inP 13 rfl rfl, _, _, rfl⟩
set_option maxRecDepth 100000 in
theorem fc_Writer_245 : FcV Wall classes R_Writer 245 3 y_Volume_sectorOf b_Volume_sectorOf 2 (some .int) ws_Volume_sectorOf 1 := ⟨⟨rfl, cw_Volume_sectorOf, inW 538 rfl rfl, in_i_Volume, by decide +kernel⟩, inW 341 rfl rfl, inW 342 rfl rfl, _, _, rfl⟩
set_option maxRecDepth 100000 in
theorem fc_Writer_70 : FcV Wall classes R_Writer 70 3 y_Volume_forget b_Volume_forget 1 (none) ws_Volume_forget 0 := ⟨⟨rfl, cw_Volume_forget, inW 294 rfl rfl, in_i_Volume, by decide +kernel⟩, inW 295 rfl rfl, inW 296 rfl rfl, _, _, rfl⟩
set_option maxRecDepth 100000 in
theorem fc_Writer_73 : FcV Wall classes R_Writer 73 2 y_Plan_bootPartition b_Plan_bootPartition 2 (some .int) ws_Plan_bootPartition 0 := ⟨⟨rfl, cw_Plan_bootPartition, inW 298 rfl rfl, in_i_Plan, by decide +kernel⟩, inW 299 rfl rfl, inW 300 rfl rfl, _, _, rfl⟩
set_option maxRecDepth 100000 in
theorem fc_Writer_83 : FcV Wall classes R_Writer 83 3 y_Volume_lieIn b_Volume_lieIn 3 (none) ws_Volume_lieIn 2 := ⟨⟨rfl, cw_Volume_lieIn, inW 302 rfl rfl, in_i_Volume, by decide +kernel⟩, inW 303 rfl rfl, inW 304 rfl rfl, _, _, rfl⟩
set_option maxRecDepth 100000 in
theorem fc_Writer_52 : FcV Wall classes R_Writer 52 3 y_Volume_isPossible b_Volume_isPossible 1 (some .boolean) ws_Volume_isPossible 0 := ⟨⟨rfl, cw_Volume_isPossible, inW 312 rfl rfl, in_i_Volume, by decide +kernel⟩, inW 313 rfl rfl, inW 314 rfl rfl, _, _, rfl⟩
set_option maxRecDepth 100000 in
theorem fc_Writer_87 : FcV Wall classes R_Writer 87 3 y_Volume_placeFiles b_Volume_placeFiles 4 (some .boolean) ws_Volume_placeFiles 1 := ⟨⟨rfl, cw_Volume_placeFiles, inW 316 rfl rfl, in_i_Volume, by decide +kernel⟩, inW 317 rfl rfl, inW 318 rfl rfl, _, _, rfl⟩
set_option maxRecDepth 100000 in
theorem fc_Writer_100 : FcV Wall classes R_Writer 100 3 y_Volume_findRuns b_Volume_findRuns 7 (some .boolean) ws_Volume_findRuns 2 := ⟨⟨rfl, cw_Volume_findRuns, inW 336 rfl rfl, in_i_Volume, by decide +kernel⟩, inW 337 rfl rfl, inW 338 rfl rfl, _, _, rfl⟩
set_option maxRecDepth 100000 in
theorem fg_Writer_62 : FlG Wall classes R_Writer 62 2 9 := ⟨_, _, _, rfl, by decide, in_Plan, inW 81 rfl rfl⟩
set_option maxRecDepth 100000 in
theorem fc_Writer_36 : FcV Wall classes R_Writer 36 4 y_Writer_layOut b_Writer_layOut 3 (some .int) ws_Writer_layOut 0 := ⟨⟨rfl, cw_Writer_layOut, inW 290 rfl rfl, in_i_Writer, by decide +kernel⟩, inW 292 rfl rfl, inP 1 rfl rfl, _, _, rfl⟩
set_option maxRecDepth 100000 in
theorem fc_Writer_40 : FcV Wall classes R_Writer 40 0 y_Store_clear b_Store_clear 1 (none) ws_Store_clear 0 := ⟨⟨rfl, cw_Store_clear, inW 352 rfl rfl, in_i_Store, by decide +kernel⟩, inW 353 rfl rfl, inW 354 rfl rfl, _, _, rfl⟩
set_option maxRecDepth 100000 in
theorem fc_Writer_45 : FcV Wall classes R_Writer 45 4 y_Writer_writeSectorZero b_Writer_writeSectorZero 2 (none) ws_Writer_writeSectorZero 0 := ⟨⟨rfl, cw_Writer_writeSectorZero, inW 359 rfl rfl, in_i_Writer, by decide +kernel⟩, inW 361 rfl rfl, inP 4 rfl rfl, _, _, rfl⟩
set_option maxRecDepth 100000 in
theorem fc_Writer_48 : FcV Wall classes R_Writer 48 4 y_Writer_writeTable b_Writer_writeTable 6 (none) ws_Writer_writeTable 3 := ⟨⟨rfl, cw_Writer_writeTable, inW 465 rfl rfl, in_i_Writer, by decide +kernel⟩, inW 467 rfl rfl, inP 7 rfl rfl, _, _, rfl⟩
set_option maxRecDepth 100000 in
theorem fc_Writer_56 : FcV Wall classes R_Writer 56 4 y_Writer_writeVolumeSector b_Writer_writeVolumeSector 2 (none) ws_Writer_writeVolumeSector 0 := ⟨⟨rfl, cw_Writer_writeVolumeSector, inW 501 rfl rfl, in_i_Writer, by decide +kernel⟩, inW 503 rfl rfl, inP 9 rfl rfl, _, _, rfl⟩
set_option maxRecDepth 100000 in
theorem fc_Writer_59 : FcV Wall classes R_Writer 59 4 y_Writer_writeClusterTables b_Writer_writeClusterTables 4 (none) ws_Writer_writeClusterTables 0 := ⟨⟨rfl, cw_Writer_writeClusterTables, inW 517 rfl rfl, in_i_Writer, by decide +kernel⟩, inW 519 rfl rfl, inP 10 rfl rfl, _, _, rfl⟩
set_option maxRecDepth 100000 in
theorem fc_Writer_67 : FcV Wall classes R_Writer 67 4 y_Writer_writeFile b_Writer_writeFile 6 (none) ws_Writer_writeFile 1 := ⟨⟨rfl, cw_Writer_writeFile, inW 527 rfl rfl, in_i_Writer, by decide +kernel⟩, inW 529 rfl rfl, inP 12 rfl rfl, _, _, rfl⟩
