def R_Store : String := "BootMaker$Store"
def R_Sums : String := "BootMaker$Sums"
def R_Plan : String := "BootMaker$Plan"
def R_Volume : String := "BootMaker$Volume"
def R_Writer : String := "BootMaker$Writer"
def R_Firmware : String := "BootMaker$Firmware"
def R_BootMaker : String := "BootMaker"
def R_Model : String := "BootMakerModel"
def R_Law : String := "BootMakerLaw"
def R_Arrays : String := "java/util/Arrays"
def R_String : String := "java/lang/String"
def R_Latin1 : String := "java/lang/StringLatin1"
def R_Precond : String := "jdk/internal/util/Preconditions"
def F_Store : u_T := fun k => match k with
  | 0 => ("BootMaker$Store", "length", "I", true)
  | _ => ("BootMaker$Store", "words", "[J", true)
def t_Store : Nat → FieldType := fun k => match k with
  | 0 => .int
  | _ => .array .long
theorem n_Store : ∀ a, a < 2 → ∀ b, b < 2 → a ≠ b → (F_Store a).2.1 ≠ (F_Store b).2.1 := by decide +kernel
theorem t_Store_ok : ∀ k, k < 2 → parseFieldDescriptor (F_Store k).2.2.1 = some (t_Store k) := by decide +kernel
def F_Sums : u_T := fun k => match k with
  | 0 => ("BootMaker$Sums", "shifted", "[I", true)
  | _ => ("BootMaker$Sums", "bits", "I", false)
def t_Sums : Nat → FieldType := fun k => match k with
  | 0 => .array .int
  | _ => .int
theorem n_Sums : ∀ a, a < 2 → ∀ b, b < 2 → a ≠ b → (F_Sums a).2.1 ≠ (F_Sums b).2.1 := by decide +kernel
theorem t_Sums_ok : ∀ k, k < 2 → parseFieldDescriptor (F_Sums k).2.2.1 = some (t_Sums k) := by decide +kernel
def F_Plan : u_T := fun k => match k with
  | 0 => ("BootMaker$Plan", "lastUsable", "I", true)
  | 1 => ("BootMaker$Plan", "sorts", "[I", true)
  | 2 => ("BootMaker$Plan", "starts", "[I", true)
  | 3 => ("BootMaker$Plan", "lengths", "[I", true)
  | 4 => ("BootMaker$Plan", "partitions", "I", false)
  | 5 => ("BootMaker$Plan", "names", "[J", true)
  | 6 => ("BootMaker$Plan", "sizes", "[I", true)
  | 7 => ("BootMaker$Plan", "seeds", "[I", true)
  | 8 => ("BootMaker$Plan", "scattered", "[Z", true)
  | 9 => ("BootMaker$Plan", "files", "I", false)
  | _ => ("BootMaker$Plan", "kernelAddress", "I", false)
def t_Plan : Nat → FieldType := fun k => match k with
  | 0 => .int
  | 1 => .array .int
  | 2 => .array .int
  | 3 => .array .int
  | 4 => .int
  | 5 => .array .long
  | 6 => .array .int
  | 7 => .array .int
  | 8 => .array .boolean
  | 9 => .int
  | _ => .int
theorem n_Plan : ∀ a, a < 11 → ∀ b, b < 11 → a ≠ b → (F_Plan a).2.1 ≠ (F_Plan b).2.1 := by decide +kernel
theorem t_Plan_ok : ∀ k, k < 11 → parseFieldDescriptor (F_Plan k).2.2.1 = some (t_Plan k) := by decide +kernel
def F_Volume : u_T := fun k => match k with
  | 0 => ("BootMaker$Volume", "start", "I", false)
  | 1 => ("BootMaker$Volume", "length", "I", false)
  | 2 => ("BootMaker$Volume", "tableSectors", "I", false)
  | 3 => ("BootMaker$Volume", "clusters", "I", false)
  | 4 => ("BootMaker$Volume", "next", "[I", true)
  | 5 => ("BootMaker$Volume", "firstClusters", "[I", true)
  | 6 => ("BootMaker$Volume", "runStarts", "[I", true)
  | 7 => ("BootMaker$Volume", "runLengths", "[I", true)
  | _ => ("BootMaker$Volume", "runs", "I", false)
def t_Volume : Nat → FieldType := fun k => match k with
  | 0 => .int
  | 1 => .int
  | 2 => .int
  | 3 => .int
  | 4 => .array .int
  | 5 => .array .int
  | 6 => .array .int
  | 7 => .array .int
  | _ => .int
theorem n_Volume : ∀ a, a < 9 → ∀ b, b < 9 → a ≠ b → (F_Volume a).2.1 ≠ (F_Volume b).2.1 := by decide +kernel
theorem t_Volume_ok : ∀ k, k < 9 → parseFieldDescriptor (F_Volume k).2.2.1 = some (t_Volume k) := by decide +kernel
def F_Writer : u_T := fun k => match k with
  | 0 => ("BootMaker$Writer", "disk", "LBootMaker$Store;", true)
  | 1 => ("BootMaker$Writer", "sectors", "I", true)
  | 2 => ("BootMaker$Writer", "plan", "LBootMaker$Plan;", true)
  | 3 => ("BootMaker$Writer", "sums", "LBootMaker$Sums;", true)
  | _ => ("BootMaker$Writer", "volume", "LBootMaker$Volume;", true)
def t_Writer : Nat → FieldType := fun k => match k with
  | 0 => .object "BootMaker$Store"
  | 1 => .int
  | 2 => .object "BootMaker$Plan"
  | 3 => .object "BootMaker$Sums"
  | _ => .object "BootMaker$Volume"
theorem n_Writer : ∀ a, a < 5 → ∀ b, b < 5 → a ≠ b → (F_Writer a).2.1 ≠ (F_Writer b).2.1 := by decide +kernel
theorem t_Writer_ok : ∀ k, k < 5 → parseFieldDescriptor (F_Writer k).2.2.1 = some (t_Writer k) := by decide +kernel
def F_Firmware : u_T := fun k => match k with
  | 0 => ("BootMaker$Firmware", "ram", "LBootMaker$Store;", true)
  | 1 => ("BootMaker$Firmware", "disk", "LBootMaker$Store;", true)
  | 2 => ("BootMaker$Firmware", "sectors", "I", true)
  | 3 => ("BootMaker$Firmware", "sums", "LBootMaker$Sums;", true)
  | 4 => ("BootMaker$Firmware", "loaderSectors", "[I", true)
  | 5 => ("BootMaker$Firmware", "chain", "[I", true)
  | 6 => ("BootMaker$Firmware", "tableSectors", "I", false)
  | 7 => ("BootMaker$Firmware", "clusters", "I", false)
  | 8 => ("BootMaker$Firmware", "tried", "Z", false)
  | 9 => ("BootMaker$Firmware", "header", "I", false)
  | 10 => ("BootMaker$Firmware", "bootStart", "I", false)
  | 11 => ("BootMaker$Firmware", "kernelAddress", "I", false)
  | _ => ("BootMaker$Firmware", "kernelSize", "I", false)
def t_Firmware : Nat → FieldType := fun k => match k with
  | 0 => .object "BootMaker$Store"
  | 1 => .object "BootMaker$Store"
  | 2 => .int
  | 3 => .object "BootMaker$Sums"
  | 4 => .array .int
  | 5 => .array .int
  | 6 => .int
  | 7 => .int
  | 8 => .boolean
  | 9 => .int
  | 10 => .int
  | 11 => .int
  | _ => .int
theorem n_Firmware : ∀ a, a < 13 → ∀ b, b < 13 → a ≠ b → (F_Firmware a).2.1 ≠ (F_Firmware b).2.1 := by decide +kernel
theorem t_Firmware_ok : ∀ k, k < 13 → parseFieldDescriptor (F_Firmware k).2.2.1 = some (t_Firmware k) := by decide +kernel
def F_BootMaker : u_T := fun k => match k with
  | 0 => ("BootMaker", "disk", "LBootMaker$Store;", true)
  | 1 => ("BootMaker", "sums", "LBootMaker$Sums;", true)
  | 2 => ("BootMaker", "plan", "LBootMaker$Plan;", true)
  | 3 => ("BootMaker", "writer", "LBootMaker$Writer;", true)
  | _ => ("BootMaker", "firmware", "LBootMaker$Firmware;", true)
def t_BootMaker : Nat → FieldType := fun k => match k with
  | 0 => .object "BootMaker$Store"
  | 1 => .object "BootMaker$Sums"
  | 2 => .object "BootMaker$Plan"
  | 3 => .object "BootMaker$Writer"
  | _ => .object "BootMaker$Firmware"
theorem n_BootMaker : ∀ a, a < 5 → ∀ b, b < 5 → a ≠ b → (F_BootMaker a).2.1 ≠ (F_BootMaker b).2.1 := by decide +kernel
theorem t_BootMaker_ok : ∀ k, k < 5 → parseFieldDescriptor (F_BootMaker k).2.2.1 = some (t_BootMaker k) := by decide +kernel
def F_Model : u_T := fun k => match k with
  | 0 => ("BootMakerModel", "thrown", "I", false)
  | 1 => ("BootMakerModel", "sectors", "I", true)
  | 2 => ("BootMakerModel", "disk", "[B", true)
  | 3 => ("BootMakerModel", "partitions", "I", false)
  | 4 => ("BootMakerModel", "sort", "[I", true)
  | 5 => ("BootMakerModel", "first", "[I", true)
  | 6 => ("BootMakerModel", "many", "[I", true)
  | 7 => ("BootMakerModel", "files", "I", false)
  | 8 => ("BootMakerModel", "name", "[J", true)
  | 9 => ("BootMakerModel", "size", "[I", true)
  | 10 => ("BootMakerModel", "seed", "[I", true)
  | 11 => ("BootMakerModel", "scattered", "[Z", true)
  | 12 => ("BootMakerModel", "address", "I", false)
  | 13 => ("BootMakerModel", "start", "I", false)
  | 14 => ("BootMakerModel", "fat", "I", false)
  | 15 => ("BootMakerModel", "clusters", "I", false)
  | 16 => ("BootMakerModel", "head", "[I", true)
  | 17 => ("BootMakerModel", "follows", "[I", true)
  | 18 => ("BootMakerModel", "header", "I", false)
  | 19 => ("BootMakerModel", "found", "I", false)
  | 20 => ("BootMakerModel", "kernelAt", "I", false)
  | 21 => ("BootMakerModel", "kernelSize", "I", false)
  | 22 => ("BootMakerModel", "any", "Z", false)
  | _ => ("BootMakerModel", "memory", "[B", true)
def t_Model : Nat → FieldType := fun k => match k with
  | 0 => .int
  | 1 => .int
  | 2 => .array .byte
  | 3 => .int
  | 4 => .array .int
  | 5 => .array .int
  | 6 => .array .int
  | 7 => .int
  | 8 => .array .long
  | 9 => .array .int
  | 10 => .array .int
  | 11 => .array .boolean
  | 12 => .int
  | 13 => .int
  | 14 => .int
  | 15 => .int
  | 16 => .array .int
  | 17 => .array .int
  | 18 => .int
  | 19 => .int
  | 20 => .int
  | 21 => .int
  | 22 => .boolean
  | _ => .array .byte
theorem n_Model : ∀ a, a < 24 → ∀ b, b < 24 → a ≠ b → (F_Model a).2.1 ≠ (F_Model b).2.1 := by decide +kernel
theorem t_Model_ok : ∀ k, k < 24 → parseFieldDescriptor (F_Model k).2.2.1 = some (t_Model k) := by decide +kernel
abbrev classes : List vw_C := [(R_Store, F_Store, 2), (R_Sums, F_Sums, 2), (R_Plan, F_Plan, 11), (R_Volume, F_Volume, 9), (R_Writer, F_Writer, 5), (R_Firmware, F_Firmware, 13), (R_BootMaker, F_BootMaker, 5), (R_Model, F_Model, 24)]
def Wall : List Cond := lw_tbl.filter goodWord
theorem inW {w : Cond} (k : Nat) (h : tables_1[k]? = some w) (hg : goodWord w = true) : w ∈ Wall := List.mem_filter.mpr ⟨List.mem_append_right _ (List.mem_of_getElem? h), hg⟩
theorem inP {w : Cond} (k : Nat) (h : (k2_sels lw_privs)[k]? = some w) (hg : goodWord w = true) : w ∈ Wall := List.mem_filter.mpr ⟨List.mem_append_left _ (List.mem_of_getElem? h), hg⟩
theorem good_W : Gd Wall := fun w h => good_of_word (List.mem_filter.mp h).2
set_option maxRecDepth 100000 in
theorem in_Store : ∀ w ∈ u_ws R_Store F_Store 2, w ∈ Wall := by
  intro w hw
  obtain ⟨k, hk, rfl⟩ := List.mem_map.mp hw
  have hk := List.mem_range.mp hk
  match k, hk with
  | 0, _ => exact inW 36 rfl rfl
  | 1, _ => exact inW 38 rfl rfl
  | (q + 2), h => exact absurd h (by omega)
set_option maxRecDepth 100000 in
theorem in_Sums : ∀ w ∈ u_ws R_Sums F_Sums 2, w ∈ Wall := by
  intro w hw
  obtain ⟨k, hk, rfl⟩ := List.mem_map.mp hw
  have hk := List.mem_range.mp hk
  match k, hk with
  | 0, _ => exact inW 51 rfl rfl
  | 1, _ => exact inW 53 rfl rfl
  | (q + 2), h => exact absurd h (by omega)
set_option maxRecDepth 100000 in
theorem in_Plan : ∀ w ∈ u_ws R_Plan F_Plan 11, w ∈ Wall := by
  intro w hw
  obtain ⟨k, hk, rfl⟩ := List.mem_map.mp hw
  have hk := List.mem_range.mp hk
  match k, hk with
  | 0, _ => exact inW 86 rfl rfl
  | 1, _ => exact inW 88 rfl rfl
  | 2, _ => exact inW 90 rfl rfl
  | 3, _ => exact inW 92 rfl rfl
  | 4, _ => exact inW 94 rfl rfl
  | 5, _ => exact inW 96 rfl rfl
  | 6, _ => exact inW 98 rfl rfl
  | 7, _ => exact inW 100 rfl rfl
  | 8, _ => exact inW 102 rfl rfl
  | 9, _ => exact inW 104 rfl rfl
  | 10, _ => exact inW 106 rfl rfl
  | (q + 11), h => exact absurd h (by omega)
set_option maxRecDepth 100000 in
theorem in_Volume : ∀ w ∈ u_ws R_Volume F_Volume 9, w ∈ Wall := by
  intro w hw
  obtain ⟨k, hk, rfl⟩ := List.mem_map.mp hw
  have hk := List.mem_range.mp hk
  match k, hk with
  | 0, _ => exact inW 139 rfl rfl
  | 1, _ => exact inW 141 rfl rfl
  | 2, _ => exact inW 143 rfl rfl
  | 3, _ => exact inW 145 rfl rfl
  | 4, _ => exact inW 147 rfl rfl
  | 5, _ => exact inW 149 rfl rfl
  | 6, _ => exact inW 151 rfl rfl
  | 7, _ => exact inW 153 rfl rfl
  | 8, _ => exact inW 155 rfl rfl
  | (q + 9), h => exact absurd h (by omega)
set_option maxRecDepth 100000 in
theorem in_Writer : ∀ w ∈ u_ws R_Writer F_Writer 5, w ∈ Wall := by
  intro w hw
  obtain ⟨k, hk, rfl⟩ := List.mem_map.mp hw
  have hk := List.mem_range.mp hk
  match k, hk with
  | 0, _ => exact inW 163 rfl rfl
  | 1, _ => exact inW 165 rfl rfl
  | 2, _ => exact inW 167 rfl rfl
  | 3, _ => exact inW 169 rfl rfl
  | 4, _ => exact inW 171 rfl rfl
  | (q + 5), h => exact absurd h (by omega)
set_option maxRecDepth 100000 in
theorem in_Firmware : ∀ w ∈ u_ws R_Firmware F_Firmware 13, w ∈ Wall := by
  intro w hw
  obtain ⟨k, hk, rfl⟩ := List.mem_map.mp hw
  have hk := List.mem_range.mp hk
  match k, hk with
  | 0, _ => exact inW 197 rfl rfl
  | 1, _ => exact inW 199 rfl rfl
  | 2, _ => exact inW 201 rfl rfl
  | 3, _ => exact inW 203 rfl rfl
  | 4, _ => exact inW 205 rfl rfl
  | 5, _ => exact inW 207 rfl rfl
  | 6, _ => exact inW 209 rfl rfl
  | 7, _ => exact inW 211 rfl rfl
  | 8, _ => exact inW 213 rfl rfl
  | 9, _ => exact inW 215 rfl rfl
  | 10, _ => exact inW 217 rfl rfl
  | 11, _ => exact inW 219 rfl rfl
  | 12, _ => exact inW 221 rfl rfl
  | (q + 13), h => exact absurd h (by omega)
set_option maxRecDepth 100000 in
theorem in_BootMaker : ∀ w ∈ u_ws R_BootMaker F_BootMaker 5, w ∈ Wall := by
  intro w hw
  obtain ⟨k, hk, rfl⟩ := List.mem_map.mp hw
  have hk := List.mem_range.mp hk
  match k, hk with
  | 0, _ => exact inW 229 rfl rfl
  | 1, _ => exact inW 231 rfl rfl
  | 2, _ => exact inW 233 rfl rfl
  | 3, _ => exact inW 235 rfl rfl
  | 4, _ => exact inW 237 rfl rfl
  | (q + 5), h => exact absurd h (by omega)
set_option maxRecDepth 100000 in
theorem in_Model : ∀ w ∈ u_ws R_Model F_Model 24, w ∈ Wall := by
  intro w hw
  obtain ⟨k, hk, rfl⟩ := List.mem_map.mp hw
  have hk := List.mem_range.mp hk
  match k, hk with
  | 0, _ => exact inW 806 rfl rfl
  | 1, _ => exact inW 808 rfl rfl
  | 2, _ => exact inW 810 rfl rfl
  | 3, _ => exact inW 812 rfl rfl
  | 4, _ => exact inW 814 rfl rfl
  | 5, _ => exact inW 816 rfl rfl
  | 6, _ => exact inW 818 rfl rfl
  | 7, _ => exact inW 820 rfl rfl
  | 8, _ => exact inW 822 rfl rfl
  | 9, _ => exact inW 824 rfl rfl
  | 10, _ => exact inW 826 rfl rfl
  | 11, _ => exact inW 828 rfl rfl
  | 12, _ => exact inW 830 rfl rfl
  | 13, _ => exact inW 832 rfl rfl
  | 14, _ => exact inW 834 rfl rfl
  | 15, _ => exact inW 836 rfl rfl
  | 16, _ => exact inW 838 rfl rfl
  | 17, _ => exact inW 840 rfl rfl
  | 18, _ => exact inW 842 rfl rfl
  | 19, _ => exact inW 844 rfl rfl
  | 20, _ => exact inW 846 rfl rfl
  | 21, _ => exact inW 848 rfl rfl
  | 22, _ => exact inW 850 rfl rfl
  | 23, _ => exact inW 852 rfl rfl
  | (q + 24), h => exact absurd h (by omega)
set_option maxRecDepth 100000 in
theorem in_i_Store : Cond.initialized "BootMaker$Store" ∈ Wall := inW 2 rfl rfl
set_option maxRecDepth 100000 in
theorem in_i_Sums : Cond.initialized "BootMaker$Sums" ∈ Wall := inW 3 rfl rfl
set_option maxRecDepth 100000 in
theorem in_i_Plan : Cond.initialized "BootMaker$Plan" ∈ Wall := inW 4 rfl rfl
set_option maxRecDepth 100000 in
theorem in_i_Volume : Cond.initialized "BootMaker$Volume" ∈ Wall := inW 6 rfl rfl
set_option maxRecDepth 100000 in
theorem in_i_Writer : Cond.initialized "BootMaker$Writer" ∈ Wall := inW 5 rfl rfl
set_option maxRecDepth 100000 in
theorem in_i_Firmware : Cond.initialized "BootMaker$Firmware" ∈ Wall := inW 7 rfl rfl
set_option maxRecDepth 100000 in
theorem in_i_BootMaker : Cond.initialized "BootMaker" ∈ Wall := inW 1 rfl rfl
set_option maxRecDepth 100000 in
theorem in_i_Model : Cond.initialized "BootMakerModel" ∈ Wall := inW 8 rfl rfl
set_option maxRecDepth 100000 in
theorem in_i_Arrays : Cond.initialized "java/util/Arrays" ∈ Wall := inW 9 rfl rfl
set_option maxRecDepth 100000 in
theorem in_i_String : Cond.initialized "java/lang/String" ∈ Wall := inW 10 rfl rfl
set_option maxRecDepth 100000 in
theorem in_i_Latin1 : Cond.initialized "java/lang/StringLatin1" ∈ Wall := inW 11 rfl rfl
set_option maxRecDepth 100000 in
theorem in_i_Precond : Cond.initialized "jdk/internal/util/Preconditions" ∈ Wall := inW 12 rfl rfl
abbrev GT : Type := va_G × (ClassId × ClassId × ClassId × ClassId)
def tK (g : GT) : List (ClassId × FieldType) := [(g.2.1, .int), (g.2.2.1, .long), (g.2.2.2.1, .boolean), (g.2.2.2.2, .byte)]
abbrev Cg (l : Launch) (g : GT) (E : (Nat → Prop) → State → Prop) (y : MethodName) (ws : List Cond) (rm : Room) (av : List Value) (w0 : va_W) (o : Option Value) (w1 : va_W) : Prop := Ct l y ws rm g.1 classes (tK g) E av w0 o w1
abbrev XT : Type := (Nat → Nat) × (Nat → Nat) × (Nat → Nat)
def sLen (i : Nat) : Nat := [4, 4, 4, 4, 8, 11, 8, 11, 12, 4, 11, 4, 15].getD i 0
def sByt (i j : Nat) : Int32 := (([[75, 82, 78, 76], [76, 79, 65, 68], [98, 111, 111, 116], [100, 97, 116, 97], [77, 65, 75, 69, 82, 32, 32, 32], [66, 79, 79, 84, 32, 32, 32, 32, 32, 32, 32], [70, 65, 84, 49, 50, 32, 32, 32], [32, 32, 32, 32, 32, 32, 32, 32, 32, 32, 32], [110, 111, 32, 115, 117, 99, 104, 32, 109, 111, 100, 101], [76, 79, 65, 68], [75, 69, 82, 78, 69, 76, 32, 32, 32, 32, 32], [75, 82, 78, 76], [110, 111, 32, 115, 117, 99, 104, 32, 97, 100, 100, 114, 101, 115, 115]] : List (List Int32)).getD i []).getD j 0
def sOwn (i : Nat) : String := ["BootMaker$Plan", "BootMaker$Plan", "BootMaker$Writer", "BootMaker$Writer", "BootMaker$Writer", "BootMaker$Writer", "BootMaker$Writer", "BootMaker$Writer", "BootMaker", "BootMaker$Firmware", "BootMaker$Firmware", "BootMaker$Firmware", "BootMaker"].getD i ""
def sIdx (i : Nat) : Nat := [63, 74, 190, 192, 203, 220, 222, 248, 90, 127, 178, 186, 104].getD i 0
def sTx (i : Nat) : String := ["KRNL", "LOAD", "boot", "data", "MAKER   ", "BOOT       ", "FAT12   ", "           ", "no such mode", "LOAD", "KERNEL     ", "KRNL", "no such address"].getD i ""
def tLen (k : Nat) : Nat := [16, 16, 8, 8].getD k 0
def tVal (k j : Nat) : Int32 := (([[40, 115, 42, 193, 31, 248, 210, 17, 186, 75, 0, 160, 201, 62, 201, 59], [162, 160, 208, 235, 229, 185, 51, 68, 135, 192, 104, 182, 183, 38, 153, 199], [69, 70, 73, 32, 80, 65, 82, 84], [0, 0, 2, 0, 238, 255, 255, 255]] : List (List Int32)).getD k []).getD j 0
def tNm (k : Nat) : String := ["BOOT_BYTES", "DATA_BYTES", "HEADER_MARK", "PROTECTIVE_ENTRY"].getD k ""
def nOwn (k : Nat) : String := ["BootMaker$Writer", "BootMaker$Writer", "BootMaker$Writer", "BootMaker$Writer", "BootMaker$Firmware", "BootMaker$Firmware"].getD k ""
def nIdx (k : Nat) : Nat := [113, 184, 187, 161, 89, 113].getD k 0
def nNm (k : Nat) : String := ["PROTECTIVE_ENTRY", "BOOT_BYTES", "DATA_BYTES", "HEADER_MARK", "HEADER_MARK", "BOOT_BYTES"].getD k ""
/-- a String: its class, its bytes -/
def StrAt (a v n : Nat) (f : Nat → Int32) (A : Nat → Prop) (U : State) : Prop := va_O "java/lang/String" a A U U.heap ∧ va_OF "java/lang/String" "coder" "B" (.int 0) a A U U.heap ∧ va_OF "java/lang/String" "value" "[B" (.ref v) a A U U.heap ∧ va_T .byte v n (fun j => .int (f j)) A U U.heap ∧ va_Z "java/lang/String" "COMPACT_STRINGS" "Z" (.int 1) A U U.heap ∧ va_Zq "jdk/internal/util/Preconditions" "SIOOBE_FORMATTER" "Ljava/util/function/BiFunction;" A U U.heap
def BytAt (v n : Nat) (f : Nat → Int32) (A : Nat → Prop) (U : State) : Prop := va_T .byte v n (fun j => .int (f j)) A U U.heap ∧ va_Zq "jdk/internal/util/Preconditions" "SIOOBE_FORMATTER" "Ljava/util/function/BiFunction;" A U U.heap
/-- what the statics and the constants hold -/
def SS (X : XT) (A : Nat → Prop) (U : State) : Prop := (∀ i : Nat, i < 13 → StrAt (X.2.1 i) (X.2.2 i) (sLen i) (sByt i) A U) ∧ (∀ i : Nat, i < 13 → vk_R (sOwn i) (sIdx i) (sTx i) (X.2.1 i) U) ∧ (∀ k : Nat, k < 4 → va_Z "BootMaker" (tNm k) "[I" (.ref (X.1 k)) A U U.heap ∧ va_T .int (X.1 k) (tLen k) (fun j => .int (tVal k j)) A U U.heap) ∧ ∀ k : Nat, k < 6 → va_Nw (.fieldLinkNest (nOwn k) (nIdx k) "BootMaker" (nNm k) "[I" "BootMaker") U
