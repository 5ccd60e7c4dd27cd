/-! ===== methods of M: printed by program ===== -/
def y_M_init : MethodName := ⟨cR6, "<init>", "()V"⟩
abbrev b_M_init : ByteArray := prog_8_method_1_code
abbrev k_M_init : Cond := .code y_M_init b_M_init 1 none
theorem mc_M_init : MC y_M_init k_M_init b_M_init 1 none [] 0 := ⟨g_in (List.mem_of_getElem? (i := 745) (by decide +kernel)) (by decide +kernel), Or.inl ⟨rfl, rfl⟩, g_in (List.mem_of_getElem? (i := 62) (by decide +kernel)) (by decide +kernel), by decide, by decide +kernel⟩
theorem in_M_init : Cond.instanceMethod y_M_init ∈ g_ws := g_in (List.mem_of_getElem? (i := 744) (by decide +kernel)) (by decide +kernel)
theorem d_M_init_0 : decode b_M_init 0 = .ok (.aload_n 0, 1) := by decide +kernel
theorem d_M_init_1 : decode b_M_init 1 = .ok (.invokespecial 1, 3) := by decide +kernel
theorem d_M_init_4 : decode b_M_init 4 = .ok (.aload_n 0, 1) := by decide +kernel
theorem d_M_init_5 : decode b_M_init 5 = .ok (.bipush 30, 2) := by decide +kernel
theorem d_M_init_7 : decode b_M_init 7 = .ok (.newarray .int, 2) := by decide +kernel
theorem d_M_init_9 : decode b_M_init 9 = .ok (.putfield 7, 3) := by decide +kernel
theorem d_M_init_12 : decode b_M_init 12 = .ok (.aload_n 0, 1) := by decide +kernel
theorem d_M_init_13 : decode b_M_init 13 = .ok (.bipush 30, 2) := by decide +kernel
theorem d_M_init_15 : decode b_M_init 15 = .ok (.newarray .int, 2) := by decide +kernel
theorem d_M_init_17 : decode b_M_init 17 = .ok (.putfield 13, 3) := by decide +kernel
theorem d_M_init_20 : decode b_M_init 20 = .ok (.aload_n 0, 1) := by decide +kernel
theorem d_M_init_21 : decode b_M_init 21 = .ok (.bipush 30, 2) := by decide +kernel
theorem d_M_init_23 : decode b_M_init 23 = .ok (.newarray .int, 2) := by decide +kernel
theorem d_M_init_25 : decode b_M_init 25 = .ok (.putfield 16, 3) := by decide +kernel
theorem d_M_init_28 : decode b_M_init 28 = .ok (.aload_n 0, 1) := by decide +kernel
theorem d_M_init_29 : decode b_M_init 29 = .ok (.bipush 30, 2) := by decide +kernel
theorem d_M_init_31 : decode b_M_init 31 = .ok (.newarray .int, 2) := by decide +kernel
theorem d_M_init_33 : decode b_M_init 33 = .ok (.putfield 19, 3) := by decide +kernel
theorem d_M_init_36 : decode b_M_init 36 = .ok (.aload_n 0, 1) := by decide +kernel
theorem d_M_init_37 : decode b_M_init 37 = .ok (.bipush 30, 2) := by decide +kernel
theorem d_M_init_39 : decode b_M_init 39 = .ok (.newarray .int, 2) := by decide +kernel
theorem d_M_init_41 : decode b_M_init 41 = .ok (.putfield 22, 3) := by decide +kernel
theorem d_M_init_44 : decode b_M_init 44 = .ok (.aload_n 0, 1) := by decide +kernel
theorem d_M_init_45 : decode b_M_init 45 = .ok (.bipush 30, 2) := by decide +kernel
theorem d_M_init_47 : decode b_M_init 47 = .ok (.newarray .int, 2) := by decide +kernel
theorem d_M_init_49 : decode b_M_init 49 = .ok (.putfield 25, 3) := by decide +kernel
theorem d_M_init_52 : decode b_M_init 52 = .ok (.aload_n 0, 1) := by decide +kernel
theorem d_M_init_53 : decode b_M_init 53 = .ok (.bipush 90, 2) := by decide +kernel
theorem d_M_init_55 : decode b_M_init 55 = .ok (.newarray .int, 2) := by decide +kernel
theorem d_M_init_57 : decode b_M_init 57 = .ok (.putfield 28, 3) := by decide +kernel
theorem d_M_init_60 : decode b_M_init 60 = .ok (.aload_n 0, 1) := by decide +kernel
theorem d_M_init_61 : decode b_M_init 61 = .ok (.sipush 600, 3) := by decide +kernel
theorem d_M_init_64 : decode b_M_init 64 = .ok (.newarray .boolean, 2) := by decide +kernel
theorem d_M_init_66 : decode b_M_init 66 = .ok (.putfield 31, 3) := by decide +kernel
theorem d_M_init_69 : decode b_M_init 69 = .ok (.aload_n 0, 1) := by decide +kernel
theorem d_M_init_70 : decode b_M_init 70 = .ok (.sipush 600, 3) := by decide +kernel
theorem d_M_init_73 : decode b_M_init 73 = .ok (.newarray .boolean, 2) := by decide +kernel
theorem d_M_init_75 : decode b_M_init 75 = .ok (.putfield 35, 3) := by decide +kernel
theorem d_M_init_78 : decode b_M_init 78 = .ok (.aload_n 0, 1) := by decide +kernel
theorem d_M_init_79 : decode b_M_init 79 = .ok (.sipush 600, 3) := by decide +kernel
theorem d_M_init_82 : decode b_M_init 82 = .ok (.newarray .boolean, 2) := by decide +kernel
theorem d_M_init_84 : decode b_M_init 84 = .ok (.putfield 38, 3) := by decide +kernel
theorem d_M_init_87 : decode b_M_init 87 = .ok (.aload_n 0, 1) := by decide +kernel
theorem d_M_init_88 : decode b_M_init 88 = .ok (.sipush 600, 3) := by decide +kernel
theorem d_M_init_91 : decode b_M_init 91 = .ok (.newarray .int, 2) := by decide +kernel
theorem d_M_init_93 : decode b_M_init 93 = .ok (.putfield 41, 3) := by decide +kernel
theorem d_M_init_96 : decode b_M_init 96 = .ok (.aload_n 0, 1) := by decide +kernel
theorem d_M_init_97 : decode b_M_init 97 = .ok (.bipush 100, 2) := by decide +kernel
theorem d_M_init_99 : decode b_M_init 99 = .ok (.newarray .boolean, 2) := by decide +kernel
theorem d_M_init_101 : decode b_M_init 101 = .ok (.putfield 44, 3) := by decide +kernel
theorem d_M_init_104 : decode b_M_init 104 = .ok (.aload_n 0, 1) := by decide +kernel
theorem d_M_init_105 : decode b_M_init 105 = .ok (.sipush 400, 3) := by decide +kernel
theorem d_M_init_108 : decode b_M_init 108 = .ok (.newarray .boolean, 2) := by decide +kernel
theorem d_M_init_110 : decode b_M_init 110 = .ok (.putfield 47, 3) := by decide +kernel
theorem d_M_init_113 : decode b_M_init 113 = .ok (.aload_n 0, 1) := by decide +kernel
theorem d_M_init_114 : decode b_M_init 114 = .ok (.sipush 300, 3) := by decide +kernel
theorem d_M_init_117 : decode b_M_init 117 = .ok (.newarray .int, 2) := by decide +kernel
theorem d_M_init_119 : decode b_M_init 119 = .ok (.putfield 50, 3) := by decide +kernel
theorem d_M_init_122 : decode b_M_init 122 = .ok (.aload_n 0, 1) := by decide +kernel
theorem d_M_init_123 : decode b_M_init 123 = .ok (.iconst (-1), 1) := by decide +kernel
theorem d_M_init_124 : decode b_M_init 124 = .ok (.putfield 53, 3) := by decide +kernel
theorem d_M_init_127 : decode b_M_init 127 = .ok (.aload_n 0, 1) := by decide +kernel
theorem d_M_init_128 : decode b_M_init 128 = .ok (.bipush 20, 2) := by decide +kernel
theorem d_M_init_130 : decode b_M_init 130 = .ok (.newarray .int, 2) := by decide +kernel
theorem d_M_init_132 : decode b_M_init 132 = .ok (.putfield 57, 3) := by decide +kernel
theorem d_M_init_135 : decode b_M_init 135 = .ok (.aload_n 0, 1) := by decide +kernel
theorem d_M_init_136 : decode b_M_init 136 = .ok (.sipush 160, 3) := by decide +kernel
theorem d_M_init_139 : decode b_M_init 139 = .ok (.newarray .int, 2) := by decide +kernel
theorem d_M_init_141 : decode b_M_init 141 = .ok (.putfield 60, 3) := by decide +kernel
theorem d_M_init_144 : decode b_M_init 144 = .ok (.aload_n 0, 1) := by decide +kernel
theorem d_M_init_145 : decode b_M_init 145 = .ok (.sipush 160, 3) := by decide +kernel
theorem d_M_init_148 : decode b_M_init 148 = .ok (.newarray .int, 2) := by decide +kernel
theorem d_M_init_150 : decode b_M_init 150 = .ok (.putfield 63, 3) := by decide +kernel
theorem d_M_init_153 : decode b_M_init 153 = .ok (.aload_n 0, 1) := by decide +kernel
theorem d_M_init_154 : decode b_M_init 154 = .ok (.sipush 160, 3) := by decide +kernel
theorem d_M_init_157 : decode b_M_init 157 = .ok (.newarray .int, 2) := by decide +kernel
theorem d_M_init_159 : decode b_M_init 159 = .ok (.putfield 66, 3) := by decide +kernel
theorem d_M_init_162 : decode b_M_init 162 = .ok (.aload_n 0, 1) := by decide +kernel
theorem d_M_init_163 : decode b_M_init 163 = .ok (.sipush 160, 3) := by decide +kernel
theorem d_M_init_166 : decode b_M_init 166 = .ok (.newarray .boolean, 2) := by decide +kernel
theorem d_M_init_168 : decode b_M_init 168 = .ok (.putfield 69, 3) := by decide +kernel
theorem d_M_init_171 : decode b_M_init 171 = .ok (.aload_n 0, 1) := by decide +kernel
theorem d_M_init_172 : decode b_M_init 172 = .ok (.bipush 20, 2) := by decide +kernel
theorem d_M_init_174 : decode b_M_init 174 = .ok (.newarray .int, 2) := by decide +kernel
theorem d_M_init_176 : decode b_M_init 176 = .ok (.putfield 72, 3) := by decide +kernel
theorem d_M_init_179 : decode b_M_init 179 = .ok (.aload_n 0, 1) := by decide +kernel
theorem d_M_init_180 : decode b_M_init 180 = .ok (.sipush 160, 3) := by decide +kernel
theorem d_M_init_183 : decode b_M_init 183 = .ok (.newarray .int, 2) := by decide +kernel
theorem d_M_init_185 : decode b_M_init 185 = .ok (.putfield 75, 3) := by decide +kernel
theorem d_M_init_188 : decode b_M_init 188 = .ok (.aload_n 0, 1) := by decide +kernel
theorem d_M_init_189 : decode b_M_init 189 = .ok (.sipush 160, 3) := by decide +kernel
theorem d_M_init_192 : decode b_M_init 192 = .ok (.newarray .int, 2) := by decide +kernel
theorem d_M_init_194 : decode b_M_init 194 = .ok (.putfield 78, 3) := by decide +kernel
theorem d_M_init_197 : decode b_M_init 197 = .ok (.aload_n 0, 1) := by decide +kernel
theorem d_M_init_198 : decode b_M_init 198 = .ok (.sipush 160, 3) := by decide +kernel
theorem d_M_init_201 : decode b_M_init 201 = .ok (.newarray .int, 2) := by decide +kernel
theorem d_M_init_203 : decode b_M_init 203 = .ok (.putfield 81, 3) := by decide +kernel
theorem d_M_init_206 : decode b_M_init 206 = .ok (.aload_n 0, 1) := by decide +kernel
theorem d_M_init_207 : decode b_M_init 207 = .ok (.sipush 160, 3) := by decide +kernel
theorem d_M_init_210 : decode b_M_init 210 = .ok (.newarray .boolean, 2) := by decide +kernel
theorem d_M_init_212 : decode b_M_init 212 = .ok (.putfield 84, 3) := by decide +kernel
theorem d_M_init_215 : decode b_M_init 215 = .ok (.aload_n 0, 1) := by decide +kernel
theorem d_M_init_216 : decode b_M_init 216 = .ok (.bipush 40, 2) := by decide +kernel
theorem d_M_init_218 : decode b_M_init 218 = .ok (.newarray .int, 2) := by decide +kernel
theorem d_M_init_220 : decode b_M_init 220 = .ok (.putfield 87, 3) := by decide +kernel
theorem d_M_init_223 : decode b_M_init 223 = .ok (.aload_n 0, 1) := by decide +kernel
theorem d_M_init_224 : decode b_M_init 224 = .ok (.bipush 40, 2) := by decide +kernel
theorem d_M_init_226 : decode b_M_init 226 = .ok (.newarray .int, 2) := by decide +kernel
theorem d_M_init_228 : decode b_M_init 228 = .ok (.putfield 90, 3) := by decide +kernel
theorem d_M_init_231 : decode b_M_init 231 = .ok (.aload_n 0, 1) := by decide +kernel
theorem d_M_init_232 : decode b_M_init 232 = .ok (.sipush 300, 3) := by decide +kernel
theorem d_M_init_235 : decode b_M_init 235 = .ok (.newarray .int, 2) := by decide +kernel
theorem d_M_init_237 : decode b_M_init 237 = .ok (.putfield 93, 3) := by decide +kernel
theorem d_M_init_240 : decode b_M_init 240 = .ok (.return_, 1) := by decide +kernel
def y_M_thrown : MethodName := ⟨cR6, "thrown", "()I"⟩
abbrev b_M_thrown : ByteArray := prog_8_method_2_code
abbrev k_M_thrown : Cond := .code y_M_thrown b_M_thrown 1 (some .int)
theorem mc_M_thrown : MC y_M_thrown k_M_thrown b_M_thrown 1 (some .int) [] 0 := ⟨g_in (List.mem_of_getElem? (i := 868) (by decide +kernel)) (by decide +kernel), Or.inl ⟨rfl, rfl⟩, g_in (List.mem_of_getElem? (i := 62) (by decide +kernel)) (by decide +kernel), by decide, by decide +kernel⟩
theorem in_M_thrown : Cond.instanceMethod y_M_thrown ∈ g_ws := g_in (List.mem_of_getElem? (i := 866) (by decide +kernel)) (by decide +kernel)
theorem se_M_thrown : Cond.selects cR6 y_M_thrown y_M_thrown ∈ g_ws := g_in (List.mem_of_getElem? (i := 867) (by decide +kernel)) (by decide +kernel)
theorem d_M_thrown_0 : decode b_M_thrown 0 = .ok (.aload_n 0, 1) := by decide +kernel
theorem d_M_thrown_1 : decode b_M_thrown 1 = .ok (.getfield 96, 3) := by decide +kernel
theorem d_M_thrown_4 : decode b_M_thrown 4 = .ok (.ireturn, 1) := by decide +kernel
def y_M_in : MethodName := ⟨cR6, "in", "(III)Z"⟩
abbrev b_M_in : ByteArray := prog_8_method_3_code
abbrev k_M_in : Cond := .code y_M_in b_M_in 3 (some .boolean)
theorem mc_M_in : MC y_M_in k_M_in b_M_in 3 (some .boolean) [] 3 := ⟨g_in (List.mem_of_getElem? (i := 875) (by decide +kernel)) (by decide +kernel), Or.inl ⟨rfl, rfl⟩, g_in (List.mem_of_getElem? (i := 62) (by decide +kernel)) (by decide +kernel), by decide, by decide +kernel⟩
theorem st_M_in : Cond.static y_M_in ∈ g_ws := g_in (List.mem_of_getElem? (i := 874) (by decide +kernel)) (by decide +kernel)
theorem d_M_in_0 : decode b_M_in 0 = .ok (.iload_n 0, 1) := by decide +kernel
theorem d_M_in_1 : decode b_M_in 1 = .ok (.iload_n 1, 1) := by decide +kernel
theorem d_M_in_2 : decode b_M_in 2 = .ok (.if_icmp .lt 12, 3) := by decide +kernel
theorem d_M_in_5 : decode b_M_in 5 = .ok (.iload_n 0, 1) := by decide +kernel
theorem d_M_in_6 : decode b_M_in 6 = .ok (.iload_n 2, 1) := by decide +kernel
theorem d_M_in_7 : decode b_M_in 7 = .ok (.if_icmp .gt 7, 3) := by decide +kernel
theorem d_M_in_10 : decode b_M_in 10 = .ok (.iconst 1, 1) := by decide +kernel
theorem d_M_in_11 : decode b_M_in 11 = .ok (.goto 4, 3) := by decide +kernel
theorem d_M_in_14 : decode b_M_in 14 = .ok (.iconst 0, 1) := by decide +kernel
theorem d_M_in_15 : decode b_M_in 15 = .ok (.ireturn, 1) := by decide +kernel
def y_M_goes : MethodName := ⟨cR6, "goes", "(ZZZ)Z"⟩
abbrev b_M_goes : ByteArray := prog_8_method_4_code
abbrev k_M_goes : Cond := .code y_M_goes b_M_goes 4 (some .boolean)
theorem mc_M_goes : MC y_M_goes k_M_goes b_M_goes 4 (some .boolean) [] 3 := ⟨g_in (List.mem_of_getElem? (i := 879) (by decide +kernel)) (by decide +kernel), Or.inl ⟨rfl, rfl⟩, g_in (List.mem_of_getElem? (i := 62) (by decide +kernel)) (by decide +kernel), by decide, by decide +kernel⟩
theorem in_M_goes : Cond.instanceMethod y_M_goes ∈ g_ws := g_in (List.mem_of_getElem? (i := 878) (by decide +kernel)) (by decide +kernel)
theorem se_M_goes : Cond.selects cR6 y_M_goes y_M_goes ∈ g_ws := g_in (List.mem_of_getElem? (i := 35) (by decide +kernel)) (by decide +kernel)
theorem d_M_goes_0 : decode b_M_goes 0 = .ok (.aload_n 0, 1) := by decide +kernel
theorem d_M_goes_1 : decode b_M_goes 1 = .ok (.iload_n 1, 1) := by decide +kernel
theorem d_M_goes_2 : decode b_M_goes 2 = .ok (.ifCond .ne 7, 3) := by decide +kernel
theorem d_M_goes_5 : decode b_M_goes 5 = .ok (.iconst 1, 1) := by decide +kernel
theorem d_M_goes_6 : decode b_M_goes 6 = .ok (.goto 20, 3) := by decide +kernel
theorem d_M_goes_9 : decode b_M_goes 9 = .ok (.iload_n 2, 1) := by decide +kernel
theorem d_M_goes_10 : decode b_M_goes 10 = .ok (.ifCond .ne 7, 3) := by decide +kernel
theorem d_M_goes_13 : decode b_M_goes 13 = .ok (.iconst 2, 1) := by decide +kernel
theorem d_M_goes_14 : decode b_M_goes 14 = .ok (.goto 12, 3) := by decide +kernel
theorem d_M_goes_17 : decode b_M_goes 17 = .ok (.iload_n 3, 1) := by decide +kernel
theorem d_M_goes_18 : decode b_M_goes 18 = .ok (.ifCond .ne 7, 3) := by decide +kernel
theorem d_M_goes_21 : decode b_M_goes 21 = .ok (.iconst 3, 1) := by decide +kernel
theorem d_M_goes_22 : decode b_M_goes 22 = .ok (.goto 4, 3) := by decide +kernel
theorem d_M_goes_25 : decode b_M_goes 25 = .ok (.iconst 0, 1) := by decide +kernel
theorem d_M_goes_26 : decode b_M_goes 26 = .ok (.putfield 96, 3) := by decide +kernel
theorem d_M_goes_29 : decode b_M_goes 29 = .ok (.aload_n 0, 1) := by decide +kernel
theorem d_M_goes_30 : decode b_M_goes 30 = .ok (.getfield 96, 3) := by decide +kernel
theorem d_M_goes_33 : decode b_M_goes 33 = .ok (.ifCond .ne 7, 3) := by decide +kernel
theorem d_M_goes_36 : decode b_M_goes 36 = .ok (.iconst 1, 1) := by decide +kernel
theorem d_M_goes_37 : decode b_M_goes 37 = .ok (.goto 4, 3) := by decide +kernel
theorem d_M_goes_40 : decode b_M_goes 40 = .ok (.iconst 0, 1) := by decide +kernel
theorem d_M_goes_41 : decode b_M_goes 41 = .ok (.ireturn, 1) := by decide +kernel
def y_M_isReport : MethodName := ⟨cR6, "isReport", "(I)Z"⟩
abbrev b_M_isReport : ByteArray := prog_8_method_5_code
abbrev k_M_isReport : Cond := .code y_M_isReport b_M_isReport 2 (some .boolean)
theorem mc_M_isReport : MC y_M_isReport k_M_isReport b_M_isReport 2 (some .boolean) [] 1 := ⟨g_in (List.mem_of_getElem? (i := 898) (by decide +kernel)) (by decide +kernel), Or.inl ⟨rfl, rfl⟩, g_in (List.mem_of_getElem? (i := 62) (by decide +kernel)) (by decide +kernel), by decide, by decide +kernel⟩
theorem in_M_isReport : Cond.instanceMethod y_M_isReport ∈ g_ws := g_in (List.mem_of_getElem? (i := 897) (by decide +kernel)) (by decide +kernel)
theorem se_M_isReport : Cond.selects cR6 y_M_isReport y_M_isReport ∈ g_ws := g_in (List.mem_of_getElem? (i := 37) (by decide +kernel)) (by decide +kernel)
theorem d_M_isReport_0 : decode b_M_isReport 0 = .ok (.iload_n 1, 1) := by decide +kernel
theorem d_M_isReport_1 : decode b_M_isReport 1 = .ok (.iconst 0, 1) := by decide +kernel
theorem d_M_isReport_2 : decode b_M_isReport 2 = .ok (.aload_n 0, 1) := by decide +kernel
theorem d_M_isReport_3 : decode b_M_isReport 3 = .ok (.getfield 99, 3) := by decide +kernel
theorem d_M_isReport_6 : decode b_M_isReport 6 = .ok (.iconst 1, 1) := by decide +kernel
theorem d_M_isReport_7 : decode b_M_isReport 7 = .ok (.isub, 1) := by decide +kernel
theorem d_M_isReport_8 : decode b_M_isReport 8 = .ok (.invokestatic 102, 3) := by decide +kernel
theorem d_M_isReport_11 : decode b_M_isReport 11 = .ok (.ireturn, 1) := by decide +kernel
def y_M_isField : MethodName := ⟨cR6, "isField", "(I)Z"⟩
abbrev b_M_isField : ByteArray := prog_8_method_6_code
abbrev k_M_isField : Cond := .code y_M_isField b_M_isField 1 (some .boolean)
theorem mc_M_isField : MC y_M_isField k_M_isField b_M_isField 1 (some .boolean) [] 1 := ⟨g_in (List.mem_of_getElem? (i := 890) (by decide +kernel)) (by decide +kernel), Or.inl ⟨rfl, rfl⟩, g_in (List.mem_of_getElem? (i := 62) (by decide +kernel)) (by decide +kernel), by decide, by decide +kernel⟩
theorem st_M_isField : Cond.static y_M_isField ∈ g_ws := g_in (List.mem_of_getElem? (i := 889) (by decide +kernel)) (by decide +kernel)
theorem d_M_isField_0 : decode b_M_isField 0 = .ok (.iload_n 0, 1) := by decide +kernel
theorem d_M_isField_1 : decode b_M_isField 1 = .ok (.iconst 0, 1) := by decide +kernel
theorem d_M_isField_2 : decode b_M_isField 2 = .ok (.bipush 19, 2) := by decide +kernel
theorem d_M_isField_4 : decode b_M_isField 4 = .ok (.invokestatic 102, 3) := by decide +kernel
theorem d_M_isField_7 : decode b_M_isField 7 = .ok (.ireturn, 1) := by decide +kernel
def y_M_isPerson : MethodName := ⟨cR6, "isPerson", "(I)Z"⟩
abbrev b_M_isPerson : ByteArray := prog_8_method_7_code
abbrev k_M_isPerson : Cond := .code y_M_isPerson b_M_isPerson 1 (some .boolean)
theorem mc_M_isPerson : MC y_M_isPerson k_M_isPerson b_M_isPerson 1 (some .boolean) [] 1 := ⟨g_in (List.mem_of_getElem? (i := 991) (by decide +kernel)) (by decide +kernel), Or.inl ⟨rfl, rfl⟩, g_in (List.mem_of_getElem? (i := 62) (by decide +kernel)) (by decide +kernel), by decide, by decide +kernel⟩
theorem st_M_isPerson : Cond.static y_M_isPerson ∈ g_ws := g_in (List.mem_of_getElem? (i := 990) (by decide +kernel)) (by decide +kernel)
theorem d_M_isPerson_0 : decode b_M_isPerson 0 = .ok (.iload_n 0, 1) := by decide +kernel
theorem d_M_isPerson_1 : decode b_M_isPerson 1 = .ok (.iconst 0, 1) := by decide +kernel
theorem d_M_isPerson_2 : decode b_M_isPerson 2 = .ok (.bipush 19, 2) := by decide +kernel
theorem d_M_isPerson_4 : decode b_M_isPerson 4 = .ok (.invokestatic 102, 3) := by decide +kernel
theorem d_M_isPerson_7 : decode b_M_isPerson 7 = .ok (.ireturn, 1) := by decide +kernel
def y_M_makes : MethodName := ⟨cR6, "makes", "(III)I"⟩
abbrev b_M_makes : ByteArray := prog_8_method_8_code
abbrev k_M_makes : Cond := .code y_M_makes b_M_makes 4 (some .int)
theorem mc_M_makes : MC y_M_makes k_M_makes b_M_makes 4 (some .int) [] 3 := ⟨g_in (List.mem_of_getElem? (i := 883) (by decide +kernel)) (by decide +kernel), Or.inl ⟨rfl, rfl⟩, g_in (List.mem_of_getElem? (i := 62) (by decide +kernel)) (by decide +kernel), by decide, by decide +kernel⟩
theorem in_M_makes : Cond.instanceMethod y_M_makes ∈ g_ws := g_in (List.mem_of_getElem? (i := 882) (by decide +kernel)) (by decide +kernel)
theorem se_M_makes : Cond.selects cR6 y_M_makes y_M_makes ∈ g_ws := g_in (List.mem_of_getElem? (i := 36) (by decide +kernel)) (by decide +kernel)
theorem d_M_makes_0 : decode b_M_makes 0 = .ok (.aload_n 0, 1) := by decide +kernel
theorem d_M_makes_1 : decode b_M_makes 1 = .ok (.getfield 7, 3) := by decide +kernel
theorem d_M_makes_4 : decode b_M_makes 4 = .ok (.aload_n 0, 1) := by decide +kernel
theorem d_M_makes_5 : decode b_M_makes 5 = .ok (.getfield 99, 3) := by decide +kernel
theorem d_M_makes_8 : decode b_M_makes 8 = .ok (.iload_n 1, 1) := by decide +kernel
theorem d_M_makes_9 : decode b_M_makes 9 = .ok (.iastore, 1) := by decide +kernel
theorem d_M_makes_10 : decode b_M_makes 10 = .ok (.aload_n 0, 1) := by decide +kernel
theorem d_M_makes_11 : decode b_M_makes 11 = .ok (.getfield 13, 3) := by decide +kernel
theorem d_M_makes_14 : decode b_M_makes 14 = .ok (.aload_n 0, 1) := by decide +kernel
theorem d_M_makes_15 : decode b_M_makes 15 = .ok (.getfield 99, 3) := by decide +kernel
theorem d_M_makes_18 : decode b_M_makes 18 = .ok (.iload_n 2, 1) := by decide +kernel
theorem d_M_makes_19 : decode b_M_makes 19 = .ok (.iastore, 1) := by decide +kernel
theorem d_M_makes_20 : decode b_M_makes 20 = .ok (.aload_n 0, 1) := by decide +kernel
theorem d_M_makes_21 : decode b_M_makes 21 = .ok (.getfield 16, 3) := by decide +kernel
theorem d_M_makes_24 : decode b_M_makes 24 = .ok (.aload_n 0, 1) := by decide +kernel
theorem d_M_makes_25 : decode b_M_makes 25 = .ok (.getfield 99, 3) := by decide +kernel
theorem d_M_makes_28 : decode b_M_makes 28 = .ok (.aload_n 0, 1) := by decide +kernel
theorem d_M_makes_29 : decode b_M_makes 29 = .ok (.getfield 106, 3) := by decide +kernel
theorem d_M_makes_32 : decode b_M_makes 32 = .ok (.iastore, 1) := by decide +kernel
theorem d_M_makes_33 : decode b_M_makes 33 = .ok (.aload_n 0, 1) := by decide +kernel
theorem d_M_makes_34 : decode b_M_makes 34 = .ok (.getfield 22, 3) := by decide +kernel
theorem d_M_makes_37 : decode b_M_makes 37 = .ok (.aload_n 0, 1) := by decide +kernel
theorem d_M_makes_38 : decode b_M_makes 38 = .ok (.getfield 99, 3) := by decide +kernel
theorem d_M_makes_41 : decode b_M_makes 41 = .ok (.iload_n 3, 1) := by decide +kernel
theorem d_M_makes_42 : decode b_M_makes 42 = .ok (.iastore, 1) := by decide +kernel
theorem d_M_makes_43 : decode b_M_makes 43 = .ok (.aload_n 0, 1) := by decide +kernel
theorem d_M_makes_44 : decode b_M_makes 44 = .ok (.dup, 1) := by decide +kernel
theorem d_M_makes_45 : decode b_M_makes 45 = .ok (.getfield 99, 3) := by decide +kernel
theorem d_M_makes_48 : decode b_M_makes 48 = .ok (.iconst 1, 1) := by decide +kernel
theorem d_M_makes_49 : decode b_M_makes 49 = .ok (.iadd, 1) := by decide +kernel
theorem d_M_makes_50 : decode b_M_makes 50 = .ok (.putfield 99, 3) := by decide +kernel
theorem d_M_makes_53 : decode b_M_makes 53 = .ok (.aload_n 0, 1) := by decide +kernel
theorem d_M_makes_54 : decode b_M_makes 54 = .ok (.getfield 99, 3) := by decide +kernel
theorem d_M_makes_57 : decode b_M_makes 57 = .ok (.iconst 1, 1) := by decide +kernel
theorem d_M_makes_58 : decode b_M_makes 58 = .ok (.isub, 1) := by decide +kernel
theorem d_M_makes_59 : decode b_M_makes 59 = .ok (.ireturn, 1) := by decide +kernel
def y_M_report : MethodName := ⟨cR6, "report", "(II)I"⟩
abbrev b_M_report : ByteArray := prog_8_method_9_code
abbrev k_M_report : Cond := .code y_M_report b_M_report 3 (some .int)
theorem mc_M_report : MC y_M_report k_M_report b_M_report 3 (some .int) [] 2 := ⟨g_in (List.mem_of_getElem? (i := 872) (by decide +kernel)) (by decide +kernel), Or.inl ⟨rfl, rfl⟩, g_in (List.mem_of_getElem? (i := 62) (by decide +kernel)) (by decide +kernel), by decide, by decide +kernel⟩
theorem in_M_report : Cond.instanceMethod y_M_report ∈ g_ws := g_in (List.mem_of_getElem? (i := 870) (by decide +kernel)) (by decide +kernel)
theorem se_M_report : Cond.selects cR6 y_M_report y_M_report ∈ g_ws := g_in (List.mem_of_getElem? (i := 871) (by decide +kernel)) (by decide +kernel)
theorem d_M_report_0 : decode b_M_report 0 = .ok (.aload_n 0, 1) := by decide +kernel
theorem d_M_report_1 : decode b_M_report 1 = .ok (.iload_n 2, 1) := by decide +kernel
theorem d_M_report_2 : decode b_M_report 2 = .ok (.iconst 0, 1) := by decide +kernel
theorem d_M_report_3 : decode b_M_report 3 = .ok (.iconst 4, 1) := by decide +kernel
theorem d_M_report_4 : decode b_M_report 4 = .ok (.invokestatic 102, 3) := by decide +kernel
theorem d_M_report_7 : decode b_M_report 7 = .ok (.iload_n 1, 1) := by decide +kernel
theorem d_M_report_8 : decode b_M_report 8 = .ok (.iconst 0, 1) := by decide +kernel
theorem d_M_report_9 : decode b_M_report 9 = .ok (.sipush 9999, 3) := by decide +kernel
theorem d_M_report_12 : decode b_M_report 12 = .ok (.invokestatic 102, 3) := by decide +kernel
theorem d_M_report_15 : decode b_M_report 15 = .ok (.aload_n 0, 1) := by decide +kernel
theorem d_M_report_16 : decode b_M_report 16 = .ok (.getfield 99, 3) := by decide +kernel
theorem d_M_report_19 : decode b_M_report 19 = .ok (.bipush 30, 2) := by decide +kernel
theorem d_M_report_21 : decode b_M_report 21 = .ok (.if_icmp .ge 7, 3) := by decide +kernel
theorem d_M_report_24 : decode b_M_report 24 = .ok (.iconst 1, 1) := by decide +kernel
theorem d_M_report_25 : decode b_M_report 25 = .ok (.goto 4, 3) := by decide +kernel
theorem d_M_report_28 : decode b_M_report 28 = .ok (.iconst 0, 1) := by decide +kernel
theorem d_M_report_29 : decode b_M_report 29 = .ok (.invokevirtual 109, 3) := by decide +kernel
theorem d_M_report_32 : decode b_M_report 32 = .ok (.ifCond .ne 5, 3) := by decide +kernel
theorem d_M_report_35 : decode b_M_report 35 = .ok (.iconst 0, 1) := by decide +kernel
theorem d_M_report_36 : decode b_M_report 36 = .ok (.ireturn, 1) := by decide +kernel
theorem d_M_report_37 : decode b_M_report 37 = .ok (.aload_n 0, 1) := by decide +kernel
theorem d_M_report_38 : decode b_M_report 38 = .ok (.iload_n 1, 1) := by decide +kernel
theorem d_M_report_39 : decode b_M_report 39 = .ok (.iload_n 2, 1) := by decide +kernel
theorem d_M_report_40 : decode b_M_report 40 = .ok (.iconst (-1), 1) := by decide +kernel
theorem d_M_report_41 : decode b_M_report 41 = .ok (.invokevirtual 113, 3) := by decide +kernel
theorem d_M_report_44 : decode b_M_report 44 = .ok (.ireturn, 1) := by decide +kernel
def y_M_ask : MethodName := ⟨cR6, "ask", "(IIZ)V"⟩
abbrev b_M_ask : ByteArray := prog_8_method_10_code
abbrev k_M_ask : Cond := .code y_M_ask b_M_ask 4 none
theorem mc_M_ask : MC y_M_ask k_M_ask b_M_ask 4 none [] 3 := ⟨g_in (List.mem_of_getElem? (i := 887) (by decide +kernel)) (by decide +kernel), Or.inl ⟨rfl, rfl⟩, g_in (List.mem_of_getElem? (i := 62) (by decide +kernel)) (by decide +kernel), by decide, by decide +kernel⟩
theorem in_M_ask : Cond.instanceMethod y_M_ask ∈ g_ws := g_in (List.mem_of_getElem? (i := 885) (by decide +kernel)) (by decide +kernel)
theorem se_M_ask : Cond.selects cR6 y_M_ask y_M_ask ∈ g_ws := g_in (List.mem_of_getElem? (i := 886) (by decide +kernel)) (by decide +kernel)
theorem d_M_ask_0 : decode b_M_ask 0 = .ok (.aload_n 0, 1) := by decide +kernel
theorem d_M_ask_1 : decode b_M_ask 1 = .ok (.iload_n 1, 1) := by decide +kernel
theorem d_M_ask_2 : decode b_M_ask 2 = .ok (.iconst 0, 1) := by decide +kernel
theorem d_M_ask_3 : decode b_M_ask 3 = .ok (.iconst 4, 1) := by decide +kernel
theorem d_M_ask_4 : decode b_M_ask 4 = .ok (.invokestatic 102, 3) := by decide +kernel
theorem d_M_ask_7 : decode b_M_ask 7 = .ok (.ifCond .eq 14, 3) := by decide +kernel
theorem d_M_ask_10 : decode b_M_ask 10 = .ok (.iload_n 2, 1) := by decide +kernel
theorem d_M_ask_11 : decode b_M_ask 11 = .ok (.invokestatic 117, 3) := by decide +kernel
theorem d_M_ask_14 : decode b_M_ask 14 = .ok (.ifCond .eq 7, 3) := by decide +kernel
theorem d_M_ask_17 : decode b_M_ask 17 = .ok (.iconst 1, 1) := by decide +kernel
theorem d_M_ask_18 : decode b_M_ask 18 = .ok (.goto 4, 3) := by decide +kernel
theorem d_M_ask_21 : decode b_M_ask 21 = .ok (.iconst 0, 1) := by decide +kernel
theorem d_M_ask_22 : decode b_M_ask 22 = .ok (.iconst 1, 1) := by decide +kernel
theorem d_M_ask_23 : decode b_M_ask 23 = .ok (.iconst 1, 1) := by decide +kernel
theorem d_M_ask_24 : decode b_M_ask 24 = .ok (.invokevirtual 109, 3) := by decide +kernel
theorem d_M_ask_27 : decode b_M_ask 27 = .ok (.ifCond .eq 15, 3) := by decide +kernel
theorem d_M_ask_30 : decode b_M_ask 30 = .ok (.aload_n 0, 1) := by decide +kernel
theorem d_M_ask_31 : decode b_M_ask 31 = .ok (.getfield 44, 3) := by decide +kernel
theorem d_M_ask_34 : decode b_M_ask 34 = .ok (.bipush 20, 2) := by decide +kernel
theorem d_M_ask_36 : decode b_M_ask 36 = .ok (.iload_n 1, 1) := by decide +kernel
theorem d_M_ask_37 : decode b_M_ask 37 = .ok (.imul, 1) := by decide +kernel
theorem d_M_ask_38 : decode b_M_ask 38 = .ok (.iload_n 2, 1) := by decide +kernel
theorem d_M_ask_39 : decode b_M_ask 39 = .ok (.iadd, 1) := by decide +kernel
theorem d_M_ask_40 : decode b_M_ask 40 = .ok (.iload_n 3, 1) := by decide +kernel
theorem d_M_ask_41 : decode b_M_ask 41 = .ok (.bastore, 1) := by decide +kernel
theorem d_M_ask_42 : decode b_M_ask 42 = .ok (.return_, 1) := by decide +kernel
def y_M_field : MethodName := ⟨cR6, "field", "(III)V"⟩
abbrev b_M_field : ByteArray := prog_8_method_11_code
abbrev k_M_field : Cond := .code y_M_field b_M_field 5 none
theorem mc_M_field : MC y_M_field k_M_field b_M_field 5 none [] 3 := ⟨g_in (List.mem_of_getElem? (i := 894) (by decide +kernel)) (by decide +kernel), Or.inl ⟨rfl, rfl⟩, g_in (List.mem_of_getElem? (i := 62) (by decide +kernel)) (by decide +kernel), by decide, by decide +kernel⟩
theorem in_M_field : Cond.instanceMethod y_M_field ∈ g_ws := g_in (List.mem_of_getElem? (i := 892) (by decide +kernel)) (by decide +kernel)
theorem se_M_field : Cond.selects cR6 y_M_field y_M_field ∈ g_ws := g_in (List.mem_of_getElem? (i := 893) (by decide +kernel)) (by decide +kernel)
theorem d_M_field_0 : decode b_M_field 0 = .ok (.aload_n 0, 1) := by decide +kernel
theorem d_M_field_1 : decode b_M_field 1 = .ok (.iload_n 1, 1) := by decide +kernel
theorem d_M_field_2 : decode b_M_field 2 = .ok (.invokevirtual 121, 3) := by decide +kernel
theorem d_M_field_5 : decode b_M_field 5 = .ok (.ifCond .eq 14, 3) := by decide +kernel
theorem d_M_field_8 : decode b_M_field 8 = .ok (.iload_n 2, 1) := by decide +kernel
theorem d_M_field_9 : decode b_M_field 9 = .ok (.invokestatic 117, 3) := by decide +kernel
theorem d_M_field_12 : decode b_M_field 12 = .ok (.ifCond .eq 7, 3) := by decide +kernel
theorem d_M_field_15 : decode b_M_field 15 = .ok (.iconst 1, 1) := by decide +kernel
theorem d_M_field_16 : decode b_M_field 16 = .ok (.goto 4, 3) := by decide +kernel
theorem d_M_field_19 : decode b_M_field 19 = .ok (.iconst 0, 1) := by decide +kernel
theorem d_M_field_20 : decode b_M_field 20 = .ok (.istore 4, 2) := by decide +kernel
theorem d_M_field_22 : decode b_M_field 22 = .ok (.aload_n 0, 1) := by decide +kernel
theorem d_M_field_23 : decode b_M_field 23 = .ok (.iload 4, 2) := by decide +kernel
theorem d_M_field_25 : decode b_M_field 25 = .ok (.iload_n 3, 1) := by decide +kernel
theorem d_M_field_26 : decode b_M_field 26 = .ok (.ldc 124, 2) := by decide +kernel
theorem d_M_field_28 : decode b_M_field 28 = .ok (.ldc 125, 2) := by decide +kernel
theorem d_M_field_30 : decode b_M_field 30 = .ok (.invokestatic 102, 3) := by decide +kernel
theorem d_M_field_33 : decode b_M_field 33 = .ok (.iload 4, 2) := by decide +kernel
theorem d_M_field_35 : decode b_M_field 35 = .ok (.ifCond .eq 30, 3) := by decide +kernel
theorem d_M_field_38 : decode b_M_field 38 = .ok (.aload_n 0, 1) := by decide +kernel
theorem d_M_field_39 : decode b_M_field 39 = .ok (.getfield 25, 3) := by decide +kernel
theorem d_M_field_42 : decode b_M_field 42 = .ok (.iload_n 1, 1) := by decide +kernel
theorem d_M_field_43 : decode b_M_field 43 = .ok (.iaload, 1) := by decide +kernel
theorem d_M_field_44 : decode b_M_field 44 = .ok (.ifCond .eq 17, 3) := by decide +kernel
theorem d_M_field_47 : decode b_M_field 47 = .ok (.aload_n 0, 1) := by decide +kernel
theorem d_M_field_48 : decode b_M_field 48 = .ok (.getfield 38, 3) := by decide +kernel
theorem d_M_field_51 : decode b_M_field 51 = .ok (.bipush 20, 2) := by decide +kernel
theorem d_M_field_53 : decode b_M_field 53 = .ok (.iload_n 1, 1) := by decide +kernel
theorem d_M_field_54 : decode b_M_field 54 = .ok (.imul, 1) := by decide +kernel
theorem d_M_field_55 : decode b_M_field 55 = .ok (.iload_n 2, 1) := by decide +kernel
theorem d_M_field_56 : decode b_M_field 56 = .ok (.iadd, 1) := by decide +kernel
theorem d_M_field_57 : decode b_M_field 57 = .ok (.baload, 1) := by decide +kernel
theorem d_M_field_58 : decode b_M_field 58 = .ok (.ifCond .eq 7, 3) := by decide +kernel
theorem d_M_field_61 : decode b_M_field 61 = .ok (.iconst 1, 1) := by decide +kernel
theorem d_M_field_62 : decode b_M_field 62 = .ok (.goto 4, 3) := by decide +kernel
theorem d_M_field_65 : decode b_M_field 65 = .ok (.iconst 0, 1) := by decide +kernel
theorem d_M_field_66 : decode b_M_field 66 = .ok (.invokevirtual 109, 3) := by decide +kernel
theorem d_M_field_69 : decode b_M_field 69 = .ok (.ifCond .ne 4, 3) := by decide +kernel
theorem d_M_field_72 : decode b_M_field 72 = .ok (.return_, 1) := by decide +kernel
theorem d_M_field_73 : decode b_M_field 73 = .ok (.aload_n 0, 1) := by decide +kernel
theorem d_M_field_74 : decode b_M_field 74 = .ok (.getfield 31, 3) := by decide +kernel
theorem d_M_field_77 : decode b_M_field 77 = .ok (.bipush 20, 2) := by decide +kernel
theorem d_M_field_79 : decode b_M_field 79 = .ok (.iload_n 1, 1) := by decide +kernel
theorem d_M_field_80 : decode b_M_field 80 = .ok (.imul, 1) := by decide +kernel
theorem d_M_field_81 : decode b_M_field 81 = .ok (.iload_n 2, 1) := by decide +kernel
theorem d_M_field_82 : decode b_M_field 82 = .ok (.iadd, 1) := by decide +kernel
theorem d_M_field_83 : decode b_M_field 83 = .ok (.iconst 1, 1) := by decide +kernel
theorem d_M_field_84 : decode b_M_field 84 = .ok (.bastore, 1) := by decide +kernel
theorem d_M_field_85 : decode b_M_field 85 = .ok (.aload_n 0, 1) := by decide +kernel
theorem d_M_field_86 : decode b_M_field 86 = .ok (.getfield 35, 3) := by decide +kernel
theorem d_M_field_89 : decode b_M_field 89 = .ok (.bipush 20, 2) := by decide +kernel
theorem d_M_field_91 : decode b_M_field 91 = .ok (.iload_n 1, 1) := by decide +kernel
theorem d_M_field_92 : decode b_M_field 92 = .ok (.imul, 1) := by decide +kernel
theorem d_M_field_93 : decode b_M_field 93 = .ok (.iload_n 2, 1) := by decide +kernel
theorem d_M_field_94 : decode b_M_field 94 = .ok (.iadd, 1) := by decide +kernel
theorem d_M_field_95 : decode b_M_field 95 = .ok (.iconst 0, 1) := by decide +kernel
theorem d_M_field_96 : decode b_M_field 96 = .ok (.bastore, 1) := by decide +kernel
theorem d_M_field_97 : decode b_M_field 97 = .ok (.aload_n 0, 1) := by decide +kernel
theorem d_M_field_98 : decode b_M_field 98 = .ok (.getfield 38, 3) := by decide +kernel
theorem d_M_field_101 : decode b_M_field 101 = .ok (.bipush 20, 2) := by decide +kernel
theorem d_M_field_103 : decode b_M_field 103 = .ok (.iload_n 1, 1) := by decide +kernel
theorem d_M_field_104 : decode b_M_field 104 = .ok (.imul, 1) := by decide +kernel
theorem d_M_field_105 : decode b_M_field 105 = .ok (.iload_n 2, 1) := by decide +kernel
theorem d_M_field_106 : decode b_M_field 106 = .ok (.iadd, 1) := by decide +kernel
theorem d_M_field_107 : decode b_M_field 107 = .ok (.iconst 0, 1) := by decide +kernel
theorem d_M_field_108 : decode b_M_field 108 = .ok (.bastore, 1) := by decide +kernel
theorem d_M_field_109 : decode b_M_field 109 = .ok (.aload_n 0, 1) := by decide +kernel
theorem d_M_field_110 : decode b_M_field 110 = .ok (.getfield 41, 3) := by decide +kernel
theorem d_M_field_113 : decode b_M_field 113 = .ok (.bipush 20, 2) := by decide +kernel
theorem d_M_field_115 : decode b_M_field 115 = .ok (.iload_n 1, 1) := by decide +kernel
theorem d_M_field_116 : decode b_M_field 116 = .ok (.imul, 1) := by decide +kernel
theorem d_M_field_117 : decode b_M_field 117 = .ok (.iload_n 2, 1) := by decide +kernel
theorem d_M_field_118 : decode b_M_field 118 = .ok (.iadd, 1) := by decide +kernel
theorem d_M_field_119 : decode b_M_field 119 = .ok (.iload_n 3, 1) := by decide +kernel
theorem d_M_field_120 : decode b_M_field 120 = .ok (.iastore, 1) := by decide +kernel
theorem d_M_field_121 : decode b_M_field 121 = .ok (.return_, 1) := by decide +kernel
def y_M_act : MethodName := ⟨cR6, "act", "(III)Z"⟩
abbrev b_M_act : ByteArray := prog_8_method_12_code
abbrev k_M_act : Cond := .code y_M_act b_M_act 6 (some .boolean)
theorem mc_M_act : MC y_M_act k_M_act b_M_act 6 (some .boolean) [] 3 := ⟨g_in (List.mem_of_getElem? (i := 904) (by decide +kernel)) (by decide +kernel), Or.inl ⟨rfl, rfl⟩, g_in (List.mem_of_getElem? (i := 62) (by decide +kernel)) (by decide +kernel), by decide, by decide +kernel⟩
theorem in_M_act : Cond.instanceMethod y_M_act ∈ g_ws := g_in (List.mem_of_getElem? (i := 902) (by decide +kernel)) (by decide +kernel)
theorem se_M_act : Cond.selects cR6 y_M_act y_M_act ∈ g_ws := g_in (List.mem_of_getElem? (i := 903) (by decide +kernel)) (by decide +kernel)
theorem d_M_act_0 : decode b_M_act 0 = .ok (.aload_n 0, 1) := by decide +kernel
theorem d_M_act_1 : decode b_M_act 1 = .ok (.iload_n 1, 1) := by decide +kernel
theorem d_M_act_2 : decode b_M_act 2 = .ok (.invokevirtual 121, 3) := by decide +kernel
theorem d_M_act_5 : decode b_M_act 5 = .ok (.ifCond .eq 17, 3) := by decide +kernel
theorem d_M_act_8 : decode b_M_act 8 = .ok (.iload_n 2, 1) := by decide +kernel
theorem d_M_act_9 : decode b_M_act 9 = .ok (.iconst 0, 1) := by decide +kernel
theorem d_M_act_10 : decode b_M_act 10 = .ok (.bipush 9, 2) := by decide +kernel
theorem d_M_act_12 : decode b_M_act 12 = .ok (.invokestatic 102, 3) := by decide +kernel
theorem d_M_act_15 : decode b_M_act 15 = .ok (.ifCond .eq 7, 3) := by decide +kernel
theorem d_M_act_18 : decode b_M_act 18 = .ok (.iconst 1, 1) := by decide +kernel
theorem d_M_act_19 : decode b_M_act 19 = .ok (.goto 4, 3) := by decide +kernel
theorem d_M_act_22 : decode b_M_act 22 = .ok (.iconst 0, 1) := by decide +kernel
theorem d_M_act_23 : decode b_M_act 23 = .ok (.istore 4, 2) := by decide +kernel
theorem d_M_act_25 : decode b_M_act 25 = .ok (.aload_n 0, 1) := by decide +kernel
theorem d_M_act_26 : decode b_M_act 26 = .ok (.iload 4, 2) := by decide +kernel
theorem d_M_act_28 : decode b_M_act 28 = .ok (.iload_n 3, 1) := by decide +kernel
theorem d_M_act_29 : decode b_M_act 29 = .ok (.iconst 0, 1) := by decide +kernel
theorem d_M_act_30 : decode b_M_act 30 = .ok (.aload_n 0, 1) := by decide +kernel
theorem d_M_act_31 : decode b_M_act 31 = .ok (.getfield 106, 3) := by decide +kernel
theorem d_M_act_34 : decode b_M_act 34 = .ok (.invokestatic 102, 3) := by decide +kernel
theorem d_M_act_37 : decode b_M_act 37 = .ok (.iload 4, 2) := by decide +kernel
theorem d_M_act_39 : decode b_M_act 39 = .ok (.ifCond .eq 16, 3) := by decide +kernel
theorem d_M_act_42 : decode b_M_act 42 = .ok (.aload_n 0, 1) := by decide +kernel
theorem d_M_act_43 : decode b_M_act 43 = .ok (.getfield 25, 3) := by decide +kernel
theorem d_M_act_46 : decode b_M_act 46 = .ok (.iload_n 1, 1) := by decide +kernel
theorem d_M_act_47 : decode b_M_act 47 = .ok (.iaload, 1) := by decide +kernel
theorem d_M_act_48 : decode b_M_act 48 = .ok (.ifCond .ne 7, 3) := by decide +kernel
theorem d_M_act_51 : decode b_M_act 51 = .ok (.iconst 1, 1) := by decide +kernel
theorem d_M_act_52 : decode b_M_act 52 = .ok (.goto 4, 3) := by decide +kernel
theorem d_M_act_55 : decode b_M_act 55 = .ok (.iconst 0, 1) := by decide +kernel
theorem d_M_act_56 : decode b_M_act 56 = .ok (.invokevirtual 109, 3) := by decide +kernel
theorem d_M_act_59 : decode b_M_act 59 = .ok (.ifCond .ne 5, 3) := by decide +kernel
theorem d_M_act_62 : decode b_M_act 62 = .ok (.iconst 0, 1) := by decide +kernel
theorem d_M_act_63 : decode b_M_act 63 = .ok (.ireturn, 1) := by decide +kernel
theorem d_M_act_64 : decode b_M_act 64 = .ok (.bipush 20, 2) := by decide +kernel
theorem d_M_act_66 : decode b_M_act 66 = .ok (.iload_n 1, 1) := by decide +kernel
theorem d_M_act_67 : decode b_M_act 67 = .ok (.imul, 1) := by decide +kernel
theorem d_M_act_68 : decode b_M_act 68 = .ok (.iload_n 2, 1) := by decide +kernel
theorem d_M_act_69 : decode b_M_act 69 = .ok (.iadd, 1) := by decide +kernel
theorem d_M_act_70 : decode b_M_act 70 = .ok (.istore 5, 2) := by decide +kernel
theorem d_M_act_72 : decode b_M_act 72 = .ok (.aload_n 0, 1) := by decide +kernel
theorem d_M_act_73 : decode b_M_act 73 = .ok (.getfield 31, 3) := by decide +kernel
theorem d_M_act_76 : decode b_M_act 76 = .ok (.iload 5, 2) := by decide +kernel
theorem d_M_act_78 : decode b_M_act 78 = .ok (.baload, 1) := by decide +kernel
theorem d_M_act_79 : decode b_M_act 79 = .ok (.ifCond .eq 26, 3) := by decide +kernel
theorem d_M_act_82 : decode b_M_act 82 = .ok (.aload_n 0, 1) := by decide +kernel
theorem d_M_act_83 : decode b_M_act 83 = .ok (.getfield 35, 3) := by decide +kernel
theorem d_M_act_86 : decode b_M_act 86 = .ok (.iload 5, 2) := by decide +kernel
theorem d_M_act_88 : decode b_M_act 88 = .ok (.baload, 1) := by decide +kernel
theorem d_M_act_89 : decode b_M_act 89 = .ok (.ifCond .eq 14, 3) := by decide +kernel
theorem d_M_act_92 : decode b_M_act 92 = .ok (.aload_n 0, 1) := by decide +kernel
theorem d_M_act_93 : decode b_M_act 93 = .ok (.getfield 41, 3) := by decide +kernel
theorem d_M_act_96 : decode b_M_act 96 = .ok (.iload 5, 2) := by decide +kernel
theorem d_M_act_98 : decode b_M_act 98 = .ok (.iaload, 1) := by decide +kernel
theorem d_M_act_99 : decode b_M_act 99 = .ok (.iload_n 3, 1) := by decide +kernel
theorem d_M_act_100 : decode b_M_act 100 = .ok (.if_icmp .gt 5, 3) := by decide +kernel
theorem d_M_act_103 : decode b_M_act 103 = .ok (.iconst 0, 1) := by decide +kernel
theorem d_M_act_104 : decode b_M_act 104 = .ok (.ireturn, 1) := by decide +kernel
theorem d_M_act_105 : decode b_M_act 105 = .ok (.aload_n 0, 1) := by decide +kernel
theorem d_M_act_106 : decode b_M_act 106 = .ok (.getfield 31, 3) := by decide +kernel
theorem d_M_act_109 : decode b_M_act 109 = .ok (.iload 5, 2) := by decide +kernel
theorem d_M_act_111 : decode b_M_act 111 = .ok (.iconst 1, 1) := by decide +kernel
theorem d_M_act_112 : decode b_M_act 112 = .ok (.bastore, 1) := by decide +kernel
theorem d_M_act_113 : decode b_M_act 113 = .ok (.aload_n 0, 1) := by decide +kernel
theorem d_M_act_114 : decode b_M_act 114 = .ok (.getfield 35, 3) := by decide +kernel
theorem d_M_act_117 : decode b_M_act 117 = .ok (.iload 5, 2) := by decide +kernel
theorem d_M_act_119 : decode b_M_act 119 = .ok (.iconst 1, 1) := by decide +kernel
theorem d_M_act_120 : decode b_M_act 120 = .ok (.bastore, 1) := by decide +kernel
theorem d_M_act_121 : decode b_M_act 121 = .ok (.aload_n 0, 1) := by decide +kernel
theorem d_M_act_122 : decode b_M_act 122 = .ok (.getfield 41, 3) := by decide +kernel
theorem d_M_act_125 : decode b_M_act 125 = .ok (.iload 5, 2) := by decide +kernel
theorem d_M_act_127 : decode b_M_act 127 = .ok (.iload_n 3, 1) := by decide +kernel
theorem d_M_act_128 : decode b_M_act 128 = .ok (.iastore, 1) := by decide +kernel
theorem d_M_act_129 : decode b_M_act 129 = .ok (.iconst 1, 1) := by decide +kernel
theorem d_M_act_130 : decode b_M_act 130 = .ok (.ireturn, 1) := by decide +kernel
def y_M_inside : MethodName := ⟨cR6, "inside", "(II)V"⟩
abbrev b_M_inside : ByteArray := prog_8_method_13_code
abbrev k_M_inside : Cond := .code y_M_inside b_M_inside 3 none
theorem mc_M_inside : MC y_M_inside k_M_inside b_M_inside 3 none [] 2 := ⟨g_in (List.mem_of_getElem? (i := 908) (by decide +kernel)) (by decide +kernel), Or.inl ⟨rfl, rfl⟩, g_in (List.mem_of_getElem? (i := 62) (by decide +kernel)) (by decide +kernel), by decide, by decide +kernel⟩
theorem in_M_inside : Cond.instanceMethod y_M_inside ∈ g_ws := g_in (List.mem_of_getElem? (i := 906) (by decide +kernel)) (by decide +kernel)
theorem se_M_inside : Cond.selects cR6 y_M_inside y_M_inside ∈ g_ws := g_in (List.mem_of_getElem? (i := 907) (by decide +kernel)) (by decide +kernel)
theorem d_M_inside_0 : decode b_M_inside 0 = .ok (.aload_n 0, 1) := by decide +kernel
theorem d_M_inside_1 : decode b_M_inside 1 = .ok (.aload_n 0, 1) := by decide +kernel
theorem d_M_inside_2 : decode b_M_inside 2 = .ok (.iload_n 1, 1) := by decide +kernel
theorem d_M_inside_3 : decode b_M_inside 3 = .ok (.invokevirtual 121, 3) := by decide +kernel
theorem d_M_inside_6 : decode b_M_inside 6 = .ok (.iload_n 2, 1) := by decide +kernel
theorem d_M_inside_7 : decode b_M_inside 7 = .ok (.iconst 0, 1) := by decide +kernel
theorem d_M_inside_8 : decode b_M_inside 8 = .ok (.bipush 99, 2) := by decide +kernel
theorem d_M_inside_10 : decode b_M_inside 10 = .ok (.invokestatic 102, 3) := by decide +kernel
theorem d_M_inside_13 : decode b_M_inside 13 = .ok (.aload_n 0, 1) := by decide +kernel
theorem d_M_inside_14 : decode b_M_inside 14 = .ok (.iload_n 1, 1) := by decide +kernel
theorem d_M_inside_15 : decode b_M_inside 15 = .ok (.invokevirtual 121, 3) := by decide +kernel
theorem d_M_inside_18 : decode b_M_inside 18 = .ok (.ifCond .eq 16, 3) := by decide +kernel
theorem d_M_inside_21 : decode b_M_inside 21 = .ok (.aload_n 0, 1) := by decide +kernel
theorem d_M_inside_22 : decode b_M_inside 22 = .ok (.getfield 25, 3) := by decide +kernel
theorem d_M_inside_25 : decode b_M_inside 25 = .ok (.iload_n 1, 1) := by decide +kernel
theorem d_M_inside_26 : decode b_M_inside 26 = .ok (.iaload, 1) := by decide +kernel
theorem d_M_inside_27 : decode b_M_inside 27 = .ok (.ifCond .ne 7, 3) := by decide +kernel
theorem d_M_inside_30 : decode b_M_inside 30 = .ok (.iconst 1, 1) := by decide +kernel
theorem d_M_inside_31 : decode b_M_inside 31 = .ok (.goto 4, 3) := by decide +kernel
theorem d_M_inside_34 : decode b_M_inside 34 = .ok (.iconst 0, 1) := by decide +kernel
theorem d_M_inside_35 : decode b_M_inside 35 = .ok (.invokevirtual 109, 3) := by decide +kernel
theorem d_M_inside_38 : decode b_M_inside 38 = .ok (.ifCond .eq 10, 3) := by decide +kernel
theorem d_M_inside_41 : decode b_M_inside 41 = .ok (.aload_n 0, 1) := by decide +kernel
theorem d_M_inside_42 : decode b_M_inside 42 = .ok (.getfield 19, 3) := by decide +kernel
theorem d_M_inside_45 : decode b_M_inside 45 = .ok (.iload_n 1, 1) := by decide +kernel
theorem d_M_inside_46 : decode b_M_inside 46 = .ok (.iload_n 2, 1) := by decide +kernel
theorem d_M_inside_47 : decode b_M_inside 47 = .ok (.iastore, 1) := by decide +kernel
theorem d_M_inside_48 : decode b_M_inside 48 = .ok (.return_, 1) := by decide +kernel
def y_M_sign : MethodName := ⟨cR6, "sign", "(JI)I"⟩
abbrev b_M_sign : ByteArray := prog_8_method_14_code
abbrev k_M_sign : Cond := .code y_M_sign b_M_sign 5 (some .int)
theorem mc_M_sign : MC y_M_sign k_M_sign b_M_sign 5 (some .int) [] 2 := ⟨g_in (List.mem_of_getElem? (i := 912) (by decide +kernel)) (by decide +kernel), Or.inl ⟨rfl, rfl⟩, g_in (List.mem_of_getElem? (i := 62) (by decide +kernel)) (by decide +kernel), by decide, by decide +kernel⟩
theorem in_M_sign : Cond.instanceMethod y_M_sign ∈ g_ws := g_in (List.mem_of_getElem? (i := 910) (by decide +kernel)) (by decide +kernel)
theorem se_M_sign : Cond.selects cR6 y_M_sign y_M_sign ∈ g_ws := g_in (List.mem_of_getElem? (i := 911) (by decide +kernel)) (by decide +kernel)
theorem d_M_sign_0 : decode b_M_sign 0 = .ok (.aload_n 0, 1) := by decide +kernel
theorem d_M_sign_1 : decode b_M_sign 1 = .ok (.iload_n 3, 1) := by decide +kernel
theorem d_M_sign_2 : decode b_M_sign 2 = .ok (.iconst 1, 1) := by decide +kernel
theorem d_M_sign_3 : decode b_M_sign 3 = .ok (.bipush 8, 2) := by decide +kernel
theorem d_M_sign_5 : decode b_M_sign 5 = .ok (.invokestatic 102, 3) := by decide +kernel
theorem d_M_sign_8 : decode b_M_sign 8 = .ok (.aload_n 0, 1) := by decide +kernel
theorem d_M_sign_9 : decode b_M_sign 9 = .ok (.getfield 126, 3) := by decide +kernel
theorem d_M_sign_12 : decode b_M_sign 12 = .ok (.iload_n 3, 1) := by decide +kernel
theorem d_M_sign_13 : decode b_M_sign 13 = .ok (.iadd, 1) := by decide +kernel
theorem d_M_sign_14 : decode b_M_sign 14 = .ok (.sipush 300, 3) := by decide +kernel
theorem d_M_sign_17 : decode b_M_sign 17 = .ok (.if_icmp .gt 7, 3) := by decide +kernel
theorem d_M_sign_20 : decode b_M_sign 20 = .ok (.iconst 1, 1) := by decide +kernel
theorem d_M_sign_21 : decode b_M_sign 21 = .ok (.goto 4, 3) := by decide +kernel
theorem d_M_sign_24 : decode b_M_sign 24 = .ok (.iconst 0, 1) := by decide +kernel
theorem d_M_sign_25 : decode b_M_sign 25 = .ok (.iconst 1, 1) := by decide +kernel
theorem d_M_sign_26 : decode b_M_sign 26 = .ok (.invokevirtual 109, 3) := by decide +kernel
theorem d_M_sign_29 : decode b_M_sign 29 = .ok (.ifCond .ne 5, 3) := by decide +kernel
theorem d_M_sign_32 : decode b_M_sign 32 = .ok (.iconst 0, 1) := by decide +kernel
theorem d_M_sign_33 : decode b_M_sign 33 = .ok (.ireturn, 1) := by decide +kernel
theorem d_M_sign_34 : decode b_M_sign 34 = .ok (.iload_n 3, 1) := by decide +kernel
theorem d_M_sign_35 : decode b_M_sign 35 = .ok (.iconst 1, 1) := by decide +kernel
theorem d_M_sign_36 : decode b_M_sign 36 = .ok (.isub, 1) := by decide +kernel
theorem d_M_sign_37 : decode b_M_sign 37 = .ok (.istore 4, 2) := by decide +kernel
theorem d_M_sign_39 : decode b_M_sign 39 = .ok (.iload 4, 2) := by decide +kernel
theorem d_M_sign_41 : decode b_M_sign 41 = .ok (.ifCond .lt 40, 3) := by decide +kernel
theorem d_M_sign_44 : decode b_M_sign 44 = .ok (.aload_n 0, 1) := by decide +kernel
theorem d_M_sign_45 : decode b_M_sign 45 = .ok (.getfield 50, 3) := by decide +kernel
theorem d_M_sign_48 : decode b_M_sign 48 = .ok (.aload_n 0, 1) := by decide +kernel
theorem d_M_sign_49 : decode b_M_sign 49 = .ok (.getfield 126, 3) := by decide +kernel
theorem d_M_sign_52 : decode b_M_sign 52 = .ok (.lload_n 1, 1) := by decide +kernel
theorem d_M_sign_53 : decode b_M_sign 53 = .ok (.bipush 8, 2) := by decide +kernel
theorem d_M_sign_55 : decode b_M_sign 55 = .ok (.iload 4, 2) := by decide +kernel
theorem d_M_sign_57 : decode b_M_sign 57 = .ok (.imul, 1) := by decide +kernel
theorem d_M_sign_58 : decode b_M_sign 58 = .ok (.lshr, 1) := by decide +kernel
theorem d_M_sign_59 : decode b_M_sign 59 = .ok (.l2i, 1) := by decide +kernel
theorem d_M_sign_60 : decode b_M_sign 60 = .ok (.sipush 255, 3) := by decide +kernel
theorem d_M_sign_63 : decode b_M_sign 63 = .ok (.iand, 1) := by decide +kernel
theorem d_M_sign_64 : decode b_M_sign 64 = .ok (.iastore, 1) := by decide +kernel
theorem d_M_sign_65 : decode b_M_sign 65 = .ok (.aload_n 0, 1) := by decide +kernel
theorem d_M_sign_66 : decode b_M_sign 66 = .ok (.dup, 1) := by decide +kernel
theorem d_M_sign_67 : decode b_M_sign 67 = .ok (.getfield 126, 3) := by decide +kernel
theorem d_M_sign_70 : decode b_M_sign 70 = .ok (.iconst 1, 1) := by decide +kernel
theorem d_M_sign_71 : decode b_M_sign 71 = .ok (.iadd, 1) := by decide +kernel
theorem d_M_sign_72 : decode b_M_sign 72 = .ok (.putfield 126, 3) := by decide +kernel
theorem d_M_sign_75 : decode b_M_sign 75 = .ok (.iinc 4 (-1), 3) := by decide +kernel
theorem d_M_sign_78 : decode b_M_sign 78 = .ok (.goto (-39), 3) := by decide +kernel
theorem d_M_sign_81 : decode b_M_sign 81 = .ok (.aload_n 0, 1) := by decide +kernel
theorem d_M_sign_82 : decode b_M_sign 82 = .ok (.getfield 126, 3) := by decide +kernel
theorem d_M_sign_85 : decode b_M_sign 85 = .ok (.ireturn, 1) := by decide +kernel
def y_M_here : MethodName := ⟨cR6, "here", "()I"⟩
abbrev b_M_here : ByteArray := prog_8_method_15_code
abbrev k_M_here : Cond := .code y_M_here b_M_here 1 (some .int)
theorem mc_M_here : MC y_M_here k_M_here b_M_here 1 (some .int) [] 0 := ⟨g_in (List.mem_of_getElem? (i := 924) (by decide +kernel)) (by decide +kernel), Or.inl ⟨rfl, rfl⟩, g_in (List.mem_of_getElem? (i := 62) (by decide +kernel)) (by decide +kernel), by decide, by decide +kernel⟩
theorem in_M_here : Cond.instanceMethod y_M_here ∈ g_ws := g_in (List.mem_of_getElem? (i := 923) (by decide +kernel)) (by decide +kernel)
theorem se_M_here : Cond.selects cR6 y_M_here y_M_here ∈ g_ws := g_in (List.mem_of_getElem? (i := 39) (by decide +kernel)) (by decide +kernel)
theorem d_M_here_0 : decode b_M_here 0 = .ok (.aload_n 0, 1) := by decide +kernel
theorem d_M_here_1 : decode b_M_here 1 = .ok (.getfield 129, 3) := by decide +kernel
theorem d_M_here_4 : decode b_M_here 4 = .ok (.aload_n 0, 1) := by decide +kernel
theorem d_M_here_5 : decode b_M_here 5 = .ok (.getfield 126, 3) := by decide +kernel
theorem d_M_here_8 : decode b_M_here 8 = .ok (.if_icmp .ge 15, 3) := by decide +kernel
theorem d_M_here_11 : decode b_M_here 11 = .ok (.aload_n 0, 1) := by decide +kernel
theorem d_M_here_12 : decode b_M_here 12 = .ok (.getfield 50, 3) := by decide +kernel
theorem d_M_here_15 : decode b_M_here 15 = .ok (.aload_n 0, 1) := by decide +kernel
theorem d_M_here_16 : decode b_M_here 16 = .ok (.getfield 129, 3) := by decide +kernel
theorem d_M_here_19 : decode b_M_here 19 = .ok (.iaload, 1) := by decide +kernel
theorem d_M_here_20 : decode b_M_here 20 = .ok (.goto 4, 3) := by decide +kernel
theorem d_M_here_23 : decode b_M_here 23 = .ok (.iconst (-1), 1) := by decide +kernel
theorem d_M_here_24 : decode b_M_here 24 = .ok (.ireturn, 1) := by decide +kernel
def y_M_see : MethodName := ⟨cR6, "see", "()I"⟩
abbrev b_M_see : ByteArray := prog_8_method_16_code
abbrev k_M_see : Cond := .code y_M_see b_M_see 1 (some .int)
theorem mc_M_see : MC y_M_see k_M_see b_M_see 1 (some .int) [] 0 := ⟨g_in (List.mem_of_getElem? (i := 920) (by decide +kernel)) (by decide +kernel), Or.inl ⟨rfl, rfl⟩, g_in (List.mem_of_getElem? (i := 62) (by decide +kernel)) (by decide +kernel), by decide, by decide +kernel⟩
theorem in_M_see : Cond.instanceMethod y_M_see ∈ g_ws := g_in (List.mem_of_getElem? (i := 919) (by decide +kernel)) (by decide +kernel)
theorem se_M_see : Cond.selects cR6 y_M_see y_M_see ∈ g_ws := g_in (List.mem_of_getElem? (i := 38) (by decide +kernel)) (by decide +kernel)
theorem d_M_see_0 : decode b_M_see 0 = .ok (.aload_n 0, 1) := by decide +kernel
theorem d_M_see_1 : decode b_M_see 1 = .ok (.invokevirtual 132, 3) := by decide +kernel
theorem d_M_see_4 : decode b_M_see 4 = .ok (.bipush 32, 2) := by decide +kernel
theorem d_M_see_6 : decode b_M_see 6 = .ok (.if_icmp .ne 16, 3) := by decide +kernel
theorem d_M_see_9 : decode b_M_see 9 = .ok (.aload_n 0, 1) := by decide +kernel
theorem d_M_see_10 : decode b_M_see 10 = .ok (.dup, 1) := by decide +kernel
theorem d_M_see_11 : decode b_M_see 11 = .ok (.getfield 129, 3) := by decide +kernel
theorem d_M_see_14 : decode b_M_see 14 = .ok (.iconst 1, 1) := by decide +kernel
theorem d_M_see_15 : decode b_M_see 15 = .ok (.iadd, 1) := by decide +kernel
theorem d_M_see_16 : decode b_M_see 16 = .ok (.putfield 129, 3) := by decide +kernel
theorem d_M_see_19 : decode b_M_see 19 = .ok (.goto (-19), 3) := by decide +kernel
theorem d_M_see_22 : decode b_M_see 22 = .ok (.aload_n 0, 1) := by decide +kernel
theorem d_M_see_23 : decode b_M_see 23 = .ok (.invokevirtual 132, 3) := by decide +kernel
theorem d_M_see_26 : decode b_M_see 26 = .ok (.ireturn, 1) := by decide +kernel
def y_M_fail : MethodName := ⟨cR6, "fail", "(I)V"⟩
abbrev b_M_fail : ByteArray := prog_8_method_17_code
abbrev k_M_fail : Cond := .code y_M_fail b_M_fail 2 none
theorem mc_M_fail : MC y_M_fail k_M_fail b_M_fail 2 none [] 1 := ⟨g_in (List.mem_of_getElem? (i := 932) (by decide +kernel)) (by decide +kernel), Or.inl ⟨rfl, rfl⟩, g_in (List.mem_of_getElem? (i := 62) (by decide +kernel)) (by decide +kernel), by decide, by decide +kernel⟩
theorem in_M_fail : Cond.instanceMethod y_M_fail ∈ g_ws := g_in (List.mem_of_getElem? (i := 931) (by decide +kernel)) (by decide +kernel)
theorem se_M_fail : Cond.selects cR6 y_M_fail y_M_fail ∈ g_ws := g_in (List.mem_of_getElem? (i := 41) (by decide +kernel)) (by decide +kernel)
theorem d_M_fail_0 : decode b_M_fail 0 = .ok (.aload_n 0, 1) := by decide +kernel
theorem d_M_fail_1 : decode b_M_fail 1 = .ok (.getfield 136, 3) := by decide +kernel
theorem d_M_fail_4 : decode b_M_fail 4 = .ok (.ifCond .ge 8, 3) := by decide +kernel
theorem d_M_fail_7 : decode b_M_fail 7 = .ok (.aload_n 0, 1) := by decide +kernel
theorem d_M_fail_8 : decode b_M_fail 8 = .ok (.iload_n 1, 1) := by decide +kernel
theorem d_M_fail_9 : decode b_M_fail 9 = .ok (.putfield 136, 3) := by decide +kernel
theorem d_M_fail_12 : decode b_M_fail 12 = .ok (.return_, 1) := by decide +kernel
def y_M_isDigit : MethodName := ⟨cR6, "isDigit", "()Z"⟩
abbrev b_M_isDigit : ByteArray := prog_8_method_18_code
abbrev k_M_isDigit : Cond := .code y_M_isDigit b_M_isDigit 1 (some .boolean)
theorem mc_M_isDigit : MC y_M_isDigit k_M_isDigit b_M_isDigit 1 (some .boolean) [] 0 := ⟨g_in (List.mem_of_getElem? (i := 948) (by decide +kernel)) (by decide +kernel), Or.inl ⟨rfl, rfl⟩, g_in (List.mem_of_getElem? (i := 62) (by decide +kernel)) (by decide +kernel), by decide, by decide +kernel⟩
theorem in_M_isDigit : Cond.instanceMethod y_M_isDigit ∈ g_ws := g_in (List.mem_of_getElem? (i := 947) (by decide +kernel)) (by decide +kernel)
theorem se_M_isDigit : Cond.selects cR6 y_M_isDigit y_M_isDigit ∈ g_ws := g_in (List.mem_of_getElem? (i := 45) (by decide +kernel)) (by decide +kernel)
theorem d_M_isDigit_0 : decode b_M_isDigit 0 = .ok (.aload_n 0, 1) := by decide +kernel
theorem d_M_isDigit_1 : decode b_M_isDigit 1 = .ok (.invokevirtual 132, 3) := by decide +kernel
theorem d_M_isDigit_4 : decode b_M_isDigit 4 = .ok (.bipush 48, 2) := by decide +kernel
theorem d_M_isDigit_6 : decode b_M_isDigit 6 = .ok (.bipush 57, 2) := by decide +kernel
theorem d_M_isDigit_8 : decode b_M_isDigit 8 = .ok (.invokestatic 102, 3) := by decide +kernel
theorem d_M_isDigit_11 : decode b_M_isDigit 11 = .ok (.ireturn, 1) := by decide +kernel
def y_M_number : MethodName := ⟨cR6, "number", "(I)I"⟩
abbrev b_M_number : ByteArray := prog_8_method_19_code
abbrev k_M_number : Cond := .code y_M_number b_M_number 4 (some .int)
theorem mc_M_number : MC y_M_number k_M_number b_M_number 4 (some .int) [] 1 := ⟨g_in (List.mem_of_getElem? (i := 944) (by decide +kernel)) (by decide +kernel), Or.inl ⟨rfl, rfl⟩, g_in (List.mem_of_getElem? (i := 62) (by decide +kernel)) (by decide +kernel), by decide, by decide +kernel⟩
theorem in_M_number : Cond.instanceMethod y_M_number ∈ g_ws := g_in (List.mem_of_getElem? (i := 943) (by decide +kernel)) (by decide +kernel)
theorem se_M_number : Cond.selects cR6 y_M_number y_M_number ∈ g_ws := g_in (List.mem_of_getElem? (i := 44) (by decide +kernel)) (by decide +kernel)
theorem d_M_number_0 : decode b_M_number 0 = .ok (.aload_n 0, 1) := by decide +kernel
theorem d_M_number_1 : decode b_M_number 1 = .ok (.invokevirtual 139, 3) := by decide +kernel
theorem d_M_number_4 : decode b_M_number 4 = .ok (.pop, 1) := by decide +kernel
theorem d_M_number_5 : decode b_M_number 5 = .ok (.aload_n 0, 1) := by decide +kernel
theorem d_M_number_6 : decode b_M_number 6 = .ok (.invokevirtual 142, 3) := by decide +kernel
theorem d_M_number_9 : decode b_M_number 9 = .ok (.ifCond .ne 11, 3) := by decide +kernel
theorem d_M_number_12 : decode b_M_number 12 = .ok (.aload_n 0, 1) := by decide +kernel
theorem d_M_number_13 : decode b_M_number 13 = .ok (.aload_n 0, 1) := by decide +kernel
theorem d_M_number_14 : decode b_M_number 14 = .ok (.getfield 129, 3) := by decide +kernel
theorem d_M_number_17 : decode b_M_number 17 = .ok (.invokevirtual 146, 3) := by decide +kernel
theorem d_M_number_20 : decode b_M_number 20 = .ok (.iconst 0, 1) := by decide +kernel
theorem d_M_number_21 : decode b_M_number 21 = .ok (.istore_n 2, 1) := by decide +kernel
theorem d_M_number_22 : decode b_M_number 22 = .ok (.iconst 0, 1) := by decide +kernel
theorem d_M_number_23 : decode b_M_number 23 = .ok (.istore_n 3, 1) := by decide +kernel
theorem d_M_number_24 : decode b_M_number 24 = .ok (.aload_n 0, 1) := by decide +kernel
theorem d_M_number_25 : decode b_M_number 25 = .ok (.getfield 136, 3) := by decide +kernel
theorem d_M_number_28 : decode b_M_number 28 = .ok (.ifCond .ge 52, 3) := by decide +kernel
theorem d_M_number_31 : decode b_M_number 31 = .ok (.aload_n 0, 1) := by decide +kernel
theorem d_M_number_32 : decode b_M_number 32 = .ok (.invokevirtual 142, 3) := by decide +kernel
theorem d_M_number_35 : decode b_M_number 35 = .ok (.ifCond .eq 45, 3) := by decide +kernel
theorem d_M_number_38 : decode b_M_number 38 = .ok (.iload_n 3, 1) := by decide +kernel
theorem d_M_number_39 : decode b_M_number 39 = .ok (.iconst 5, 1) := by decide +kernel
theorem d_M_number_40 : decode b_M_number 40 = .ok (.if_icmp .ge 40, 3) := by decide +kernel
theorem d_M_number_43 : decode b_M_number 43 = .ok (.iload_n 3, 1) := by decide +kernel
theorem d_M_number_44 : decode b_M_number 44 = .ok (.ifCond .eq 7, 3) := by decide +kernel
theorem d_M_number_47 : decode b_M_number 47 = .ok (.iload_n 2, 1) := by decide +kernel
theorem d_M_number_48 : decode b_M_number 48 = .ok (.ifCond .le 32, 3) := by decide +kernel
theorem d_M_number_51 : decode b_M_number 51 = .ok (.bipush 10, 2) := by decide +kernel
theorem d_M_number_53 : decode b_M_number 53 = .ok (.iload_n 2, 1) := by decide +kernel
theorem d_M_number_54 : decode b_M_number 54 = .ok (.imul, 1) := by decide +kernel
theorem d_M_number_55 : decode b_M_number 55 = .ok (.aload_n 0, 1) := by decide +kernel
theorem d_M_number_56 : decode b_M_number 56 = .ok (.invokevirtual 132, 3) := by decide +kernel
theorem d_M_number_59 : decode b_M_number 59 = .ok (.iadd, 1) := by decide +kernel
theorem d_M_number_60 : decode b_M_number 60 = .ok (.bipush 48, 2) := by decide +kernel
theorem d_M_number_62 : decode b_M_number 62 = .ok (.isub, 1) := by decide +kernel
theorem d_M_number_63 : decode b_M_number 63 = .ok (.istore_n 2, 1) := by decide +kernel
theorem d_M_number_64 : decode b_M_number 64 = .ok (.iinc 3 1, 3) := by decide +kernel
theorem d_M_number_67 : decode b_M_number 67 = .ok (.aload_n 0, 1) := by decide +kernel
theorem d_M_number_68 : decode b_M_number 68 = .ok (.dup, 1) := by decide +kernel
theorem d_M_number_69 : decode b_M_number 69 = .ok (.getfield 129, 3) := by decide +kernel
theorem d_M_number_72 : decode b_M_number 72 = .ok (.iconst 1, 1) := by decide +kernel
theorem d_M_number_73 : decode b_M_number 73 = .ok (.iadd, 1) := by decide +kernel
theorem d_M_number_74 : decode b_M_number 74 = .ok (.putfield 129, 3) := by decide +kernel
theorem d_M_number_77 : decode b_M_number 77 = .ok (.goto (-53), 3) := by decide +kernel
theorem d_M_number_80 : decode b_M_number 80 = .ok (.iload_n 2, 1) := by decide +kernel
theorem d_M_number_81 : decode b_M_number 81 = .ok (.iload_n 1, 1) := by decide +kernel
theorem d_M_number_82 : decode b_M_number 82 = .ok (.if_icmp .le 13, 3) := by decide +kernel
theorem d_M_number_85 : decode b_M_number 85 = .ok (.aload_n 0, 1) := by decide +kernel
theorem d_M_number_86 : decode b_M_number 86 = .ok (.aload_n 0, 1) := by decide +kernel
theorem d_M_number_87 : decode b_M_number 87 = .ok (.getfield 129, 3) := by decide +kernel
theorem d_M_number_90 : decode b_M_number 90 = .ok (.iconst 1, 1) := by decide +kernel
theorem d_M_number_91 : decode b_M_number 91 = .ok (.isub, 1) := by decide +kernel
theorem d_M_number_92 : decode b_M_number 92 = .ok (.invokevirtual 146, 3) := by decide +kernel
theorem d_M_number_95 : decode b_M_number 95 = .ok (.iload_n 3, 1) := by decide +kernel
theorem d_M_number_96 : decode b_M_number 96 = .ok (.iconst 5, 1) := by decide +kernel
theorem d_M_number_97 : decode b_M_number 97 = .ok (.if_icmp .ne 18, 3) := by decide +kernel
theorem d_M_number_100 : decode b_M_number 100 = .ok (.aload_n 0, 1) := by decide +kernel
theorem d_M_number_101 : decode b_M_number 101 = .ok (.invokevirtual 142, 3) := by decide +kernel
theorem d_M_number_104 : decode b_M_number 104 = .ok (.ifCond .eq 11, 3) := by decide +kernel
theorem d_M_number_107 : decode b_M_number 107 = .ok (.aload_n 0, 1) := by decide +kernel
theorem d_M_number_108 : decode b_M_number 108 = .ok (.aload_n 0, 1) := by decide +kernel
theorem d_M_number_109 : decode b_M_number 109 = .ok (.getfield 129, 3) := by decide +kernel
theorem d_M_number_112 : decode b_M_number 112 = .ok (.invokevirtual 146, 3) := by decide +kernel
theorem d_M_number_115 : decode b_M_number 115 = .ok (.aload_n 0, 1) := by decide +kernel
theorem d_M_number_116 : decode b_M_number 116 = .ok (.getfield 136, 3) := by decide +kernel
theorem d_M_number_119 : decode b_M_number 119 = .ok (.ifCond .ge 7, 3) := by decide +kernel
theorem d_M_number_122 : decode b_M_number 122 = .ok (.iload_n 2, 1) := by decide +kernel
theorem d_M_number_123 : decode b_M_number 123 = .ok (.goto 4, 3) := by decide +kernel
theorem d_M_number_126 : decode b_M_number 126 = .ok (.iconst 0, 1) := by decide +kernel
theorem d_M_number_127 : decode b_M_number 127 = .ok (.ireturn, 1) := by decide +kernel
def y_M_factor : MethodName := ⟨cR6, "factor", "()I"⟩
abbrev b_M_factor : ByteArray := prog_8_method_20_code
abbrev k_M_factor : Cond := .code y_M_factor b_M_factor 1 (some .int)
theorem mc_M_factor : MC y_M_factor k_M_factor b_M_factor 1 (some .int) [] 0 := ⟨g_in (List.mem_of_getElem? (i := 940) (by decide +kernel)) (by decide +kernel), Or.inl ⟨rfl, rfl⟩, g_in (List.mem_of_getElem? (i := 62) (by decide +kernel)) (by decide +kernel), by decide, by decide +kernel⟩
theorem in_M_factor : Cond.instanceMethod y_M_factor ∈ g_ws := g_in (List.mem_of_getElem? (i := 939) (by decide +kernel)) (by decide +kernel)
theorem se_M_factor : Cond.selects cR6 y_M_factor y_M_factor ∈ g_ws := g_in (List.mem_of_getElem? (i := 43) (by decide +kernel)) (by decide +kernel)
theorem d_M_factor_0 : decode b_M_factor 0 = .ok (.aload_n 0, 1) := by decide +kernel
theorem d_M_factor_1 : decode b_M_factor 1 = .ok (.getfield 136, 3) := by decide +kernel
theorem d_M_factor_4 : decode b_M_factor 4 = .ok (.ifCond .lt 5, 3) := by decide +kernel
theorem d_M_factor_7 : decode b_M_factor 7 = .ok (.iconst 0, 1) := by decide +kernel
theorem d_M_factor_8 : decode b_M_factor 8 = .ok (.ireturn, 1) := by decide +kernel
theorem d_M_factor_9 : decode b_M_factor 9 = .ok (.aload_n 0, 1) := by decide +kernel
theorem d_M_factor_10 : decode b_M_factor 10 = .ok (.invokevirtual 139, 3) := by decide +kernel
theorem d_M_factor_13 : decode b_M_factor 13 = .ok (.bipush 102, 2) := by decide +kernel
theorem d_M_factor_15 : decode b_M_factor 15 = .ok (.if_icmp .eq 10, 3) := by decide +kernel
theorem d_M_factor_18 : decode b_M_factor 18 = .ok (.aload_n 0, 1) := by decide +kernel
theorem d_M_factor_19 : decode b_M_factor 19 = .ok (.ldc 125, 2) := by decide +kernel
theorem d_M_factor_21 : decode b_M_factor 21 = .ok (.invokevirtual 150, 3) := by decide +kernel
theorem d_M_factor_24 : decode b_M_factor 24 = .ok (.ireturn, 1) := by decide +kernel
theorem d_M_factor_25 : decode b_M_factor 25 = .ok (.aload_n 0, 1) := by decide +kernel
theorem d_M_factor_26 : decode b_M_factor 26 = .ok (.dup, 1) := by decide +kernel
theorem d_M_factor_27 : decode b_M_factor 27 = .ok (.getfield 129, 3) := by decide +kernel
theorem d_M_factor_30 : decode b_M_factor 30 = .ok (.iconst 1, 1) := by decide +kernel
theorem d_M_factor_31 : decode b_M_factor 31 = .ok (.iadd, 1) := by decide +kernel
theorem d_M_factor_32 : decode b_M_factor 32 = .ok (.putfield 129, 3) := by decide +kernel
theorem d_M_factor_35 : decode b_M_factor 35 = .ok (.iconst (-1), 1) := by decide +kernel
theorem d_M_factor_36 : decode b_M_factor 36 = .ok (.aload_n 0, 1) := by decide +kernel
theorem d_M_factor_37 : decode b_M_factor 37 = .ok (.bipush 19, 2) := by decide +kernel
theorem d_M_factor_39 : decode b_M_factor 39 = .ok (.invokevirtual 150, 3) := by decide +kernel
theorem d_M_factor_42 : decode b_M_factor 42 = .ok (.isub, 1) := by decide +kernel
theorem d_M_factor_43 : decode b_M_factor 43 = .ok (.ireturn, 1) := by decide +kernel
def y_M_sum : MethodName := ⟨cR6, "sum", "(I)V"⟩
abbrev b_M_sum : ByteArray := prog_8_method_21_code
abbrev k_M_sum : Cond := .code y_M_sum b_M_sum 4 none
theorem mc_M_sum : MC y_M_sum k_M_sum b_M_sum 4 none [] 1 := ⟨g_in (List.mem_of_getElem? (i := 936) (by decide +kernel)) (by decide +kernel), Or.inl ⟨rfl, rfl⟩, g_in (List.mem_of_getElem? (i := 62) (by decide +kernel)) (by decide +kernel), by decide, by decide +kernel⟩
theorem in_M_sum : Cond.instanceMethod y_M_sum ∈ g_ws := g_in (List.mem_of_getElem? (i := 935) (by decide +kernel)) (by decide +kernel)
theorem se_M_sum : Cond.selects cR6 y_M_sum y_M_sum ∈ g_ws := g_in (List.mem_of_getElem? (i := 42) (by decide +kernel)) (by decide +kernel)
theorem d_M_sum_0 : decode b_M_sum 0 = .ok (.iconst 1, 1) := by decide +kernel
theorem d_M_sum_1 : decode b_M_sum 1 = .ok (.istore_n 2, 1) := by decide +kernel
theorem d_M_sum_2 : decode b_M_sum 2 = .ok (.iconst 0, 1) := by decide +kernel
theorem d_M_sum_3 : decode b_M_sum 3 = .ok (.istore_n 3, 1) := by decide +kernel
theorem d_M_sum_4 : decode b_M_sum 4 = .ok (.iload_n 3, 1) := by decide +kernel
theorem d_M_sum_5 : decode b_M_sum 5 = .ok (.iconst 4, 1) := by decide +kernel
theorem d_M_sum_6 : decode b_M_sum 6 = .ok (.if_icmp .ge 160, 3) := by decide +kernel
theorem d_M_sum_9 : decode b_M_sum 9 = .ok (.iload_n 2, 1) := by decide +kernel
theorem d_M_sum_10 : decode b_M_sum 10 = .ok (.ifCond .le 156, 3) := by decide +kernel
theorem d_M_sum_13 : decode b_M_sum 13 = .ok (.aload_n 0, 1) := by decide +kernel
theorem d_M_sum_14 : decode b_M_sum 14 = .ok (.getfield 136, 3) := by decide +kernel
theorem d_M_sum_17 : decode b_M_sum 17 = .ok (.ifCond .ge 149, 3) := by decide +kernel
theorem d_M_sum_20 : decode b_M_sum 20 = .ok (.aload_n 0, 1) := by decide +kernel
theorem d_M_sum_21 : decode b_M_sum 21 = .ok (.getfield 78, 3) := by decide +kernel
theorem d_M_sum_24 : decode b_M_sum 24 = .ok (.iload_n 1, 1) := by decide +kernel
theorem d_M_sum_25 : decode b_M_sum 25 = .ok (.iload_n 3, 1) := by decide +kernel
theorem d_M_sum_26 : decode b_M_sum 26 = .ok (.iadd, 1) := by decide +kernel
theorem d_M_sum_27 : decode b_M_sum 27 = .ok (.aload_n 0, 1) := by decide +kernel
theorem d_M_sum_28 : decode b_M_sum 28 = .ok (.invokevirtual 154, 3) := by decide +kernel
theorem d_M_sum_31 : decode b_M_sum 31 = .ok (.iastore, 1) := by decide +kernel
theorem d_M_sum_32 : decode b_M_sum 32 = .ok (.aload_n 0, 1) := by decide +kernel
theorem d_M_sum_33 : decode b_M_sum 33 = .ok (.getfield 84, 3) := by decide +kernel
theorem d_M_sum_36 : decode b_M_sum 36 = .ok (.iload_n 1, 1) := by decide +kernel
theorem d_M_sum_37 : decode b_M_sum 37 = .ok (.iload_n 3, 1) := by decide +kernel
theorem d_M_sum_38 : decode b_M_sum 38 = .ok (.iadd, 1) := by decide +kernel
theorem d_M_sum_39 : decode b_M_sum 39 = .ok (.aload_n 0, 1) := by decide +kernel
theorem d_M_sum_40 : decode b_M_sum 40 = .ok (.getfield 136, 3) := by decide +kernel
theorem d_M_sum_43 : decode b_M_sum 43 = .ok (.ifCond .ge 16, 3) := by decide +kernel
theorem d_M_sum_46 : decode b_M_sum 46 = .ok (.aload_n 0, 1) := by decide +kernel
theorem d_M_sum_47 : decode b_M_sum 47 = .ok (.invokevirtual 139, 3) := by decide +kernel
theorem d_M_sum_50 : decode b_M_sum 50 = .ok (.bipush 47, 2) := by decide +kernel
theorem d_M_sum_52 : decode b_M_sum 52 = .ok (.if_icmp .ne 7, 3) := by decide +kernel
theorem d_M_sum_55 : decode b_M_sum 55 = .ok (.iconst 1, 1) := by decide +kernel
theorem d_M_sum_56 : decode b_M_sum 56 = .ok (.goto 4, 3) := by decide +kernel
theorem d_M_sum_59 : decode b_M_sum 59 = .ok (.iconst 0, 1) := by decide +kernel
theorem d_M_sum_60 : decode b_M_sum 60 = .ok (.bastore, 1) := by decide +kernel
theorem d_M_sum_61 : decode b_M_sum 61 = .ok (.aload_n 0, 1) := by decide +kernel
theorem d_M_sum_62 : decode b_M_sum 62 = .ok (.getfield 84, 3) := by decide +kernel
theorem d_M_sum_65 : decode b_M_sum 65 = .ok (.iload_n 1, 1) := by decide +kernel
theorem d_M_sum_66 : decode b_M_sum 66 = .ok (.iload_n 3, 1) := by decide +kernel
theorem d_M_sum_67 : decode b_M_sum 67 = .ok (.iadd, 1) := by decide +kernel
theorem d_M_sum_68 : decode b_M_sum 68 = .ok (.baload, 1) := by decide +kernel
theorem d_M_sum_69 : decode b_M_sum 69 = .ok (.ifCond .eq 25, 3) := by decide +kernel
theorem d_M_sum_72 : decode b_M_sum 72 = .ok (.aload_n 0, 1) := by decide +kernel
theorem d_M_sum_73 : decode b_M_sum 73 = .ok (.dup, 1) := by decide +kernel
theorem d_M_sum_74 : decode b_M_sum 74 = .ok (.getfield 129, 3) := by decide +kernel
theorem d_M_sum_77 : decode b_M_sum 77 = .ok (.iconst 1, 1) := by decide +kernel
theorem d_M_sum_78 : decode b_M_sum 78 = .ok (.iadd, 1) := by decide +kernel
theorem d_M_sum_79 : decode b_M_sum 79 = .ok (.putfield 129, 3) := by decide +kernel
theorem d_M_sum_82 : decode b_M_sum 82 = .ok (.aload_n 0, 1) := by decide +kernel
theorem d_M_sum_83 : decode b_M_sum 83 = .ok (.getfield 81, 3) := by decide +kernel
theorem d_M_sum_86 : decode b_M_sum 86 = .ok (.iload_n 1, 1) := by decide +kernel
theorem d_M_sum_87 : decode b_M_sum 87 = .ok (.iload_n 3, 1) := by decide +kernel
theorem d_M_sum_88 : decode b_M_sum 88 = .ok (.iadd, 1) := by decide +kernel
theorem d_M_sum_89 : decode b_M_sum 89 = .ok (.aload_n 0, 1) := by decide +kernel
theorem d_M_sum_90 : decode b_M_sum 90 = .ok (.invokevirtual 154, 3) := by decide +kernel
theorem d_M_sum_93 : decode b_M_sum 93 = .ok (.iastore, 1) := by decide +kernel
theorem d_M_sum_94 : decode b_M_sum 94 = .ok (.aload_n 0, 1) := by decide +kernel
theorem d_M_sum_95 : decode b_M_sum 95 = .ok (.getfield 75, 3) := by decide +kernel
theorem d_M_sum_98 : decode b_M_sum 98 = .ok (.iload_n 1, 1) := by decide +kernel
theorem d_M_sum_99 : decode b_M_sum 99 = .ok (.iload_n 3, 1) := by decide +kernel
theorem d_M_sum_100 : decode b_M_sum 100 = .ok (.iadd, 1) := by decide +kernel
theorem d_M_sum_101 : decode b_M_sum 101 = .ok (.iload_n 2, 1) := by decide +kernel
theorem d_M_sum_102 : decode b_M_sum 102 = .ok (.iastore, 1) := by decide +kernel
theorem d_M_sum_103 : decode b_M_sum 103 = .ok (.iconst 0, 1) := by decide +kernel
theorem d_M_sum_104 : decode b_M_sum 104 = .ok (.istore_n 2, 1) := by decide +kernel
theorem d_M_sum_105 : decode b_M_sum 105 = .ok (.aload_n 0, 1) := by decide +kernel
theorem d_M_sum_106 : decode b_M_sum 106 = .ok (.getfield 136, 3) := by decide +kernel
theorem d_M_sum_109 : decode b_M_sum 109 = .ok (.ifCond .ge 51, 3) := by decide +kernel
theorem d_M_sum_112 : decode b_M_sum 112 = .ok (.iload_n 3, 1) := by decide +kernel
theorem d_M_sum_113 : decode b_M_sum 113 = .ok (.iconst 3, 1) := by decide +kernel
theorem d_M_sum_114 : decode b_M_sum 114 = .ok (.if_icmp .ge 46, 3) := by decide +kernel
theorem d_M_sum_117 : decode b_M_sum 117 = .ok (.aload_n 0, 1) := by decide +kernel
theorem d_M_sum_118 : decode b_M_sum 118 = .ok (.invokevirtual 139, 3) := by decide +kernel
theorem d_M_sum_121 : decode b_M_sum 121 = .ok (.bipush 43, 2) := by decide +kernel
theorem d_M_sum_123 : decode b_M_sum 123 = .ok (.if_icmp .eq 12, 3) := by decide +kernel
theorem d_M_sum_126 : decode b_M_sum 126 = .ok (.aload_n 0, 1) := by decide +kernel
theorem d_M_sum_127 : decode b_M_sum 127 = .ok (.invokevirtual 132, 3) := by decide +kernel
theorem d_M_sum_130 : decode b_M_sum 130 = .ok (.bipush 45, 2) := by decide +kernel
theorem d_M_sum_132 : decode b_M_sum 132 = .ok (.if_icmp .ne 28, 3) := by decide +kernel
theorem d_M_sum_135 : decode b_M_sum 135 = .ok (.aload_n 0, 1) := by decide +kernel
theorem d_M_sum_136 : decode b_M_sum 136 = .ok (.invokevirtual 132, 3) := by decide +kernel
theorem d_M_sum_139 : decode b_M_sum 139 = .ok (.bipush 43, 2) := by decide +kernel
theorem d_M_sum_141 : decode b_M_sum 141 = .ok (.if_icmp .ne 7, 3) := by decide +kernel
theorem d_M_sum_144 : decode b_M_sum 144 = .ok (.iconst 1, 1) := by decide +kernel
theorem d_M_sum_145 : decode b_M_sum 145 = .ok (.goto 4, 3) := by decide +kernel
theorem d_M_sum_148 : decode b_M_sum 148 = .ok (.iconst 2, 1) := by decide +kernel
theorem d_M_sum_149 : decode b_M_sum 149 = .ok (.istore_n 2, 1) := by decide +kernel
theorem d_M_sum_150 : decode b_M_sum 150 = .ok (.aload_n 0, 1) := by decide +kernel
theorem d_M_sum_151 : decode b_M_sum 151 = .ok (.dup, 1) := by decide +kernel
theorem d_M_sum_152 : decode b_M_sum 152 = .ok (.getfield 129, 3) := by decide +kernel
theorem d_M_sum_155 : decode b_M_sum 155 = .ok (.iconst 1, 1) := by decide +kernel
theorem d_M_sum_156 : decode b_M_sum 156 = .ok (.iadd, 1) := by decide +kernel
theorem d_M_sum_157 : decode b_M_sum 157 = .ok (.putfield 129, 3) := by decide +kernel
theorem d_M_sum_160 : decode b_M_sum 160 = .ok (.iinc 3 1, 3) := by decide +kernel
theorem d_M_sum_163 : decode b_M_sum 163 = .ok (.goto (-159), 3) := by decide +kernel
theorem d_M_sum_166 : decode b_M_sum 166 = .ok (.return_, 1) := by decide +kernel
def y_M_rule : MethodName := ⟨cR6, "rule", "()V"⟩
abbrev b_M_rule : ByteArray := prog_8_method_22_code
abbrev k_M_rule : Cond := .code y_M_rule b_M_rule 3 none
theorem mc_M_rule : MC y_M_rule k_M_rule b_M_rule 3 none [] 0 := ⟨g_in (List.mem_of_getElem? (i := 928) (by decide +kernel)) (by decide +kernel), Or.inl ⟨rfl, rfl⟩, g_in (List.mem_of_getElem? (i := 62) (by decide +kernel)) (by decide +kernel), by decide, by decide +kernel⟩
theorem in_M_rule : Cond.instanceMethod y_M_rule ∈ g_ws := g_in (List.mem_of_getElem? (i := 927) (by decide +kernel)) (by decide +kernel)
theorem se_M_rule : Cond.selects cR6 y_M_rule y_M_rule ∈ g_ws := g_in (List.mem_of_getElem? (i := 40) (by decide +kernel)) (by decide +kernel)
theorem d_M_rule_0 : decode b_M_rule 0 = .ok (.aload_n 0, 1) := by decide +kernel
theorem d_M_rule_1 : decode b_M_rule 1 = .ok (.getfield 157, 3) := by decide +kernel
theorem d_M_rule_4 : decode b_M_rule 4 = .ok (.bipush 20, 2) := by decide +kernel
theorem d_M_rule_6 : decode b_M_rule 6 = .ok (.if_icmp .ne 12, 3) := by decide +kernel
theorem d_M_rule_9 : decode b_M_rule 9 = .ok (.aload_n 0, 1) := by decide +kernel
theorem d_M_rule_10 : decode b_M_rule 10 = .ok (.aload_n 0, 1) := by decide +kernel
theorem d_M_rule_11 : decode b_M_rule 11 = .ok (.getfield 129, 3) := by decide +kernel
theorem d_M_rule_14 : decode b_M_rule 14 = .ok (.invokevirtual 146, 3) := by decide +kernel
theorem d_M_rule_17 : decode b_M_rule 17 = .ok (.return_, 1) := by decide +kernel
theorem d_M_rule_18 : decode b_M_rule 18 = .ok (.bipush 8, 2) := by decide +kernel
theorem d_M_rule_20 : decode b_M_rule 20 = .ok (.aload_n 0, 1) := by decide +kernel
theorem d_M_rule_21 : decode b_M_rule 21 = .ok (.getfield 157, 3) := by decide +kernel
theorem d_M_rule_24 : decode b_M_rule 24 = .ok (.imul, 1) := by decide +kernel
theorem d_M_rule_25 : decode b_M_rule 25 = .ok (.istore_n 1, 1) := by decide +kernel
theorem d_M_rule_26 : decode b_M_rule 26 = .ok (.iconst 0, 1) := by decide +kernel
theorem d_M_rule_27 : decode b_M_rule 27 = .ok (.istore_n 2, 1) := by decide +kernel
theorem d_M_rule_28 : decode b_M_rule 28 = .ok (.iload_n 2, 1) := by decide +kernel
theorem d_M_rule_29 : decode b_M_rule 29 = .ok (.bipush 8, 2) := by decide +kernel
theorem d_M_rule_31 : decode b_M_rule 31 = .ok (.if_icmp .ge 18, 3) := by decide +kernel
theorem d_M_rule_34 : decode b_M_rule 34 = .ok (.aload_n 0, 1) := by decide +kernel
theorem d_M_rule_35 : decode b_M_rule 35 = .ok (.getfield 75, 3) := by decide +kernel
theorem d_M_rule_38 : decode b_M_rule 38 = .ok (.iload_n 1, 1) := by decide +kernel
theorem d_M_rule_39 : decode b_M_rule 39 = .ok (.iload_n 2, 1) := by decide +kernel
theorem d_M_rule_40 : decode b_M_rule 40 = .ok (.iadd, 1) := by decide +kernel
theorem d_M_rule_41 : decode b_M_rule 41 = .ok (.iconst 0, 1) := by decide +kernel
theorem d_M_rule_42 : decode b_M_rule 42 = .ok (.iastore, 1) := by decide +kernel
theorem d_M_rule_43 : decode b_M_rule 43 = .ok (.iinc 2 1, 3) := by decide +kernel
theorem d_M_rule_46 : decode b_M_rule 46 = .ok (.goto (-18), 3) := by decide +kernel
theorem d_M_rule_49 : decode b_M_rule 49 = .ok (.aload_n 0, 1) := by decide +kernel
theorem d_M_rule_50 : decode b_M_rule 50 = .ok (.iload_n 1, 1) := by decide +kernel
theorem d_M_rule_51 : decode b_M_rule 51 = .ok (.invokevirtual 160, 3) := by decide +kernel
theorem d_M_rule_54 : decode b_M_rule 54 = .ok (.aload_n 0, 1) := by decide +kernel
theorem d_M_rule_55 : decode b_M_rule 55 = .ok (.getfield 136, 3) := by decide +kernel
theorem d_M_rule_58 : decode b_M_rule 58 = .ok (.ifCond .ge 38, 3) := by decide +kernel
theorem d_M_rule_61 : decode b_M_rule 61 = .ok (.aload_n 0, 1) := by decide +kernel
theorem d_M_rule_62 : decode b_M_rule 62 = .ok (.invokevirtual 139, 3) := by decide +kernel
theorem d_M_rule_65 : decode b_M_rule 65 = .ok (.bipush 60, 2) := by decide +kernel
theorem d_M_rule_67 : decode b_M_rule 67 = .ok (.if_icmp .eq 29, 3) := by decide +kernel
theorem d_M_rule_70 : decode b_M_rule 70 = .ok (.aload_n 0, 1) := by decide +kernel
theorem d_M_rule_71 : decode b_M_rule 71 = .ok (.invokevirtual 132, 3) := by decide +kernel
theorem d_M_rule_74 : decode b_M_rule 74 = .ok (.bipush 61, 2) := by decide +kernel
theorem d_M_rule_76 : decode b_M_rule 76 = .ok (.if_icmp .eq 20, 3) := by decide +kernel
theorem d_M_rule_79 : decode b_M_rule 79 = .ok (.aload_n 0, 1) := by decide +kernel
theorem d_M_rule_80 : decode b_M_rule 80 = .ok (.invokevirtual 132, 3) := by decide +kernel
theorem d_M_rule_83 : decode b_M_rule 83 = .ok (.bipush 33, 2) := by decide +kernel
theorem d_M_rule_85 : decode b_M_rule 85 = .ok (.if_icmp .eq 11, 3) := by decide +kernel
theorem d_M_rule_88 : decode b_M_rule 88 = .ok (.aload_n 0, 1) := by decide +kernel
theorem d_M_rule_89 : decode b_M_rule 89 = .ok (.aload_n 0, 1) := by decide +kernel
theorem d_M_rule_90 : decode b_M_rule 90 = .ok (.getfield 129, 3) := by decide +kernel
theorem d_M_rule_93 : decode b_M_rule 93 = .ok (.invokevirtual 146, 3) := by decide +kernel
theorem d_M_rule_96 : decode b_M_rule 96 = .ok (.aload_n 0, 1) := by decide +kernel
theorem d_M_rule_97 : decode b_M_rule 97 = .ok (.getfield 136, 3) := by decide +kernel
theorem d_M_rule_100 : decode b_M_rule 100 = .ok (.ifCond .lt 4, 3) := by decide +kernel
theorem d_M_rule_103 : decode b_M_rule 103 = .ok (.return_, 1) := by decide +kernel
theorem d_M_rule_104 : decode b_M_rule 104 = .ok (.aload_n 0, 1) := by decide +kernel
theorem d_M_rule_105 : decode b_M_rule 105 = .ok (.getfield 72, 3) := by decide +kernel
theorem d_M_rule_108 : decode b_M_rule 108 = .ok (.aload_n 0, 1) := by decide +kernel
theorem d_M_rule_109 : decode b_M_rule 109 = .ok (.getfield 157, 3) := by decide +kernel
theorem d_M_rule_112 : decode b_M_rule 112 = .ok (.aload_n 0, 1) := by decide +kernel
theorem d_M_rule_113 : decode b_M_rule 113 = .ok (.invokevirtual 132, 3) := by decide +kernel
theorem d_M_rule_116 : decode b_M_rule 116 = .ok (.iastore, 1) := by decide +kernel
theorem d_M_rule_117 : decode b_M_rule 117 = .ok (.aload_n 0, 1) := by decide +kernel
theorem d_M_rule_118 : decode b_M_rule 118 = .ok (.dup, 1) := by decide +kernel
theorem d_M_rule_119 : decode b_M_rule 119 = .ok (.getfield 129, 3) := by decide +kernel
theorem d_M_rule_122 : decode b_M_rule 122 = .ok (.iconst 1, 1) := by decide +kernel
theorem d_M_rule_123 : decode b_M_rule 123 = .ok (.iadd, 1) := by decide +kernel
theorem d_M_rule_124 : decode b_M_rule 124 = .ok (.putfield 129, 3) := by decide +kernel
theorem d_M_rule_127 : decode b_M_rule 127 = .ok (.aload_n 0, 1) := by decide +kernel
theorem d_M_rule_128 : decode b_M_rule 128 = .ok (.iload_n 1, 1) := by decide +kernel
theorem d_M_rule_129 : decode b_M_rule 129 = .ok (.iconst 4, 1) := by decide +kernel
theorem d_M_rule_130 : decode b_M_rule 130 = .ok (.iadd, 1) := by decide +kernel
theorem d_M_rule_131 : decode b_M_rule 131 = .ok (.invokevirtual 160, 3) := by decide +kernel
theorem d_M_rule_134 : decode b_M_rule 134 = .ok (.aload_n 0, 1) := by decide +kernel
theorem d_M_rule_135 : decode b_M_rule 135 = .ok (.getfield 136, 3) := by decide +kernel
theorem d_M_rule_138 : decode b_M_rule 138 = .ok (.ifCond .ge 20, 3) := by decide +kernel
theorem d_M_rule_141 : decode b_M_rule 141 = .ok (.aload_n 0, 1) := by decide +kernel
theorem d_M_rule_142 : decode b_M_rule 142 = .ok (.invokevirtual 139, 3) := by decide +kernel
theorem d_M_rule_145 : decode b_M_rule 145 = .ok (.bipush 59, 2) := by decide +kernel
theorem d_M_rule_147 : decode b_M_rule 147 = .ok (.if_icmp .eq 11, 3) := by decide +kernel
theorem d_M_rule_150 : decode b_M_rule 150 = .ok (.aload_n 0, 1) := by decide +kernel
theorem d_M_rule_151 : decode b_M_rule 151 = .ok (.aload_n 0, 1) := by decide +kernel
theorem d_M_rule_152 : decode b_M_rule 152 = .ok (.getfield 129, 3) := by decide +kernel
theorem d_M_rule_155 : decode b_M_rule 155 = .ok (.invokevirtual 146, 3) := by decide +kernel
theorem d_M_rule_158 : decode b_M_rule 158 = .ok (.aload_n 0, 1) := by decide +kernel
theorem d_M_rule_159 : decode b_M_rule 159 = .ok (.getfield 136, 3) := by decide +kernel
theorem d_M_rule_162 : decode b_M_rule 162 = .ok (.ifCond .lt 4, 3) := by decide +kernel
theorem d_M_rule_165 : decode b_M_rule 165 = .ok (.return_, 1) := by decide +kernel
theorem d_M_rule_166 : decode b_M_rule 166 = .ok (.aload_n 0, 1) := by decide +kernel
theorem d_M_rule_167 : decode b_M_rule 167 = .ok (.dup, 1) := by decide +kernel
theorem d_M_rule_168 : decode b_M_rule 168 = .ok (.getfield 129, 3) := by decide +kernel
theorem d_M_rule_171 : decode b_M_rule 171 = .ok (.iconst 1, 1) := by decide +kernel
theorem d_M_rule_172 : decode b_M_rule 172 = .ok (.iadd, 1) := by decide +kernel
theorem d_M_rule_173 : decode b_M_rule 173 = .ok (.putfield 129, 3) := by decide +kernel
theorem d_M_rule_176 : decode b_M_rule 176 = .ok (.aload_n 0, 1) := by decide +kernel
theorem d_M_rule_177 : decode b_M_rule 177 = .ok (.dup, 1) := by decide +kernel
theorem d_M_rule_178 : decode b_M_rule 178 = .ok (.getfield 157, 3) := by decide +kernel
theorem d_M_rule_181 : decode b_M_rule 181 = .ok (.iconst 1, 1) := by decide +kernel
theorem d_M_rule_182 : decode b_M_rule 182 = .ok (.iadd, 1) := by decide +kernel
theorem d_M_rule_183 : decode b_M_rule 183 = .ok (.putfield 157, 3) := by decide +kernel
theorem d_M_rule_186 : decode b_M_rule 186 = .ok (.return_, 1) := by decide +kernel
def y_M_rules : MethodName := ⟨cR6, "rules", "()I"⟩
abbrev b_M_rules : ByteArray := prog_8_method_23_code
abbrev k_M_rules : Cond := .code y_M_rules b_M_rules 2 (some .int)
theorem mc_M_rules : MC y_M_rules k_M_rules b_M_rules 2 (some .int) [] 0 := ⟨g_in (List.mem_of_getElem? (i := 916) (by decide +kernel)) (by decide +kernel), Or.inl ⟨rfl, rfl⟩, g_in (List.mem_of_getElem? (i := 62) (by decide +kernel)) (by decide +kernel), by decide, by decide +kernel⟩
theorem in_M_rules : Cond.instanceMethod y_M_rules ∈ g_ws := g_in (List.mem_of_getElem? (i := 914) (by decide +kernel)) (by decide +kernel)
theorem se_M_rules : Cond.selects cR6 y_M_rules y_M_rules ∈ g_ws := g_in (List.mem_of_getElem? (i := 915) (by decide +kernel)) (by decide +kernel)
theorem d_M_rules_0 : decode b_M_rules 0 = .ok (.aload_n 0, 1) := by decide +kernel
theorem d_M_rules_1 : decode b_M_rules 1 = .ok (.iconst 0, 1) := by decide +kernel
theorem d_M_rules_2 : decode b_M_rules 2 = .ok (.putfield 157, 3) := by decide +kernel
theorem d_M_rules_5 : decode b_M_rules 5 = .ok (.aload_n 0, 1) := by decide +kernel
theorem d_M_rules_6 : decode b_M_rules 6 = .ok (.iconst 0, 1) := by decide +kernel
theorem d_M_rules_7 : decode b_M_rules 7 = .ok (.putfield 129, 3) := by decide +kernel
theorem d_M_rules_10 : decode b_M_rules 10 = .ok (.aload_n 0, 1) := by decide +kernel
theorem d_M_rules_11 : decode b_M_rules 11 = .ok (.iconst (-1), 1) := by decide +kernel
theorem d_M_rules_12 : decode b_M_rules 12 = .ok (.putfield 136, 3) := by decide +kernel
theorem d_M_rules_15 : decode b_M_rules 15 = .ok (.aload_n 0, 1) := by decide +kernel
theorem d_M_rules_16 : decode b_M_rules 16 = .ok (.getfield 136, 3) := by decide +kernel
theorem d_M_rules_19 : decode b_M_rules 19 = .ok (.ifCond .ge 17, 3) := by decide +kernel
theorem d_M_rules_22 : decode b_M_rules 22 = .ok (.aload_n 0, 1) := by decide +kernel
theorem d_M_rules_23 : decode b_M_rules 23 = .ok (.invokevirtual 139, 3) := by decide +kernel
theorem d_M_rules_26 : decode b_M_rules 26 = .ok (.ifCond .lt 10, 3) := by decide +kernel
theorem d_M_rules_29 : decode b_M_rules 29 = .ok (.aload_n 0, 1) := by decide +kernel
theorem d_M_rules_30 : decode b_M_rules 30 = .ok (.invokevirtual 163, 3) := by decide +kernel
theorem d_M_rules_33 : decode b_M_rules 33 = .ok (.goto (-18), 3) := by decide +kernel
theorem d_M_rules_36 : decode b_M_rules 36 = .ok (.aload_n 0, 1) := by decide +kernel
theorem d_M_rules_37 : decode b_M_rules 37 = .ok (.iconst 0, 1) := by decide +kernel
theorem d_M_rules_38 : decode b_M_rules 38 = .ok (.putfield 126, 3) := by decide +kernel
theorem d_M_rules_41 : decode b_M_rules 41 = .ok (.aload_n 0, 1) := by decide +kernel
theorem d_M_rules_42 : decode b_M_rules 42 = .ok (.aload_n 0, 1) := by decide +kernel
theorem d_M_rules_43 : decode b_M_rules 43 = .ok (.getfield 136, 3) := by decide +kernel
theorem d_M_rules_46 : decode b_M_rules 46 = .ok (.putfield 53, 3) := by decide +kernel
theorem d_M_rules_49 : decode b_M_rules 49 = .ok (.aload_n 0, 1) := by decide +kernel
theorem d_M_rules_50 : decode b_M_rules 50 = .ok (.aload_n 0, 1) := by decide +kernel
theorem d_M_rules_51 : decode b_M_rules 51 = .ok (.getfield 136, 3) := by decide +kernel
theorem d_M_rules_54 : decode b_M_rules 54 = .ok (.ifCond .ge 7, 3) := by decide +kernel
theorem d_M_rules_57 : decode b_M_rules 57 = .ok (.iconst 1, 1) := by decide +kernel
theorem d_M_rules_58 : decode b_M_rules 58 = .ok (.goto 4, 3) := by decide +kernel
theorem d_M_rules_61 : decode b_M_rules 61 = .ok (.iconst 0, 1) := by decide +kernel
theorem d_M_rules_62 : decode b_M_rules 62 = .ok (.iconst 1, 1) := by decide +kernel
theorem d_M_rules_63 : decode b_M_rules 63 = .ok (.iconst 1, 1) := by decide +kernel
theorem d_M_rules_64 : decode b_M_rules 64 = .ok (.invokevirtual 109, 3) := by decide +kernel
theorem d_M_rules_67 : decode b_M_rules 67 = .ok (.ifCond .ne 5, 3) := by decide +kernel
theorem d_M_rules_70 : decode b_M_rules 70 = .ok (.iconst 0, 1) := by decide +kernel
theorem d_M_rules_71 : decode b_M_rules 71 = .ok (.ireturn, 1) := by decide +kernel
theorem d_M_rules_72 : decode b_M_rules 72 = .ok (.aload_n 0, 1) := by decide +kernel
theorem d_M_rules_73 : decode b_M_rules 73 = .ok (.aload_n 0, 1) := by decide +kernel
theorem d_M_rules_74 : decode b_M_rules 74 = .ok (.getfield 157, 3) := by decide +kernel
theorem d_M_rules_77 : decode b_M_rules 77 = .ok (.putfield 166, 3) := by decide +kernel
theorem d_M_rules_80 : decode b_M_rules 80 = .ok (.iconst 0, 1) := by decide +kernel
theorem d_M_rules_81 : decode b_M_rules 81 = .ok (.istore_n 1, 1) := by decide +kernel
theorem d_M_rules_82 : decode b_M_rules 82 = .ok (.iload_n 1, 1) := by decide +kernel
theorem d_M_rules_83 : decode b_M_rules 83 = .ok (.bipush 20, 2) := by decide +kernel
theorem d_M_rules_85 : decode b_M_rules 85 = .ok (.if_icmp .ge 21, 3) := by decide +kernel
theorem d_M_rules_88 : decode b_M_rules 88 = .ok (.aload_n 0, 1) := by decide +kernel
theorem d_M_rules_89 : decode b_M_rules 89 = .ok (.getfield 57, 3) := by decide +kernel
theorem d_M_rules_92 : decode b_M_rules 92 = .ok (.iload_n 1, 1) := by decide +kernel
theorem d_M_rules_93 : decode b_M_rules 93 = .ok (.aload_n 0, 1) := by decide +kernel
theorem d_M_rules_94 : decode b_M_rules 94 = .ok (.getfield 72, 3) := by decide +kernel
theorem d_M_rules_97 : decode b_M_rules 97 = .ok (.iload_n 1, 1) := by decide +kernel
theorem d_M_rules_98 : decode b_M_rules 98 = .ok (.iaload, 1) := by decide +kernel
theorem d_M_rules_99 : decode b_M_rules 99 = .ok (.iastore, 1) := by decide +kernel
theorem d_M_rules_100 : decode b_M_rules 100 = .ok (.iinc 1 1, 3) := by decide +kernel
theorem d_M_rules_103 : decode b_M_rules 103 = .ok (.goto (-21), 3) := by decide +kernel
theorem d_M_rules_106 : decode b_M_rules 106 = .ok (.iconst 0, 1) := by decide +kernel
theorem d_M_rules_107 : decode b_M_rules 107 = .ok (.istore_n 1, 1) := by decide +kernel
theorem d_M_rules_108 : decode b_M_rules 108 = .ok (.iload_n 1, 1) := by decide +kernel
theorem d_M_rules_109 : decode b_M_rules 109 = .ok (.sipush 160, 3) := by decide +kernel
theorem d_M_rules_112 : decode b_M_rules 112 = .ok (.if_icmp .ge 57, 3) := by decide +kernel
theorem d_M_rules_115 : decode b_M_rules 115 = .ok (.aload_n 0, 1) := by decide +kernel
theorem d_M_rules_116 : decode b_M_rules 116 = .ok (.getfield 60, 3) := by decide +kernel
theorem d_M_rules_119 : decode b_M_rules 119 = .ok (.iload_n 1, 1) := by decide +kernel
theorem d_M_rules_120 : decode b_M_rules 120 = .ok (.aload_n 0, 1) := by decide +kernel
theorem d_M_rules_121 : decode b_M_rules 121 = .ok (.getfield 75, 3) := by decide +kernel
theorem d_M_rules_124 : decode b_M_rules 124 = .ok (.iload_n 1, 1) := by decide +kernel
theorem d_M_rules_125 : decode b_M_rules 125 = .ok (.iaload, 1) := by decide +kernel
theorem d_M_rules_126 : decode b_M_rules 126 = .ok (.iastore, 1) := by decide +kernel
theorem d_M_rules_127 : decode b_M_rules 127 = .ok (.aload_n 0, 1) := by decide +kernel
theorem d_M_rules_128 : decode b_M_rules 128 = .ok (.getfield 63, 3) := by decide +kernel
theorem d_M_rules_131 : decode b_M_rules 131 = .ok (.iload_n 1, 1) := by decide +kernel
theorem d_M_rules_132 : decode b_M_rules 132 = .ok (.aload_n 0, 1) := by decide +kernel
theorem d_M_rules_133 : decode b_M_rules 133 = .ok (.getfield 78, 3) := by decide +kernel
theorem d_M_rules_136 : decode b_M_rules 136 = .ok (.iload_n 1, 1) := by decide +kernel
theorem d_M_rules_137 : decode b_M_rules 137 = .ok (.iaload, 1) := by decide +kernel
theorem d_M_rules_138 : decode b_M_rules 138 = .ok (.iastore, 1) := by decide +kernel
theorem d_M_rules_139 : decode b_M_rules 139 = .ok (.aload_n 0, 1) := by decide +kernel
theorem d_M_rules_140 : decode b_M_rules 140 = .ok (.getfield 66, 3) := by decide +kernel
theorem d_M_rules_143 : decode b_M_rules 143 = .ok (.iload_n 1, 1) := by decide +kernel
theorem d_M_rules_144 : decode b_M_rules 144 = .ok (.aload_n 0, 1) := by decide +kernel
theorem d_M_rules_145 : decode b_M_rules 145 = .ok (.getfield 81, 3) := by decide +kernel
theorem d_M_rules_148 : decode b_M_rules 148 = .ok (.iload_n 1, 1) := by decide +kernel
theorem d_M_rules_149 : decode b_M_rules 149 = .ok (.iaload, 1) := by decide +kernel
theorem d_M_rules_150 : decode b_M_rules 150 = .ok (.iastore, 1) := by decide +kernel
theorem d_M_rules_151 : decode b_M_rules 151 = .ok (.aload_n 0, 1) := by decide +kernel
theorem d_M_rules_152 : decode b_M_rules 152 = .ok (.getfield 69, 3) := by decide +kernel
theorem d_M_rules_155 : decode b_M_rules 155 = .ok (.iload_n 1, 1) := by decide +kernel
theorem d_M_rules_156 : decode b_M_rules 156 = .ok (.aload_n 0, 1) := by decide +kernel
theorem d_M_rules_157 : decode b_M_rules 157 = .ok (.getfield 84, 3) := by decide +kernel
theorem d_M_rules_160 : decode b_M_rules 160 = .ok (.iload_n 1, 1) := by decide +kernel
theorem d_M_rules_161 : decode b_M_rules 161 = .ok (.baload, 1) := by decide +kernel
theorem d_M_rules_162 : decode b_M_rules 162 = .ok (.bastore, 1) := by decide +kernel
theorem d_M_rules_163 : decode b_M_rules 163 = .ok (.iinc 1 1, 3) := by decide +kernel
theorem d_M_rules_166 : decode b_M_rules 166 = .ok (.goto (-58), 3) := by decide +kernel
theorem d_M_rules_169 : decode b_M_rules 169 = .ok (.aload_n 0, 1) := by decide +kernel
theorem d_M_rules_170 : decode b_M_rules 170 = .ok (.getfield 166, 3) := by decide +kernel
theorem d_M_rules_173 : decode b_M_rules 173 = .ok (.ireturn, 1) := by decide +kernel
def y_M_place : MethodName := ⟨cR6, "place", "()I"⟩
abbrev b_M_place : ByteArray := prog_8_method_24_code
abbrev k_M_place : Cond := .code y_M_place b_M_place 1 (some .int)
theorem mc_M_place : MC y_M_place k_M_place b_M_place 1 (some .int) [] 0 := ⟨g_in (List.mem_of_getElem? (i := 952) (by decide +kernel)) (by decide +kernel), Or.inl ⟨rfl, rfl⟩, g_in (List.mem_of_getElem? (i := 62) (by decide +kernel)) (by decide +kernel), by decide, by decide +kernel⟩
theorem in_M_place : Cond.instanceMethod y_M_place ∈ g_ws := g_in (List.mem_of_getElem? (i := 950) (by decide +kernel)) (by decide +kernel)
theorem se_M_place : Cond.selects cR6 y_M_place y_M_place ∈ g_ws := g_in (List.mem_of_getElem? (i := 951) (by decide +kernel)) (by decide +kernel)
theorem d_M_place_0 : decode b_M_place 0 = .ok (.aload_n 0, 1) := by decide +kernel
theorem d_M_place_1 : decode b_M_place 1 = .ok (.iconst 0, 1) := by decide +kernel
theorem d_M_place_2 : decode b_M_place 2 = .ok (.putfield 96, 3) := by decide +kernel
theorem d_M_place_5 : decode b_M_place 5 = .ok (.aload_n 0, 1) := by decide +kernel
theorem d_M_place_6 : decode b_M_place 6 = .ok (.getfield 53, 3) := by decide +kernel
theorem d_M_place_9 : decode b_M_place 9 = .ok (.ireturn, 1) := by decide +kernel
def y_M_has : MethodName := ⟨cR6, "has", "(II)Z"⟩
abbrev b_M_has : ByteArray := prog_8_method_25_code
abbrev k_M_has : Cond := .code y_M_has b_M_has 3 (some .boolean)
theorem mc_M_has : MC y_M_has k_M_has b_M_has 3 (some .boolean) [] 2 := ⟨g_in (List.mem_of_getElem? (i := 972) (by decide +kernel)) (by decide +kernel), Or.inl ⟨rfl, rfl⟩, g_in (List.mem_of_getElem? (i := 62) (by decide +kernel)) (by decide +kernel), by decide, by decide +kernel⟩
theorem in_M_has : Cond.instanceMethod y_M_has ∈ g_ws := g_in (List.mem_of_getElem? (i := 971) (by decide +kernel)) (by decide +kernel)
theorem se_M_has : Cond.selects cR6 y_M_has y_M_has ∈ g_ws := g_in (List.mem_of_getElem? (i := 49) (by decide +kernel)) (by decide +kernel)
theorem d_M_has_0 : decode b_M_has 0 = .ok (.iload_n 2, 1) := by decide +kernel
theorem d_M_has_1 : decode b_M_has 1 = .ok (.ifCond .ge 19, 3) := by decide +kernel
theorem d_M_has_4 : decode b_M_has 4 = .ok (.aload_n 0, 1) := by decide +kernel
theorem d_M_has_5 : decode b_M_has 5 = .ok (.getfield 31, 3) := by decide +kernel
theorem d_M_has_8 : decode b_M_has 8 = .ok (.bipush 20, 2) := by decide +kernel
theorem d_M_has_10 : decode b_M_has 10 = .ok (.iload_n 1, 1) := by decide +kernel
theorem d_M_has_11 : decode b_M_has 11 = .ok (.imul, 1) := by decide +kernel
theorem d_M_has_12 : decode b_M_has 12 = .ok (.iconst 1, 1) := by decide +kernel
theorem d_M_has_13 : decode b_M_has 13 = .ok (.isub, 1) := by decide +kernel
theorem d_M_has_14 : decode b_M_has 14 = .ok (.iload_n 2, 1) := by decide +kernel
theorem d_M_has_15 : decode b_M_has 15 = .ok (.isub, 1) := by decide +kernel
theorem d_M_has_16 : decode b_M_has 16 = .ok (.baload, 1) := by decide +kernel
theorem d_M_has_17 : decode b_M_has 17 = .ok (.ifCond .eq 7, 3) := by decide +kernel
theorem d_M_has_20 : decode b_M_has 20 = .ok (.iconst 1, 1) := by decide +kernel
theorem d_M_has_21 : decode b_M_has 21 = .ok (.goto 4, 3) := by decide +kernel
theorem d_M_has_24 : decode b_M_has 24 = .ok (.iconst 0, 1) := by decide +kernel
theorem d_M_has_25 : decode b_M_has 25 = .ok (.ireturn, 1) := by decide +kernel
def y_M_of : MethodName := ⟨cR6, "of", "(II)I"⟩
abbrev b_M_of : ByteArray := prog_8_method_26_code
abbrev k_M_of : Cond := .code y_M_of b_M_of 3 (some .int)
theorem mc_M_of : MC y_M_of k_M_of b_M_of 3 (some .int) [] 2 := ⟨g_in (List.mem_of_getElem? (i := 980) (by decide +kernel)) (by decide +kernel), Or.inl ⟨rfl, rfl⟩, g_in (List.mem_of_getElem? (i := 62) (by decide +kernel)) (by decide +kernel), by decide, by decide +kernel⟩
theorem in_M_of : Cond.instanceMethod y_M_of ∈ g_ws := g_in (List.mem_of_getElem? (i := 979) (by decide +kernel)) (by decide +kernel)
theorem se_M_of : Cond.selects cR6 y_M_of y_M_of ∈ g_ws := g_in (List.mem_of_getElem? (i := 51) (by decide +kernel)) (by decide +kernel)
theorem d_M_of_0 : decode b_M_of 0 = .ok (.iload_n 2, 1) := by decide +kernel
theorem d_M_of_1 : decode b_M_of 1 = .ok (.ifCond .lt 7, 3) := by decide +kernel
theorem d_M_of_4 : decode b_M_of 4 = .ok (.iload_n 2, 1) := by decide +kernel
theorem d_M_of_5 : decode b_M_of 5 = .ok (.goto 16, 3) := by decide +kernel
theorem d_M_of_8 : decode b_M_of 8 = .ok (.aload_n 0, 1) := by decide +kernel
theorem d_M_of_9 : decode b_M_of 9 = .ok (.getfield 41, 3) := by decide +kernel
theorem d_M_of_12 : decode b_M_of 12 = .ok (.bipush 20, 2) := by decide +kernel
theorem d_M_of_14 : decode b_M_of 14 = .ok (.iload_n 1, 1) := by decide +kernel
theorem d_M_of_15 : decode b_M_of 15 = .ok (.imul, 1) := by decide +kernel
theorem d_M_of_16 : decode b_M_of 16 = .ok (.iconst 1, 1) := by decide +kernel
theorem d_M_of_17 : decode b_M_of 17 = .ok (.isub, 1) := by decide +kernel
theorem d_M_of_18 : decode b_M_of 18 = .ok (.iload_n 2, 1) := by decide +kernel
theorem d_M_of_19 : decode b_M_of 19 = .ok (.isub, 1) := by decide +kernel
theorem d_M_of_20 : decode b_M_of 20 = .ok (.iaload, 1) := by decide +kernel
theorem d_M_of_21 : decode b_M_of 21 = .ok (.ireturn, 1) := by decide +kernel
def y_M_isAsked : MethodName := ⟨cR6, "isAsked", "(II)Z"⟩
abbrev b_M_isAsked : ByteArray := prog_8_method_27_code
abbrev k_M_isAsked : Cond := .code y_M_isAsked b_M_isAsked 4 (some .boolean)
theorem mc_M_isAsked : MC y_M_isAsked k_M_isAsked b_M_isAsked 4 (some .boolean) [] 2 := ⟨g_in (List.mem_of_getElem? (i := 968) (by decide +kernel)) (by decide +kernel), Or.inl ⟨rfl, rfl⟩, g_in (List.mem_of_getElem? (i := 62) (by decide +kernel)) (by decide +kernel), by decide, by decide +kernel⟩
theorem in_M_isAsked : Cond.instanceMethod y_M_isAsked ∈ g_ws := g_in (List.mem_of_getElem? (i := 967) (by decide +kernel)) (by decide +kernel)
theorem se_M_isAsked : Cond.selects cR6 y_M_isAsked y_M_isAsked ∈ g_ws := g_in (List.mem_of_getElem? (i := 48) (by decide +kernel)) (by decide +kernel)
theorem d_M_isAsked_0 : decode b_M_isAsked 0 = .ok (.bipush 8, 2) := by decide +kernel
theorem d_M_isAsked_2 : decode b_M_isAsked 2 = .ok (.iload_n 2, 1) := by decide +kernel
theorem d_M_isAsked_3 : decode b_M_isAsked 3 = .ok (.imul, 1) := by decide +kernel
theorem d_M_isAsked_4 : decode b_M_isAsked 4 = .ok (.istore_n 3, 1) := by decide +kernel
theorem d_M_isAsked_5 : decode b_M_isAsked 5 = .ok (.iload_n 3, 1) := by decide +kernel
theorem d_M_isAsked_6 : decode b_M_isAsked 6 = .ok (.bipush 8, 2) := by decide +kernel
theorem d_M_isAsked_8 : decode b_M_isAsked 8 = .ok (.iload_n 2, 1) := by decide +kernel
theorem d_M_isAsked_9 : decode b_M_isAsked 9 = .ok (.imul, 1) := by decide +kernel
theorem d_M_isAsked_10 : decode b_M_isAsked 10 = .ok (.bipush 8, 2) := by decide +kernel
theorem d_M_isAsked_12 : decode b_M_isAsked 12 = .ok (.iadd, 1) := by decide +kernel
theorem d_M_isAsked_13 : decode b_M_isAsked 13 = .ok (.if_icmp .ge 57, 3) := by decide +kernel
theorem d_M_isAsked_16 : decode b_M_isAsked 16 = .ok (.aload_n 0, 1) := by decide +kernel
theorem d_M_isAsked_17 : decode b_M_isAsked 17 = .ok (.getfield 60, 3) := by decide +kernel
theorem d_M_isAsked_20 : decode b_M_isAsked 20 = .ok (.iload_n 3, 1) := by decide +kernel
theorem d_M_isAsked_21 : decode b_M_isAsked 21 = .ok (.iaload, 1) := by decide +kernel
theorem d_M_isAsked_22 : decode b_M_isAsked 22 = .ok (.ifCond .le 42, 3) := by decide +kernel
theorem d_M_isAsked_25 : decode b_M_isAsked 25 = .ok (.aload_n 0, 1) := by decide +kernel
theorem d_M_isAsked_26 : decode b_M_isAsked 26 = .ok (.iload_n 1, 1) := by decide +kernel
theorem d_M_isAsked_27 : decode b_M_isAsked 27 = .ok (.aload_n 0, 1) := by decide +kernel
theorem d_M_isAsked_28 : decode b_M_isAsked 28 = .ok (.getfield 63, 3) := by decide +kernel
theorem d_M_isAsked_31 : decode b_M_isAsked 31 = .ok (.iload_n 3, 1) := by decide +kernel
theorem d_M_isAsked_32 : decode b_M_isAsked 32 = .ok (.iaload, 1) := by decide +kernel
theorem d_M_isAsked_33 : decode b_M_isAsked 33 = .ok (.invokevirtual 169, 3) := by decide +kernel
theorem d_M_isAsked_36 : decode b_M_isAsked 36 = .ok (.ifCond .eq 26, 3) := by decide +kernel
theorem d_M_isAsked_39 : decode b_M_isAsked 39 = .ok (.aload_n 0, 1) := by decide +kernel
theorem d_M_isAsked_40 : decode b_M_isAsked 40 = .ok (.getfield 69, 3) := by decide +kernel
theorem d_M_isAsked_43 : decode b_M_isAsked 43 = .ok (.iload_n 3, 1) := by decide +kernel
theorem d_M_isAsked_44 : decode b_M_isAsked 44 = .ok (.baload, 1) := by decide +kernel
theorem d_M_isAsked_45 : decode b_M_isAsked 45 = .ok (.ifCond .eq 19, 3) := by decide +kernel
theorem d_M_isAsked_48 : decode b_M_isAsked 48 = .ok (.aload_n 0, 1) := by decide +kernel
theorem d_M_isAsked_49 : decode b_M_isAsked 49 = .ok (.iload_n 1, 1) := by decide +kernel
theorem d_M_isAsked_50 : decode b_M_isAsked 50 = .ok (.aload_n 0, 1) := by decide +kernel
theorem d_M_isAsked_51 : decode b_M_isAsked 51 = .ok (.getfield 66, 3) := by decide +kernel
theorem d_M_isAsked_54 : decode b_M_isAsked 54 = .ok (.iload_n 3, 1) := by decide +kernel
theorem d_M_isAsked_55 : decode b_M_isAsked 55 = .ok (.iaload, 1) := by decide +kernel
theorem d_M_isAsked_56 : decode b_M_isAsked 56 = .ok (.invokevirtual 169, 3) := by decide +kernel
theorem d_M_isAsked_59 : decode b_M_isAsked 59 = .ok (.ifCond .ne 5, 3) := by decide +kernel
theorem d_M_isAsked_62 : decode b_M_isAsked 62 = .ok (.iconst 0, 1) := by decide +kernel
theorem d_M_isAsked_63 : decode b_M_isAsked 63 = .ok (.ireturn, 1) := by decide +kernel
theorem d_M_isAsked_64 : decode b_M_isAsked 64 = .ok (.iinc 3 1, 3) := by decide +kernel
theorem d_M_isAsked_67 : decode b_M_isAsked 67 = .ok (.goto (-62), 3) := by decide +kernel
theorem d_M_isAsked_70 : decode b_M_isAsked 70 = .ok (.iconst 1, 1) := by decide +kernel
theorem d_M_isAsked_71 : decode b_M_isAsked 71 = .ok (.ireturn, 1) := by decide +kernel
def y_M_reckon : MethodName := ⟨cR6, "reckon", "(II)I"⟩
abbrev b_M_reckon : ByteArray := prog_8_method_28_code
abbrev k_M_reckon : Cond := .code y_M_reckon b_M_reckon 7 (some .int)
theorem mc_M_reckon : MC y_M_reckon k_M_reckon b_M_reckon 7 (some .int) [] 2 := ⟨g_in (List.mem_of_getElem? (i := 976) (by decide +kernel)) (by decide +kernel), Or.inl ⟨rfl, rfl⟩, g_in (List.mem_of_getElem? (i := 62) (by decide +kernel)) (by decide +kernel), by decide, by decide +kernel⟩
theorem in_M_reckon : Cond.instanceMethod y_M_reckon ∈ g_ws := g_in (List.mem_of_getElem? (i := 975) (by decide +kernel)) (by decide +kernel)
theorem se_M_reckon : Cond.selects cR6 y_M_reckon y_M_reckon ∈ g_ws := g_in (List.mem_of_getElem? (i := 50) (by decide +kernel)) (by decide +kernel)
theorem d_M_reckon_0 : decode b_M_reckon 0 = .ok (.iconst 0, 1) := by decide +kernel
theorem d_M_reckon_1 : decode b_M_reckon 1 = .ok (.istore_n 3, 1) := by decide +kernel
theorem d_M_reckon_2 : decode b_M_reckon 2 = .ok (.iload_n 2, 1) := by decide +kernel
theorem d_M_reckon_3 : decode b_M_reckon 3 = .ok (.istore 4, 2) := by decide +kernel
theorem d_M_reckon_5 : decode b_M_reckon 5 = .ok (.iload 4, 2) := by decide +kernel
theorem d_M_reckon_7 : decode b_M_reckon 7 = .ok (.iload_n 2, 1) := by decide +kernel
theorem d_M_reckon_8 : decode b_M_reckon 8 = .ok (.iconst 4, 1) := by decide +kernel
theorem d_M_reckon_9 : decode b_M_reckon 9 = .ok (.iadd, 1) := by decide +kernel
theorem d_M_reckon_10 : decode b_M_reckon 10 = .ok (.if_icmp .ge 120, 3) := by decide +kernel
theorem d_M_reckon_13 : decode b_M_reckon 13 = .ok (.aload_n 0, 1) := by decide +kernel
theorem d_M_reckon_14 : decode b_M_reckon 14 = .ok (.getfield 60, 3) := by decide +kernel
theorem d_M_reckon_17 : decode b_M_reckon 17 = .ok (.iload 4, 2) := by decide +kernel
theorem d_M_reckon_19 : decode b_M_reckon 19 = .ok (.iaload, 1) := by decide +kernel
theorem d_M_reckon_20 : decode b_M_reckon 20 = .ok (.ifCond .ne 6, 3) := by decide +kernel
theorem d_M_reckon_23 : decode b_M_reckon 23 = .ok (.goto 101, 3) := by decide +kernel
theorem d_M_reckon_26 : decode b_M_reckon 26 = .ok (.aload_n 0, 1) := by decide +kernel
theorem d_M_reckon_27 : decode b_M_reckon 27 = .ok (.iload_n 1, 1) := by decide +kernel
theorem d_M_reckon_28 : decode b_M_reckon 28 = .ok (.aload_n 0, 1) := by decide +kernel
theorem d_M_reckon_29 : decode b_M_reckon 29 = .ok (.getfield 63, 3) := by decide +kernel
theorem d_M_reckon_32 : decode b_M_reckon 32 = .ok (.iload 4, 2) := by decide +kernel
theorem d_M_reckon_34 : decode b_M_reckon 34 = .ok (.iaload, 1) := by decide +kernel
theorem d_M_reckon_35 : decode b_M_reckon 35 = .ok (.invokevirtual 173, 3) := by decide +kernel
theorem d_M_reckon_38 : decode b_M_reckon 38 = .ok (.istore 5, 2) := by decide +kernel
theorem d_M_reckon_40 : decode b_M_reckon 40 = .ok (.aload_n 0, 1) := by decide +kernel
theorem d_M_reckon_41 : decode b_M_reckon 41 = .ok (.getfield 69, 3) := by decide +kernel
theorem d_M_reckon_44 : decode b_M_reckon 44 = .ok (.iload 4, 2) := by decide +kernel
theorem d_M_reckon_46 : decode b_M_reckon 46 = .ok (.baload, 1) := by decide +kernel
theorem d_M_reckon_47 : decode b_M_reckon 47 = .ok (.ifCond .eq 54, 3) := by decide +kernel
theorem d_M_reckon_50 : decode b_M_reckon 50 = .ok (.aload_n 0, 1) := by decide +kernel
theorem d_M_reckon_51 : decode b_M_reckon 51 = .ok (.iload_n 1, 1) := by decide +kernel
theorem d_M_reckon_52 : decode b_M_reckon 52 = .ok (.aload_n 0, 1) := by decide +kernel
theorem d_M_reckon_53 : decode b_M_reckon 53 = .ok (.getfield 66, 3) := by decide +kernel
theorem d_M_reckon_56 : decode b_M_reckon 56 = .ok (.iload 4, 2) := by decide +kernel
theorem d_M_reckon_58 : decode b_M_reckon 58 = .ok (.iaload, 1) := by decide +kernel
theorem d_M_reckon_59 : decode b_M_reckon 59 = .ok (.invokevirtual 173, 3) := by decide +kernel
theorem d_M_reckon_62 : decode b_M_reckon 62 = .ok (.istore 6, 2) := by decide +kernel
theorem d_M_reckon_64 : decode b_M_reckon 64 = .ok (.aload_n 0, 1) := by decide +kernel
theorem d_M_reckon_65 : decode b_M_reckon 65 = .ok (.aload_n 0, 1) := by decide +kernel
theorem d_M_reckon_66 : decode b_M_reckon 66 = .ok (.getfield 177, 3) := by decide +kernel
theorem d_M_reckon_69 : decode b_M_reckon 69 = .ok (.ifCond .ne 8, 3) := by decide +kernel
theorem d_M_reckon_72 : decode b_M_reckon 72 = .ok (.iload 6, 2) := by decide +kernel
theorem d_M_reckon_74 : decode b_M_reckon 74 = .ok (.ifCond .ne 7, 3) := by decide +kernel
theorem d_M_reckon_77 : decode b_M_reckon 77 = .ok (.iconst 1, 1) := by decide +kernel
theorem d_M_reckon_78 : decode b_M_reckon 78 = .ok (.goto 4, 3) := by decide +kernel
theorem d_M_reckon_81 : decode b_M_reckon 81 = .ok (.iconst 0, 1) := by decide +kernel
theorem d_M_reckon_82 : decode b_M_reckon 82 = .ok (.putfield 177, 3) := by decide +kernel
theorem d_M_reckon_85 : decode b_M_reckon 85 = .ok (.iload 6, 2) := by decide +kernel
theorem d_M_reckon_87 : decode b_M_reckon 87 = .ok (.ifCond .ne 7, 3) := by decide +kernel
theorem d_M_reckon_90 : decode b_M_reckon 90 = .ok (.iconst 0, 1) := by decide +kernel
theorem d_M_reckon_91 : decode b_M_reckon 91 = .ok (.goto 8, 3) := by decide +kernel
theorem d_M_reckon_94 : decode b_M_reckon 94 = .ok (.iload 5, 2) := by decide +kernel
theorem d_M_reckon_96 : decode b_M_reckon 96 = .ok (.iload 6, 2) := by decide +kernel
theorem d_M_reckon_98 : decode b_M_reckon 98 = .ok (.idiv, 1) := by decide +kernel
theorem d_M_reckon_99 : decode b_M_reckon 99 = .ok (.istore 5, 2) := by decide +kernel
theorem d_M_reckon_101 : decode b_M_reckon 101 = .ok (.aload_n 0, 1) := by decide +kernel
theorem d_M_reckon_102 : decode b_M_reckon 102 = .ok (.getfield 60, 3) := by decide +kernel
theorem d_M_reckon_105 : decode b_M_reckon 105 = .ok (.iload 4, 2) := by decide +kernel
theorem d_M_reckon_107 : decode b_M_reckon 107 = .ok (.iaload, 1) := by decide +kernel
theorem d_M_reckon_108 : decode b_M_reckon 108 = .ok (.iconst 1, 1) := by decide +kernel
theorem d_M_reckon_109 : decode b_M_reckon 109 = .ok (.if_icmp .ne 10, 3) := by decide +kernel
theorem d_M_reckon_112 : decode b_M_reckon 112 = .ok (.iload_n 3, 1) := by decide +kernel
theorem d_M_reckon_113 : decode b_M_reckon 113 = .ok (.iload 5, 2) := by decide +kernel
theorem d_M_reckon_115 : decode b_M_reckon 115 = .ok (.iadd, 1) := by decide +kernel
theorem d_M_reckon_116 : decode b_M_reckon 116 = .ok (.goto 7, 3) := by decide +kernel
theorem d_M_reckon_119 : decode b_M_reckon 119 = .ok (.iload_n 3, 1) := by decide +kernel
theorem d_M_reckon_120 : decode b_M_reckon 120 = .ok (.iload 5, 2) := by decide +kernel
theorem d_M_reckon_122 : decode b_M_reckon 122 = .ok (.isub, 1) := by decide +kernel
theorem d_M_reckon_123 : decode b_M_reckon 123 = .ok (.istore_n 3, 1) := by decide +kernel
theorem d_M_reckon_124 : decode b_M_reckon 124 = .ok (.iinc 4 1, 3) := by decide +kernel
theorem d_M_reckon_127 : decode b_M_reckon 127 = .ok (.goto (-122), 3) := by decide +kernel
theorem d_M_reckon_130 : decode b_M_reckon 130 = .ok (.iload_n 3, 1) := by decide +kernel
theorem d_M_reckon_131 : decode b_M_reckon 131 = .ok (.ireturn, 1) := by decide +kernel
def y_M_verdict : MethodName := ⟨cR6, "verdict", "(II)I"⟩
abbrev b_M_verdict : ByteArray := prog_8_method_29_code
abbrev k_M_verdict : Cond := .code y_M_verdict b_M_verdict 5 (some .int)
theorem mc_M_verdict : MC y_M_verdict k_M_verdict b_M_verdict 5 (some .int) [] 2 := ⟨g_in (List.mem_of_getElem? (i := 964) (by decide +kernel)) (by decide +kernel), Or.inl ⟨rfl, rfl⟩, g_in (List.mem_of_getElem? (i := 62) (by decide +kernel)) (by decide +kernel), by decide, by decide +kernel⟩
theorem in_M_verdict : Cond.instanceMethod y_M_verdict ∈ g_ws := g_in (List.mem_of_getElem? (i := 963) (by decide +kernel)) (by decide +kernel)
theorem se_M_verdict : Cond.selects cR6 y_M_verdict y_M_verdict ∈ g_ws := g_in (List.mem_of_getElem? (i := 47) (by decide +kernel)) (by decide +kernel)
theorem d_M_verdict_0 : decode b_M_verdict 0 = .ok (.aload_n 0, 1) := by decide +kernel
theorem d_M_verdict_1 : decode b_M_verdict 1 = .ok (.iload_n 1, 1) := by decide +kernel
theorem d_M_verdict_2 : decode b_M_verdict 2 = .ok (.iload_n 2, 1) := by decide +kernel
theorem d_M_verdict_3 : decode b_M_verdict 3 = .ok (.invokevirtual 181, 3) := by decide +kernel
theorem d_M_verdict_6 : decode b_M_verdict 6 = .ok (.ifCond .ne 5, 3) := by decide +kernel
theorem d_M_verdict_9 : decode b_M_verdict 9 = .ok (.iconst 0, 1) := by decide +kernel
theorem d_M_verdict_10 : decode b_M_verdict 10 = .ok (.ireturn, 1) := by decide +kernel
theorem d_M_verdict_11 : decode b_M_verdict 11 = .ok (.aload_n 0, 1) := by decide +kernel
theorem d_M_verdict_12 : decode b_M_verdict 12 = .ok (.iconst 0, 1) := by decide +kernel
theorem d_M_verdict_13 : decode b_M_verdict 13 = .ok (.putfield 177, 3) := by decide +kernel
theorem d_M_verdict_16 : decode b_M_verdict 16 = .ok (.aload_n 0, 1) := by decide +kernel
theorem d_M_verdict_17 : decode b_M_verdict 17 = .ok (.iload_n 1, 1) := by decide +kernel
theorem d_M_verdict_18 : decode b_M_verdict 18 = .ok (.bipush 8, 2) := by decide +kernel
theorem d_M_verdict_20 : decode b_M_verdict 20 = .ok (.iload_n 2, 1) := by decide +kernel
theorem d_M_verdict_21 : decode b_M_verdict 21 = .ok (.imul, 1) := by decide +kernel
theorem d_M_verdict_22 : decode b_M_verdict 22 = .ok (.invokevirtual 184, 3) := by decide +kernel
theorem d_M_verdict_25 : decode b_M_verdict 25 = .ok (.istore_n 3, 1) := by decide +kernel
theorem d_M_verdict_26 : decode b_M_verdict 26 = .ok (.aload_n 0, 1) := by decide +kernel
theorem d_M_verdict_27 : decode b_M_verdict 27 = .ok (.iload_n 1, 1) := by decide +kernel
theorem d_M_verdict_28 : decode b_M_verdict 28 = .ok (.bipush 8, 2) := by decide +kernel
theorem d_M_verdict_30 : decode b_M_verdict 30 = .ok (.iload_n 2, 1) := by decide +kernel
theorem d_M_verdict_31 : decode b_M_verdict 31 = .ok (.imul, 1) := by decide +kernel
theorem d_M_verdict_32 : decode b_M_verdict 32 = .ok (.iconst 4, 1) := by decide +kernel
theorem d_M_verdict_33 : decode b_M_verdict 33 = .ok (.iadd, 1) := by decide +kernel
theorem d_M_verdict_34 : decode b_M_verdict 34 = .ok (.invokevirtual 184, 3) := by decide +kernel
theorem d_M_verdict_37 : decode b_M_verdict 37 = .ok (.istore 4, 2) := by decide +kernel
theorem d_M_verdict_39 : decode b_M_verdict 39 = .ok (.aload_n 0, 1) := by decide +kernel
theorem d_M_verdict_40 : decode b_M_verdict 40 = .ok (.getfield 177, 3) := by decide +kernel
theorem d_M_verdict_43 : decode b_M_verdict 43 = .ok (.ifCond .eq 5, 3) := by decide +kernel
theorem d_M_verdict_46 : decode b_M_verdict 46 = .ok (.iconst 3, 1) := by decide +kernel
theorem d_M_verdict_47 : decode b_M_verdict 47 = .ok (.ireturn, 1) := by decide +kernel
theorem d_M_verdict_48 : decode b_M_verdict 48 = .ok (.aload_n 0, 1) := by decide +kernel
theorem d_M_verdict_49 : decode b_M_verdict 49 = .ok (.getfield 57, 3) := by decide +kernel
theorem d_M_verdict_52 : decode b_M_verdict 52 = .ok (.iload_n 2, 1) := by decide +kernel
theorem d_M_verdict_53 : decode b_M_verdict 53 = .ok (.iaload, 1) := by decide +kernel
theorem d_M_verdict_54 : decode b_M_verdict 54 = .ok (.bipush 60, 2) := by decide +kernel
theorem d_M_verdict_56 : decode b_M_verdict 56 = .ok (.if_icmp .ne 12, 3) := by decide +kernel
theorem d_M_verdict_59 : decode b_M_verdict 59 = .ok (.iload_n 3, 1) := by decide +kernel
theorem d_M_verdict_60 : decode b_M_verdict 60 = .ok (.iload 4, 2) := by decide +kernel
theorem d_M_verdict_62 : decode b_M_verdict 62 = .ok (.if_icmp .ge 36, 3) := by decide +kernel
theorem d_M_verdict_65 : decode b_M_verdict 65 = .ok (.goto 29, 3) := by decide +kernel
theorem d_M_verdict_68 : decode b_M_verdict 68 = .ok (.aload_n 0, 1) := by decide +kernel
theorem d_M_verdict_69 : decode b_M_verdict 69 = .ok (.getfield 57, 3) := by decide +kernel
theorem d_M_verdict_72 : decode b_M_verdict 72 = .ok (.iload_n 2, 1) := by decide +kernel
theorem d_M_verdict_73 : decode b_M_verdict 73 = .ok (.iaload, 1) := by decide +kernel
theorem d_M_verdict_74 : decode b_M_verdict 74 = .ok (.bipush 61, 2) := by decide +kernel
theorem d_M_verdict_76 : decode b_M_verdict 76 = .ok (.if_icmp .ne 12, 3) := by decide +kernel
theorem d_M_verdict_79 : decode b_M_verdict 79 = .ok (.iload_n 3, 1) := by decide +kernel
theorem d_M_verdict_80 : decode b_M_verdict 80 = .ok (.iload 4, 2) := by decide +kernel
theorem d_M_verdict_82 : decode b_M_verdict 82 = .ok (.if_icmp .ne 16, 3) := by decide +kernel
theorem d_M_verdict_85 : decode b_M_verdict 85 = .ok (.goto 9, 3) := by decide +kernel
theorem d_M_verdict_88 : decode b_M_verdict 88 = .ok (.iload_n 3, 1) := by decide +kernel
theorem d_M_verdict_89 : decode b_M_verdict 89 = .ok (.iload 4, 2) := by decide +kernel
theorem d_M_verdict_91 : decode b_M_verdict 91 = .ok (.if_icmp .gt 7, 3) := by decide +kernel
theorem d_M_verdict_94 : decode b_M_verdict 94 = .ok (.iconst 0, 1) := by decide +kernel
theorem d_M_verdict_95 : decode b_M_verdict 95 = .ok (.goto 4, 3) := by decide +kernel
theorem d_M_verdict_98 : decode b_M_verdict 98 = .ok (.iconst 2, 1) := by decide +kernel
theorem d_M_verdict_99 : decode b_M_verdict 99 = .ok (.ireturn, 1) := by decide +kernel
def y_M_check : MethodName := ⟨cR6, "check", "(I)I"⟩
abbrev b_M_check : ByteArray := prog_8_method_30_code
abbrev k_M_check : Cond := .code y_M_check b_M_check 3 (some .int)
theorem mc_M_check : MC y_M_check k_M_check b_M_check 3 (some .int) [] 1 := ⟨g_in (List.mem_of_getElem? (i := 956) (by decide +kernel)) (by decide +kernel), Or.inl ⟨rfl, rfl⟩, g_in (List.mem_of_getElem? (i := 62) (by decide +kernel)) (by decide +kernel), by decide, by decide +kernel⟩
theorem in_M_check : Cond.instanceMethod y_M_check ∈ g_ws := g_in (List.mem_of_getElem? (i := 954) (by decide +kernel)) (by decide +kernel)
theorem se_M_check : Cond.selects cR6 y_M_check y_M_check ∈ g_ws := g_in (List.mem_of_getElem? (i := 955) (by decide +kernel)) (by decide +kernel)
theorem d_M_check_0 : decode b_M_check 0 = .ok (.aload_n 0, 1) := by decide +kernel
theorem d_M_check_1 : decode b_M_check 1 = .ok (.aload_n 0, 1) := by decide +kernel
theorem d_M_check_2 : decode b_M_check 2 = .ok (.iload_n 1, 1) := by decide +kernel
theorem d_M_check_3 : decode b_M_check 3 = .ok (.invokevirtual 121, 3) := by decide +kernel
theorem d_M_check_6 : decode b_M_check 6 = .ok (.iconst 1, 1) := by decide +kernel
theorem d_M_check_7 : decode b_M_check 7 = .ok (.iconst 1, 1) := by decide +kernel
theorem d_M_check_8 : decode b_M_check 8 = .ok (.invokevirtual 109, 3) := by decide +kernel
theorem d_M_check_11 : decode b_M_check 11 = .ok (.ifCond .ne 5, 3) := by decide +kernel
theorem d_M_check_14 : decode b_M_check 14 = .ok (.iconst 0, 1) := by decide +kernel
theorem d_M_check_15 : decode b_M_check 15 = .ok (.ireturn, 1) := by decide +kernel
theorem d_M_check_16 : decode b_M_check 16 = .ok (.aload_n 0, 1) := by decide +kernel
theorem d_M_check_17 : decode b_M_check 17 = .ok (.iconst 0, 1) := by decide +kernel
theorem d_M_check_18 : decode b_M_check 18 = .ok (.putfield 187, 3) := by decide +kernel
theorem d_M_check_21 : decode b_M_check 21 = .ok (.iconst 0, 1) := by decide +kernel
theorem d_M_check_22 : decode b_M_check 22 = .ok (.istore_n 2, 1) := by decide +kernel
theorem d_M_check_23 : decode b_M_check 23 = .ok (.iload_n 2, 1) := by decide +kernel
theorem d_M_check_24 : decode b_M_check 24 = .ok (.bipush 20, 2) := by decide +kernel
theorem d_M_check_26 : decode b_M_check 26 = .ok (.if_icmp .ge 48, 3) := by decide +kernel
theorem d_M_check_29 : decode b_M_check 29 = .ok (.aload_n 0, 1) := by decide +kernel
theorem d_M_check_30 : decode b_M_check 30 = .ok (.getfield 44, 3) := by decide +kernel
theorem d_M_check_33 : decode b_M_check 33 = .ok (.bipush 20, 2) := by decide +kernel
theorem d_M_check_35 : decode b_M_check 35 = .ok (.aload_n 0, 1) := by decide +kernel
theorem d_M_check_36 : decode b_M_check 36 = .ok (.getfield 13, 3) := by decide +kernel
theorem d_M_check_39 : decode b_M_check 39 = .ok (.iload_n 1, 1) := by decide +kernel
theorem d_M_check_40 : decode b_M_check 40 = .ok (.iaload, 1) := by decide +kernel
theorem d_M_check_41 : decode b_M_check 41 = .ok (.imul, 1) := by decide +kernel
theorem d_M_check_42 : decode b_M_check 42 = .ok (.iload_n 2, 1) := by decide +kernel
theorem d_M_check_43 : decode b_M_check 43 = .ok (.iadd, 1) := by decide +kernel
theorem d_M_check_44 : decode b_M_check 44 = .ok (.baload, 1) := by decide +kernel
theorem d_M_check_45 : decode b_M_check 45 = .ok (.ifCond .eq 23, 3) := by decide +kernel
theorem d_M_check_48 : decode b_M_check 48 = .ok (.aload_n 0, 1) := by decide +kernel
theorem d_M_check_49 : decode b_M_check 49 = .ok (.getfield 31, 3) := by decide +kernel
theorem d_M_check_52 : decode b_M_check 52 = .ok (.bipush 20, 2) := by decide +kernel
theorem d_M_check_54 : decode b_M_check 54 = .ok (.iload_n 1, 1) := by decide +kernel
theorem d_M_check_55 : decode b_M_check 55 = .ok (.imul, 1) := by decide +kernel
theorem d_M_check_56 : decode b_M_check 56 = .ok (.iload_n 2, 1) := by decide +kernel
theorem d_M_check_57 : decode b_M_check 57 = .ok (.iadd, 1) := by decide +kernel
theorem d_M_check_58 : decode b_M_check 58 = .ok (.baload, 1) := by decide +kernel
theorem d_M_check_59 : decode b_M_check 59 = .ok (.ifCond .ne 9, 3) := by decide +kernel
theorem d_M_check_62 : decode b_M_check 62 = .ok (.aload_n 0, 1) := by decide +kernel
theorem d_M_check_63 : decode b_M_check 63 = .ok (.iconst 1, 1) := by decide +kernel
theorem d_M_check_64 : decode b_M_check 64 = .ok (.iload_n 2, 1) := by decide +kernel
theorem d_M_check_65 : decode b_M_check 65 = .ok (.invokevirtual 190, 3) := by decide +kernel
theorem d_M_check_68 : decode b_M_check 68 = .ok (.iinc 2 1, 3) := by decide +kernel
theorem d_M_check_71 : decode b_M_check 71 = .ok (.goto (-48), 3) := by decide +kernel
theorem d_M_check_74 : decode b_M_check 74 = .ok (.iconst 0, 1) := by decide +kernel
theorem d_M_check_75 : decode b_M_check 75 = .ok (.istore_n 2, 1) := by decide +kernel
theorem d_M_check_76 : decode b_M_check 76 = .ok (.iload_n 2, 1) := by decide +kernel
theorem d_M_check_77 : decode b_M_check 77 = .ok (.aload_n 0, 1) := by decide +kernel
theorem d_M_check_78 : decode b_M_check 78 = .ok (.getfield 166, 3) := by decide +kernel
theorem d_M_check_81 : decode b_M_check 81 = .ok (.if_icmp .ge 29, 3) := by decide +kernel
theorem d_M_check_84 : decode b_M_check 84 = .ok (.aload_n 0, 1) := by decide +kernel
theorem d_M_check_85 : decode b_M_check 85 = .ok (.iload_n 1, 1) := by decide +kernel
theorem d_M_check_86 : decode b_M_check 86 = .ok (.iload_n 2, 1) := by decide +kernel
theorem d_M_check_87 : decode b_M_check 87 = .ok (.invokevirtual 194, 3) := by decide +kernel
theorem d_M_check_90 : decode b_M_check 90 = .ok (.ifCond .le 14, 3) := by decide +kernel
theorem d_M_check_93 : decode b_M_check 93 = .ok (.aload_n 0, 1) := by decide +kernel
theorem d_M_check_94 : decode b_M_check 94 = .ok (.aload_n 0, 1) := by decide +kernel
theorem d_M_check_95 : decode b_M_check 95 = .ok (.iload_n 1, 1) := by decide +kernel
theorem d_M_check_96 : decode b_M_check 96 = .ok (.iload_n 2, 1) := by decide +kernel
theorem d_M_check_97 : decode b_M_check 97 = .ok (.invokevirtual 194, 3) := by decide +kernel
theorem d_M_check_100 : decode b_M_check 100 = .ok (.iload_n 2, 1) := by decide +kernel
theorem d_M_check_101 : decode b_M_check 101 = .ok (.invokevirtual 190, 3) := by decide +kernel
theorem d_M_check_104 : decode b_M_check 104 = .ok (.iinc 2 1, 3) := by decide +kernel
theorem d_M_check_107 : decode b_M_check 107 = .ok (.goto (-31), 3) := by decide +kernel
theorem d_M_check_110 : decode b_M_check 110 = .ok (.aload_n 0, 1) := by decide +kernel
theorem d_M_check_111 : decode b_M_check 111 = .ok (.getfield 187, 3) := by decide +kernel
theorem d_M_check_114 : decode b_M_check 114 = .ok (.ireturn, 1) := by decide +kernel
def y_M_wanted : MethodName := ⟨cR6, "wanted", "(II)V"⟩
abbrev b_M_wanted : ByteArray := prog_8_method_31_code
abbrev k_M_wanted : Cond := .code y_M_wanted b_M_wanted 3 none
theorem mc_M_wanted : MC y_M_wanted k_M_wanted b_M_wanted 3 none [] 2 := ⟨g_in (List.mem_of_getElem? (i := 960) (by decide +kernel)) (by decide +kernel), Or.inl ⟨rfl, rfl⟩, g_in (List.mem_of_getElem? (i := 62) (by decide +kernel)) (by decide +kernel), by decide, by decide +kernel⟩
theorem in_M_wanted : Cond.instanceMethod y_M_wanted ∈ g_ws := g_in (List.mem_of_getElem? (i := 959) (by decide +kernel)) (by decide +kernel)
theorem se_M_wanted : Cond.selects cR6 y_M_wanted y_M_wanted ∈ g_ws := g_in (List.mem_of_getElem? (i := 46) (by decide +kernel)) (by decide +kernel)
theorem d_M_wanted_0 : decode b_M_wanted 0 = .ok (.aload_n 0, 1) := by decide +kernel
theorem d_M_wanted_1 : decode b_M_wanted 1 = .ok (.getfield 87, 3) := by decide +kernel
theorem d_M_wanted_4 : decode b_M_wanted 4 = .ok (.aload_n 0, 1) := by decide +kernel
theorem d_M_wanted_5 : decode b_M_wanted 5 = .ok (.getfield 187, 3) := by decide +kernel
theorem d_M_wanted_8 : decode b_M_wanted 8 = .ok (.iload_n 1, 1) := by decide +kernel
theorem d_M_wanted_9 : decode b_M_wanted 9 = .ok (.iastore, 1) := by decide +kernel
theorem d_M_wanted_10 : decode b_M_wanted 10 = .ok (.aload_n 0, 1) := by decide +kernel
theorem d_M_wanted_11 : decode b_M_wanted 11 = .ok (.getfield 90, 3) := by decide +kernel
theorem d_M_wanted_14 : decode b_M_wanted 14 = .ok (.aload_n 0, 1) := by decide +kernel
theorem d_M_wanted_15 : decode b_M_wanted 15 = .ok (.getfield 187, 3) := by decide +kernel
theorem d_M_wanted_18 : decode b_M_wanted 18 = .ok (.iload_n 2, 1) := by decide +kernel
theorem d_M_wanted_19 : decode b_M_wanted 19 = .ok (.iastore, 1) := by decide +kernel
theorem d_M_wanted_20 : decode b_M_wanted 20 = .ok (.aload_n 0, 1) := by decide +kernel
theorem d_M_wanted_21 : decode b_M_wanted 21 = .ok (.dup, 1) := by decide +kernel
theorem d_M_wanted_22 : decode b_M_wanted 22 = .ok (.getfield 187, 3) := by decide +kernel
theorem d_M_wanted_25 : decode b_M_wanted 25 = .ok (.iconst 1, 1) := by decide +kernel
theorem d_M_wanted_26 : decode b_M_wanted 26 = .ok (.iadd, 1) := by decide +kernel
theorem d_M_wanted_27 : decode b_M_wanted 27 = .ok (.putfield 187, 3) := by decide +kernel
theorem d_M_wanted_30 : decode b_M_wanted 30 = .ok (.return_, 1) := by decide +kernel
def y_M_wanting : MethodName := ⟨cR6, "wanting", "(II)I"⟩
abbrev b_M_wanting : ByteArray := prog_8_method_32_code
abbrev k_M_wanting : Cond := .code y_M_wanting b_M_wanting 3 (some .int)
theorem mc_M_wanting : MC y_M_wanting k_M_wanting b_M_wanting 3 (some .int) [] 2 := ⟨g_in (List.mem_of_getElem? (i := 984) (by decide +kernel)) (by decide +kernel), Or.inl ⟨rfl, rfl⟩, g_in (List.mem_of_getElem? (i := 62) (by decide +kernel)) (by decide +kernel), by decide, by decide +kernel⟩
theorem in_M_wanting : Cond.instanceMethod y_M_wanting ∈ g_ws := g_in (List.mem_of_getElem? (i := 982) (by decide +kernel)) (by decide +kernel)
theorem se_M_wanting : Cond.selects cR6 y_M_wanting y_M_wanting ∈ g_ws := g_in (List.mem_of_getElem? (i := 983) (by decide +kernel)) (by decide +kernel)
theorem d_M_wanting_0 : decode b_M_wanting 0 = .ok (.aload_n 0, 1) := by decide +kernel
theorem d_M_wanting_1 : decode b_M_wanting 1 = .ok (.iload_n 1, 1) := by decide +kernel
theorem d_M_wanting_2 : decode b_M_wanting 2 = .ok (.iconst 0, 1) := by decide +kernel
theorem d_M_wanting_3 : decode b_M_wanting 3 = .ok (.aload_n 0, 1) := by decide +kernel
theorem d_M_wanting_4 : decode b_M_wanting 4 = .ok (.getfield 187, 3) := by decide +kernel
theorem d_M_wanting_7 : decode b_M_wanting 7 = .ok (.iconst 1, 1) := by decide +kernel
theorem d_M_wanting_8 : decode b_M_wanting 8 = .ok (.isub, 1) := by decide +kernel
theorem d_M_wanting_9 : decode b_M_wanting 9 = .ok (.invokestatic 102, 3) := by decide +kernel
theorem d_M_wanting_12 : decode b_M_wanting 12 = .ok (.ifCond .eq 16, 3) := by decide +kernel
theorem d_M_wanting_15 : decode b_M_wanting 15 = .ok (.iload_n 2, 1) := by decide +kernel
theorem d_M_wanting_16 : decode b_M_wanting 16 = .ok (.iconst 0, 1) := by decide +kernel
theorem d_M_wanting_17 : decode b_M_wanting 17 = .ok (.iconst 1, 1) := by decide +kernel
theorem d_M_wanting_18 : decode b_M_wanting 18 = .ok (.invokestatic 102, 3) := by decide +kernel
theorem d_M_wanting_21 : decode b_M_wanting 21 = .ok (.ifCond .eq 7, 3) := by decide +kernel
theorem d_M_wanting_24 : decode b_M_wanting 24 = .ok (.iconst 1, 1) := by decide +kernel
theorem d_M_wanting_25 : decode b_M_wanting 25 = .ok (.goto 4, 3) := by decide +kernel
theorem d_M_wanting_28 : decode b_M_wanting 28 = .ok (.iconst 0, 1) := by decide +kernel
theorem d_M_wanting_29 : decode b_M_wanting 29 = .ok (.iconst 1, 1) := by decide +kernel
theorem d_M_wanting_30 : decode b_M_wanting 30 = .ok (.iconst 1, 1) := by decide +kernel
theorem d_M_wanting_31 : decode b_M_wanting 31 = .ok (.invokevirtual 109, 3) := by decide +kernel
theorem d_M_wanting_34 : decode b_M_wanting 34 = .ok (.ifCond .ne 5, 3) := by decide +kernel
theorem d_M_wanting_37 : decode b_M_wanting 37 = .ok (.iconst 0, 1) := by decide +kernel
theorem d_M_wanting_38 : decode b_M_wanting 38 = .ok (.ireturn, 1) := by decide +kernel
theorem d_M_wanting_39 : decode b_M_wanting 39 = .ok (.iload_n 2, 1) := by decide +kernel
theorem d_M_wanting_40 : decode b_M_wanting 40 = .ok (.ifCond .ne 12, 3) := by decide +kernel
theorem d_M_wanting_43 : decode b_M_wanting 43 = .ok (.aload_n 0, 1) := by decide +kernel
theorem d_M_wanting_44 : decode b_M_wanting 44 = .ok (.getfield 87, 3) := by decide +kernel
theorem d_M_wanting_47 : decode b_M_wanting 47 = .ok (.iload_n 1, 1) := by decide +kernel
theorem d_M_wanting_48 : decode b_M_wanting 48 = .ok (.iaload, 1) := by decide +kernel
theorem d_M_wanting_49 : decode b_M_wanting 49 = .ok (.goto 9, 3) := by decide +kernel
theorem d_M_wanting_52 : decode b_M_wanting 52 = .ok (.aload_n 0, 1) := by decide +kernel
theorem d_M_wanting_53 : decode b_M_wanting 53 = .ok (.getfield 90, 3) := by decide +kernel
theorem d_M_wanting_56 : decode b_M_wanting 56 = .ok (.iload_n 1, 1) := by decide +kernel
theorem d_M_wanting_57 : decode b_M_wanting 57 = .ok (.iaload, 1) := by decide +kernel
theorem d_M_wanting_58 : decode b_M_wanting 58 = .ok (.ireturn, 1) := by decide +kernel
def y_M_opened : MethodName := ⟨cR6, "opened", "(I)I"⟩
abbrev b_M_opened : ByteArray := prog_8_method_33_code
abbrev k_M_opened : Cond := .code y_M_opened b_M_opened 4 (some .int)
theorem mc_M_opened : MC y_M_opened k_M_opened b_M_opened 4 (some .int) [] 1 := ⟨g_in (List.mem_of_getElem? (i := 999) (by decide +kernel)) (by decide +kernel), Or.inl ⟨rfl, rfl⟩, g_in (List.mem_of_getElem? (i := 62) (by decide +kernel)) (by decide +kernel), by decide, by decide +kernel⟩
theorem in_M_opened : Cond.instanceMethod y_M_opened ∈ g_ws := g_in (List.mem_of_getElem? (i := 998) (by decide +kernel)) (by decide +kernel)
theorem se_M_opened : Cond.selects cR6 y_M_opened y_M_opened ∈ g_ws := g_in (List.mem_of_getElem? (i := 53) (by decide +kernel)) (by decide +kernel)
theorem d_M_opened_0 : decode b_M_opened 0 = .ok (.iconst 0, 1) := by decide +kernel
theorem d_M_opened_1 : decode b_M_opened 1 = .ok (.istore_n 2, 1) := by decide +kernel
theorem d_M_opened_2 : decode b_M_opened 2 = .ok (.iconst 0, 1) := by decide +kernel
theorem d_M_opened_3 : decode b_M_opened 3 = .ok (.istore_n 3, 1) := by decide +kernel
theorem d_M_opened_4 : decode b_M_opened 4 = .ok (.iload_n 3, 1) := by decide +kernel
theorem d_M_opened_5 : decode b_M_opened 5 = .ok (.bipush 20, 2) := by decide +kernel
theorem d_M_opened_7 : decode b_M_opened 7 = .ok (.if_icmp .ge 26, 3) := by decide +kernel
theorem d_M_opened_10 : decode b_M_opened 10 = .ok (.aload_n 0, 1) := by decide +kernel
theorem d_M_opened_11 : decode b_M_opened 11 = .ok (.getfield 38, 3) := by decide +kernel
theorem d_M_opened_14 : decode b_M_opened 14 = .ok (.bipush 20, 2) := by decide +kernel
theorem d_M_opened_16 : decode b_M_opened 16 = .ok (.iload_n 1, 1) := by decide +kernel
theorem d_M_opened_17 : decode b_M_opened 17 = .ok (.imul, 1) := by decide +kernel
theorem d_M_opened_18 : decode b_M_opened 18 = .ok (.iload_n 3, 1) := by decide +kernel
theorem d_M_opened_19 : decode b_M_opened 19 = .ok (.iadd, 1) := by decide +kernel
theorem d_M_opened_20 : decode b_M_opened 20 = .ok (.baload, 1) := by decide +kernel
theorem d_M_opened_21 : decode b_M_opened 21 = .ok (.ifCond .eq 6, 3) := by decide +kernel
theorem d_M_opened_24 : decode b_M_opened 24 = .ok (.iinc 2 1, 3) := by decide +kernel
theorem d_M_opened_27 : decode b_M_opened 27 = .ok (.iinc 3 1, 3) := by decide +kernel
theorem d_M_opened_30 : decode b_M_opened 30 = .ok (.goto (-26), 3) := by decide +kernel
theorem d_M_opened_33 : decode b_M_opened 33 = .ok (.iload_n 2, 1) := by decide +kernel
theorem d_M_opened_34 : decode b_M_opened 34 = .ok (.ireturn, 1) := by decide +kernel
def y_M_canSign : MethodName := ⟨cR6, "canSign", "(II)Z"⟩
abbrev b_M_canSign : ByteArray := prog_8_method_34_code
abbrev k_M_canSign : Cond := .code y_M_canSign b_M_canSign 4 (some .boolean)
theorem mc_M_canSign : MC y_M_canSign k_M_canSign b_M_canSign 4 (some .boolean) [] 2 := ⟨g_in (List.mem_of_getElem? (i := 995) (by decide +kernel)) (by decide +kernel), Or.inl ⟨rfl, rfl⟩, g_in (List.mem_of_getElem? (i := 62) (by decide +kernel)) (by decide +kernel), by decide, by decide +kernel⟩
theorem in_M_canSign : Cond.instanceMethod y_M_canSign ∈ g_ws := g_in (List.mem_of_getElem? (i := 994) (by decide +kernel)) (by decide +kernel)
theorem se_M_canSign : Cond.selects cR6 y_M_canSign y_M_canSign ∈ g_ws := g_in (List.mem_of_getElem? (i := 52) (by decide +kernel)) (by decide +kernel)
theorem d_M_canSign_0 : decode b_M_canSign 0 = .ok (.aload_n 0, 1) := by decide +kernel
theorem d_M_canSign_1 : decode b_M_canSign 1 = .ok (.getfield 19, 3) := by decide +kernel
theorem d_M_canSign_4 : decode b_M_canSign 4 = .ok (.iload_n 1, 1) := by decide +kernel
theorem d_M_canSign_5 : decode b_M_canSign 5 = .ok (.iaload, 1) := by decide +kernel
theorem d_M_canSign_6 : decode b_M_canSign 6 = .ok (.ifCond .gt 21, 3) := by decide +kernel
theorem d_M_canSign_9 : decode b_M_canSign 9 = .ok (.aload_n 0, 1) := by decide +kernel
theorem d_M_canSign_10 : decode b_M_canSign 10 = .ok (.iload_n 1, 1) := by decide +kernel
theorem d_M_canSign_11 : decode b_M_canSign 11 = .ok (.invokevirtual 197, 3) := by decide +kernel
theorem d_M_canSign_14 : decode b_M_canSign 14 = .ok (.ifCond .gt 13, 3) := by decide +kernel
theorem d_M_canSign_17 : decode b_M_canSign 17 = .ok (.aload_n 0, 1) := by decide +kernel
theorem d_M_canSign_18 : decode b_M_canSign 18 = .ok (.getfield 25, 3) := by decide +kernel
theorem d_M_canSign_21 : decode b_M_canSign 21 = .ok (.iload_n 1, 1) := by decide +kernel
theorem d_M_canSign_22 : decode b_M_canSign 22 = .ok (.iaload, 1) := by decide +kernel
theorem d_M_canSign_23 : decode b_M_canSign 23 = .ok (.iconst 3, 1) := by decide +kernel
theorem d_M_canSign_24 : decode b_M_canSign 24 = .ok (.if_icmp .ne 5, 3) := by decide +kernel
theorem d_M_canSign_27 : decode b_M_canSign 27 = .ok (.iconst 0, 1) := by decide +kernel
theorem d_M_canSign_28 : decode b_M_canSign 28 = .ok (.ireturn, 1) := by decide +kernel
theorem d_M_canSign_29 : decode b_M_canSign 29 = .ok (.iconst 0, 1) := by decide +kernel
theorem d_M_canSign_30 : decode b_M_canSign 30 = .ok (.istore_n 3, 1) := by decide +kernel
theorem d_M_canSign_31 : decode b_M_canSign 31 = .ok (.iload_n 3, 1) := by decide +kernel
theorem d_M_canSign_32 : decode b_M_canSign 32 = .ok (.aload_n 0, 1) := by decide +kernel
theorem d_M_canSign_33 : decode b_M_canSign 33 = .ok (.getfield 25, 3) := by decide +kernel
theorem d_M_canSign_36 : decode b_M_canSign 36 = .ok (.iload_n 1, 1) := by decide +kernel
theorem d_M_canSign_37 : decode b_M_canSign 37 = .ok (.iaload, 1) := by decide +kernel
theorem d_M_canSign_38 : decode b_M_canSign 38 = .ok (.if_icmp .ge 25, 3) := by decide +kernel
theorem d_M_canSign_41 : decode b_M_canSign 41 = .ok (.aload_n 0, 1) := by decide +kernel
theorem d_M_canSign_42 : decode b_M_canSign 42 = .ok (.getfield 28, 3) := by decide +kernel
theorem d_M_canSign_45 : decode b_M_canSign 45 = .ok (.iconst 3, 1) := by decide +kernel
theorem d_M_canSign_46 : decode b_M_canSign 46 = .ok (.iload_n 1, 1) := by decide +kernel
theorem d_M_canSign_47 : decode b_M_canSign 47 = .ok (.imul, 1) := by decide +kernel
theorem d_M_canSign_48 : decode b_M_canSign 48 = .ok (.iload_n 3, 1) := by decide +kernel
theorem d_M_canSign_49 : decode b_M_canSign 49 = .ok (.iadd, 1) := by decide +kernel
theorem d_M_canSign_50 : decode b_M_canSign 50 = .ok (.iaload, 1) := by decide +kernel
theorem d_M_canSign_51 : decode b_M_canSign 51 = .ok (.iload_n 2, 1) := by decide +kernel
theorem d_M_canSign_52 : decode b_M_canSign 52 = .ok (.if_icmp .ne 5, 3) := by decide +kernel
theorem d_M_canSign_55 : decode b_M_canSign 55 = .ok (.iconst 0, 1) := by decide +kernel
theorem d_M_canSign_56 : decode b_M_canSign 56 = .ok (.ireturn, 1) := by decide +kernel
theorem d_M_canSign_57 : decode b_M_canSign 57 = .ok (.iinc 3 1, 3) := by decide +kernel
theorem d_M_canSign_60 : decode b_M_canSign 60 = .ok (.goto (-29), 3) := by decide +kernel
theorem d_M_canSign_63 : decode b_M_canSign 63 = .ok (.iconst 0, 1) := by decide +kernel
theorem d_M_canSign_64 : decode b_M_canSign 64 = .ok (.istore_n 3, 1) := by decide +kernel
theorem d_M_canSign_65 : decode b_M_canSign 65 = .ok (.iload_n 3, 1) := by decide +kernel
theorem d_M_canSign_66 : decode b_M_canSign 66 = .ok (.bipush 20, 2) := by decide +kernel
theorem d_M_canSign_68 : decode b_M_canSign 68 = .ok (.if_icmp .ge 44, 3) := by decide +kernel
theorem d_M_canSign_71 : decode b_M_canSign 71 = .ok (.aload_n 0, 1) := by decide +kernel
theorem d_M_canSign_72 : decode b_M_canSign 72 = .ok (.getfield 44, 3) := by decide +kernel
theorem d_M_canSign_75 : decode b_M_canSign 75 = .ok (.bipush 20, 2) := by decide +kernel
theorem d_M_canSign_77 : decode b_M_canSign 77 = .ok (.aload_n 0, 1) := by decide +kernel
theorem d_M_canSign_78 : decode b_M_canSign 78 = .ok (.getfield 13, 3) := by decide +kernel
theorem d_M_canSign_81 : decode b_M_canSign 81 = .ok (.iload_n 1, 1) := by decide +kernel
theorem d_M_canSign_82 : decode b_M_canSign 82 = .ok (.iaload, 1) := by decide +kernel
theorem d_M_canSign_83 : decode b_M_canSign 83 = .ok (.imul, 1) := by decide +kernel
theorem d_M_canSign_84 : decode b_M_canSign 84 = .ok (.iload_n 3, 1) := by decide +kernel
theorem d_M_canSign_85 : decode b_M_canSign 85 = .ok (.iadd, 1) := by decide +kernel
theorem d_M_canSign_86 : decode b_M_canSign 86 = .ok (.baload, 1) := by decide +kernel
theorem d_M_canSign_87 : decode b_M_canSign 87 = .ok (.ifCond .eq 19, 3) := by decide +kernel
theorem d_M_canSign_90 : decode b_M_canSign 90 = .ok (.aload_n 0, 1) := by decide +kernel
theorem d_M_canSign_91 : decode b_M_canSign 91 = .ok (.getfield 31, 3) := by decide +kernel
theorem d_M_canSign_94 : decode b_M_canSign 94 = .ok (.bipush 20, 2) := by decide +kernel
theorem d_M_canSign_96 : decode b_M_canSign 96 = .ok (.iload_n 1, 1) := by decide +kernel
theorem d_M_canSign_97 : decode b_M_canSign 97 = .ok (.imul, 1) := by decide +kernel
theorem d_M_canSign_98 : decode b_M_canSign 98 = .ok (.iload_n 3, 1) := by decide +kernel
theorem d_M_canSign_99 : decode b_M_canSign 99 = .ok (.iadd, 1) := by decide +kernel
theorem d_M_canSign_100 : decode b_M_canSign 100 = .ok (.baload, 1) := by decide +kernel
theorem d_M_canSign_101 : decode b_M_canSign 101 = .ok (.ifCond .ne 5, 3) := by decide +kernel
theorem d_M_canSign_104 : decode b_M_canSign 104 = .ok (.iconst 0, 1) := by decide +kernel
theorem d_M_canSign_105 : decode b_M_canSign 105 = .ok (.ireturn, 1) := by decide +kernel
theorem d_M_canSign_106 : decode b_M_canSign 106 = .ok (.iinc 3 1, 3) := by decide +kernel
theorem d_M_canSign_109 : decode b_M_canSign 109 = .ok (.goto (-44), 3) := by decide +kernel
theorem d_M_canSign_112 : decode b_M_canSign 112 = .ok (.iconst 0, 1) := by decide +kernel
theorem d_M_canSign_113 : decode b_M_canSign 113 = .ok (.istore_n 3, 1) := by decide +kernel
theorem d_M_canSign_114 : decode b_M_canSign 114 = .ok (.iload_n 3, 1) := by decide +kernel
theorem d_M_canSign_115 : decode b_M_canSign 115 = .ok (.aload_n 0, 1) := by decide +kernel
theorem d_M_canSign_116 : decode b_M_canSign 116 = .ok (.getfield 166, 3) := by decide +kernel
theorem d_M_canSign_119 : decode b_M_canSign 119 = .ok (.if_icmp .ge 20, 3) := by decide +kernel
theorem d_M_canSign_122 : decode b_M_canSign 122 = .ok (.aload_n 0, 1) := by decide +kernel
theorem d_M_canSign_123 : decode b_M_canSign 123 = .ok (.iload_n 1, 1) := by decide +kernel
theorem d_M_canSign_124 : decode b_M_canSign 124 = .ok (.iload_n 3, 1) := by decide +kernel
theorem d_M_canSign_125 : decode b_M_canSign 125 = .ok (.invokevirtual 194, 3) := by decide +kernel
theorem d_M_canSign_128 : decode b_M_canSign 128 = .ok (.ifCond .le 5, 3) := by decide +kernel
theorem d_M_canSign_131 : decode b_M_canSign 131 = .ok (.iconst 0, 1) := by decide +kernel
theorem d_M_canSign_132 : decode b_M_canSign 132 = .ok (.ireturn, 1) := by decide +kernel
theorem d_M_canSign_133 : decode b_M_canSign 133 = .ok (.iinc 3 1, 3) := by decide +kernel
theorem d_M_canSign_136 : decode b_M_canSign 136 = .ok (.goto (-22), 3) := by decide +kernel
theorem d_M_canSign_139 : decode b_M_canSign 139 = .ok (.iconst 1, 1) := by decide +kernel
theorem d_M_canSign_140 : decode b_M_canSign 140 = .ok (.ireturn, 1) := by decide +kernel
def y_M_put : MethodName := ⟨cR6, "put", "(II)I"⟩
abbrev b_M_put : ByteArray := prog_8_method_35_code
abbrev k_M_put : Cond := .code y_M_put b_M_put 4 (some .int)
theorem mc_M_put : MC y_M_put k_M_put b_M_put 4 (some .int) [] 2 := ⟨g_in (List.mem_of_getElem? (i := 988) (by decide +kernel)) (by decide +kernel), Or.inl ⟨rfl, rfl⟩, g_in (List.mem_of_getElem? (i := 62) (by decide +kernel)) (by decide +kernel), by decide, by decide +kernel⟩
theorem in_M_put : Cond.instanceMethod y_M_put ∈ g_ws := g_in (List.mem_of_getElem? (i := 986) (by decide +kernel)) (by decide +kernel)
theorem se_M_put : Cond.selects cR6 y_M_put y_M_put ∈ g_ws := g_in (List.mem_of_getElem? (i := 987) (by decide +kernel)) (by decide +kernel)
theorem d_M_put_0 : decode b_M_put 0 = .ok (.aload_n 0, 1) := by decide +kernel
theorem d_M_put_1 : decode b_M_put 1 = .ok (.iload_n 1, 1) := by decide +kernel
theorem d_M_put_2 : decode b_M_put 2 = .ok (.invokevirtual 121, 3) := by decide +kernel
theorem d_M_put_5 : decode b_M_put 5 = .ok (.ifCond .eq 14, 3) := by decide +kernel
theorem d_M_put_8 : decode b_M_put 8 = .ok (.iload_n 2, 1) := by decide +kernel
theorem d_M_put_9 : decode b_M_put 9 = .ok (.invokestatic 200, 3) := by decide +kernel
theorem d_M_put_12 : decode b_M_put 12 = .ok (.ifCond .eq 7, 3) := by decide +kernel
theorem d_M_put_15 : decode b_M_put 15 = .ok (.iconst 1, 1) := by decide +kernel
theorem d_M_put_16 : decode b_M_put 16 = .ok (.goto 4, 3) := by decide +kernel
theorem d_M_put_19 : decode b_M_put 19 = .ok (.iconst 0, 1) := by decide +kernel
theorem d_M_put_20 : decode b_M_put 20 = .ok (.istore_n 3, 1) := by decide +kernel
theorem d_M_put_21 : decode b_M_put 21 = .ok (.aload_n 0, 1) := by decide +kernel
theorem d_M_put_22 : decode b_M_put 22 = .ok (.iload_n 3, 1) := by decide +kernel
theorem d_M_put_23 : decode b_M_put 23 = .ok (.iload_n 3, 1) := by decide +kernel
theorem d_M_put_24 : decode b_M_put 24 = .ok (.ifCond .eq 16, 3) := by decide +kernel
theorem d_M_put_27 : decode b_M_put 27 = .ok (.aload_n 0, 1) := by decide +kernel
theorem d_M_put_28 : decode b_M_put 28 = .ok (.iload_n 1, 1) := by decide +kernel
theorem d_M_put_29 : decode b_M_put 29 = .ok (.iload_n 2, 1) := by decide +kernel
theorem d_M_put_30 : decode b_M_put 30 = .ok (.invokevirtual 203, 3) := by decide +kernel
theorem d_M_put_33 : decode b_M_put 33 = .ok (.ifCond .eq 7, 3) := by decide +kernel
theorem d_M_put_36 : decode b_M_put 36 = .ok (.iconst 1, 1) := by decide +kernel
theorem d_M_put_37 : decode b_M_put 37 = .ok (.goto 4, 3) := by decide +kernel
theorem d_M_put_40 : decode b_M_put 40 = .ok (.iconst 0, 1) := by decide +kernel
theorem d_M_put_41 : decode b_M_put 41 = .ok (.iconst 1, 1) := by decide +kernel
theorem d_M_put_42 : decode b_M_put 42 = .ok (.invokevirtual 109, 3) := by decide +kernel
theorem d_M_put_45 : decode b_M_put 45 = .ok (.ifCond .ne 5, 3) := by decide +kernel
theorem d_M_put_48 : decode b_M_put 48 = .ok (.iconst 0, 1) := by decide +kernel
theorem d_M_put_49 : decode b_M_put 49 = .ok (.ireturn, 1) := by decide +kernel
theorem d_M_put_50 : decode b_M_put 50 = .ok (.aload_n 0, 1) := by decide +kernel
theorem d_M_put_51 : decode b_M_put 51 = .ok (.getfield 28, 3) := by decide +kernel
theorem d_M_put_54 : decode b_M_put 54 = .ok (.iconst 3, 1) := by decide +kernel
theorem d_M_put_55 : decode b_M_put 55 = .ok (.iload_n 1, 1) := by decide +kernel
theorem d_M_put_56 : decode b_M_put 56 = .ok (.imul, 1) := by decide +kernel
theorem d_M_put_57 : decode b_M_put 57 = .ok (.aload_n 0, 1) := by decide +kernel
theorem d_M_put_58 : decode b_M_put 58 = .ok (.getfield 25, 3) := by decide +kernel
theorem d_M_put_61 : decode b_M_put 61 = .ok (.iload_n 1, 1) := by decide +kernel
theorem d_M_put_62 : decode b_M_put 62 = .ok (.iaload, 1) := by decide +kernel
theorem d_M_put_63 : decode b_M_put 63 = .ok (.iadd, 1) := by decide +kernel
theorem d_M_put_64 : decode b_M_put 64 = .ok (.iload_n 2, 1) := by decide +kernel
theorem d_M_put_65 : decode b_M_put 65 = .ok (.iastore, 1) := by decide +kernel
theorem d_M_put_66 : decode b_M_put 66 = .ok (.aload_n 0, 1) := by decide +kernel
theorem d_M_put_67 : decode b_M_put 67 = .ok (.getfield 25, 3) := by decide +kernel
theorem d_M_put_70 : decode b_M_put 70 = .ok (.iload_n 1, 1) := by decide +kernel
theorem d_M_put_71 : decode b_M_put 71 = .ok (.dup2, 1) := by decide +kernel
theorem d_M_put_72 : decode b_M_put 72 = .ok (.iaload, 1) := by decide +kernel
theorem d_M_put_73 : decode b_M_put 73 = .ok (.iconst 1, 1) := by decide +kernel
theorem d_M_put_74 : decode b_M_put 74 = .ok (.iadd, 1) := by decide +kernel
theorem d_M_put_75 : decode b_M_put 75 = .ok (.iastore, 1) := by decide +kernel
theorem d_M_put_76 : decode b_M_put 76 = .ok (.aload_n 0, 1) := by decide +kernel
theorem d_M_put_77 : decode b_M_put 77 = .ok (.getfield 25, 3) := by decide +kernel
theorem d_M_put_80 : decode b_M_put 80 = .ok (.iload_n 1, 1) := by decide +kernel
theorem d_M_put_81 : decode b_M_put 81 = .ok (.iaload, 1) := by decide +kernel
theorem d_M_put_82 : decode b_M_put 82 = .ok (.ireturn, 1) := by decide +kernel
def y_M_edition : MethodName := ⟨cR6, "edition", "(I)I"⟩
abbrev b_M_edition : ByteArray := prog_8_method_36_code
abbrev k_M_edition : Cond := .code y_M_edition b_M_edition 4 (some .int)
theorem mc_M_edition : MC y_M_edition k_M_edition b_M_edition 4 (some .int) [] 1 := ⟨g_in (List.mem_of_getElem? (i := 1003) (by decide +kernel)) (by decide +kernel), Or.inl ⟨rfl, rfl⟩, g_in (List.mem_of_getElem? (i := 62) (by decide +kernel)) (by decide +kernel), by decide, by decide +kernel⟩
theorem in_M_edition : Cond.instanceMethod y_M_edition ∈ g_ws := g_in (List.mem_of_getElem? (i := 1001) (by decide +kernel)) (by decide +kernel)
theorem se_M_edition : Cond.selects cR6 y_M_edition y_M_edition ∈ g_ws := g_in (List.mem_of_getElem? (i := 1002) (by decide +kernel)) (by decide +kernel)
theorem d_M_edition_0 : decode b_M_edition 0 = .ok (.aload_n 0, 1) := by decide +kernel
theorem d_M_edition_1 : decode b_M_edition 1 = .ok (.aload_n 0, 1) := by decide +kernel
theorem d_M_edition_2 : decode b_M_edition 2 = .ok (.iload_n 1, 1) := by decide +kernel
theorem d_M_edition_3 : decode b_M_edition 3 = .ok (.invokevirtual 121, 3) := by decide +kernel
theorem d_M_edition_6 : decode b_M_edition 6 = .ok (.aload_n 0, 1) := by decide +kernel
theorem d_M_edition_7 : decode b_M_edition 7 = .ok (.iload_n 1, 1) := by decide +kernel
theorem d_M_edition_8 : decode b_M_edition 8 = .ok (.invokevirtual 121, 3) := by decide +kernel
theorem d_M_edition_11 : decode b_M_edition 11 = .ok (.ifCond .eq 17, 3) := by decide +kernel
theorem d_M_edition_14 : decode b_M_edition 14 = .ok (.aload_n 0, 1) := by decide +kernel
theorem d_M_edition_15 : decode b_M_edition 15 = .ok (.getfield 25, 3) := by decide +kernel
theorem d_M_edition_18 : decode b_M_edition 18 = .ok (.iload_n 1, 1) := by decide +kernel
theorem d_M_edition_19 : decode b_M_edition 19 = .ok (.iaload, 1) := by decide +kernel
theorem d_M_edition_20 : decode b_M_edition 20 = .ok (.iconst 3, 1) := by decide +kernel
theorem d_M_edition_21 : decode b_M_edition 21 = .ok (.if_icmp .ne 7, 3) := by decide +kernel
theorem d_M_edition_24 : decode b_M_edition 24 = .ok (.iconst 1, 1) := by decide +kernel
theorem d_M_edition_25 : decode b_M_edition 25 = .ok (.goto 4, 3) := by decide +kernel
theorem d_M_edition_28 : decode b_M_edition 28 = .ok (.iconst 0, 1) := by decide +kernel
theorem d_M_edition_29 : decode b_M_edition 29 = .ok (.aload_n 0, 1) := by decide +kernel
theorem d_M_edition_30 : decode b_M_edition 30 = .ok (.getfield 99, 3) := by decide +kernel
theorem d_M_edition_33 : decode b_M_edition 33 = .ok (.bipush 30, 2) := by decide +kernel
theorem d_M_edition_35 : decode b_M_edition 35 = .ok (.if_icmp .ge 7, 3) := by decide +kernel
theorem d_M_edition_38 : decode b_M_edition 38 = .ok (.iconst 1, 1) := by decide +kernel
theorem d_M_edition_39 : decode b_M_edition 39 = .ok (.goto 4, 3) := by decide +kernel
theorem d_M_edition_42 : decode b_M_edition 42 = .ok (.iconst 0, 1) := by decide +kernel
theorem d_M_edition_43 : decode b_M_edition 43 = .ok (.invokevirtual 109, 3) := by decide +kernel
theorem d_M_edition_46 : decode b_M_edition 46 = .ok (.ifCond .ne 5, 3) := by decide +kernel
theorem d_M_edition_49 : decode b_M_edition 49 = .ok (.iconst 0, 1) := by decide +kernel
theorem d_M_edition_50 : decode b_M_edition 50 = .ok (.ireturn, 1) := by decide +kernel
theorem d_M_edition_51 : decode b_M_edition 51 = .ok (.aload_n 0, 1) := by decide +kernel
theorem d_M_edition_52 : decode b_M_edition 52 = .ok (.aload_n 0, 1) := by decide +kernel
theorem d_M_edition_53 : decode b_M_edition 53 = .ok (.getfield 7, 3) := by decide +kernel
theorem d_M_edition_56 : decode b_M_edition 56 = .ok (.iload_n 1, 1) := by decide +kernel
theorem d_M_edition_57 : decode b_M_edition 57 = .ok (.iaload, 1) := by decide +kernel
theorem d_M_edition_58 : decode b_M_edition 58 = .ok (.aload_n 0, 1) := by decide +kernel
theorem d_M_edition_59 : decode b_M_edition 59 = .ok (.getfield 13, 3) := by decide +kernel
theorem d_M_edition_62 : decode b_M_edition 62 = .ok (.iload_n 1, 1) := by decide +kernel
theorem d_M_edition_63 : decode b_M_edition 63 = .ok (.iaload, 1) := by decide +kernel
theorem d_M_edition_64 : decode b_M_edition 64 = .ok (.iload_n 1, 1) := by decide +kernel
theorem d_M_edition_65 : decode b_M_edition 65 = .ok (.invokevirtual 113, 3) := by decide +kernel
theorem d_M_edition_68 : decode b_M_edition 68 = .ok (.istore_n 2, 1) := by decide +kernel
theorem d_M_edition_69 : decode b_M_edition 69 = .ok (.iconst 0, 1) := by decide +kernel
theorem d_M_edition_70 : decode b_M_edition 70 = .ok (.istore_n 3, 1) := by decide +kernel
theorem d_M_edition_71 : decode b_M_edition 71 = .ok (.iload_n 3, 1) := by decide +kernel
theorem d_M_edition_72 : decode b_M_edition 72 = .ok (.bipush 20, 2) := by decide +kernel
theorem d_M_edition_74 : decode b_M_edition 74 = .ok (.if_icmp .ge 75, 3) := by decide +kernel
theorem d_M_edition_77 : decode b_M_edition 77 = .ok (.aload_n 0, 1) := by decide +kernel
theorem d_M_edition_78 : decode b_M_edition 78 = .ok (.getfield 31, 3) := by decide +kernel
theorem d_M_edition_81 : decode b_M_edition 81 = .ok (.bipush 20, 2) := by decide +kernel
theorem d_M_edition_83 : decode b_M_edition 83 = .ok (.iload_n 2, 1) := by decide +kernel
theorem d_M_edition_84 : decode b_M_edition 84 = .ok (.imul, 1) := by decide +kernel
theorem d_M_edition_85 : decode b_M_edition 85 = .ok (.iload_n 3, 1) := by decide +kernel
theorem d_M_edition_86 : decode b_M_edition 86 = .ok (.iadd, 1) := by decide +kernel
theorem d_M_edition_87 : decode b_M_edition 87 = .ok (.aload_n 0, 1) := by decide +kernel
theorem d_M_edition_88 : decode b_M_edition 88 = .ok (.getfield 31, 3) := by decide +kernel
theorem d_M_edition_91 : decode b_M_edition 91 = .ok (.bipush 20, 2) := by decide +kernel
theorem d_M_edition_93 : decode b_M_edition 93 = .ok (.iload_n 1, 1) := by decide +kernel
theorem d_M_edition_94 : decode b_M_edition 94 = .ok (.imul, 1) := by decide +kernel
theorem d_M_edition_95 : decode b_M_edition 95 = .ok (.iload_n 3, 1) := by decide +kernel
theorem d_M_edition_96 : decode b_M_edition 96 = .ok (.iadd, 1) := by decide +kernel
theorem d_M_edition_97 : decode b_M_edition 97 = .ok (.baload, 1) := by decide +kernel
theorem d_M_edition_98 : decode b_M_edition 98 = .ok (.bastore, 1) := by decide +kernel
theorem d_M_edition_99 : decode b_M_edition 99 = .ok (.aload_n 0, 1) := by decide +kernel
theorem d_M_edition_100 : decode b_M_edition 100 = .ok (.getfield 35, 3) := by decide +kernel
theorem d_M_edition_103 : decode b_M_edition 103 = .ok (.bipush 20, 2) := by decide +kernel
theorem d_M_edition_105 : decode b_M_edition 105 = .ok (.iload_n 2, 1) := by decide +kernel
theorem d_M_edition_106 : decode b_M_edition 106 = .ok (.imul, 1) := by decide +kernel
theorem d_M_edition_107 : decode b_M_edition 107 = .ok (.iload_n 3, 1) := by decide +kernel
theorem d_M_edition_108 : decode b_M_edition 108 = .ok (.iadd, 1) := by decide +kernel
theorem d_M_edition_109 : decode b_M_edition 109 = .ok (.aload_n 0, 1) := by decide +kernel
theorem d_M_edition_110 : decode b_M_edition 110 = .ok (.getfield 35, 3) := by decide +kernel
theorem d_M_edition_113 : decode b_M_edition 113 = .ok (.bipush 20, 2) := by decide +kernel
theorem d_M_edition_115 : decode b_M_edition 115 = .ok (.iload_n 1, 1) := by decide +kernel
theorem d_M_edition_116 : decode b_M_edition 116 = .ok (.imul, 1) := by decide +kernel
theorem d_M_edition_117 : decode b_M_edition 117 = .ok (.iload_n 3, 1) := by decide +kernel
theorem d_M_edition_118 : decode b_M_edition 118 = .ok (.iadd, 1) := by decide +kernel
theorem d_M_edition_119 : decode b_M_edition 119 = .ok (.baload, 1) := by decide +kernel
theorem d_M_edition_120 : decode b_M_edition 120 = .ok (.bastore, 1) := by decide +kernel
theorem d_M_edition_121 : decode b_M_edition 121 = .ok (.aload_n 0, 1) := by decide +kernel
theorem d_M_edition_122 : decode b_M_edition 122 = .ok (.getfield 41, 3) := by decide +kernel
theorem d_M_edition_125 : decode b_M_edition 125 = .ok (.bipush 20, 2) := by decide +kernel
theorem d_M_edition_127 : decode b_M_edition 127 = .ok (.iload_n 2, 1) := by decide +kernel
theorem d_M_edition_128 : decode b_M_edition 128 = .ok (.imul, 1) := by decide +kernel
theorem d_M_edition_129 : decode b_M_edition 129 = .ok (.iload_n 3, 1) := by decide +kernel
theorem d_M_edition_130 : decode b_M_edition 130 = .ok (.iadd, 1) := by decide +kernel
theorem d_M_edition_131 : decode b_M_edition 131 = .ok (.aload_n 0, 1) := by decide +kernel
theorem d_M_edition_132 : decode b_M_edition 132 = .ok (.getfield 41, 3) := by decide +kernel
theorem d_M_edition_135 : decode b_M_edition 135 = .ok (.bipush 20, 2) := by decide +kernel
theorem d_M_edition_137 : decode b_M_edition 137 = .ok (.iload_n 1, 1) := by decide +kernel
theorem d_M_edition_138 : decode b_M_edition 138 = .ok (.imul, 1) := by decide +kernel
theorem d_M_edition_139 : decode b_M_edition 139 = .ok (.iload_n 3, 1) := by decide +kernel
theorem d_M_edition_140 : decode b_M_edition 140 = .ok (.iadd, 1) := by decide +kernel
theorem d_M_edition_141 : decode b_M_edition 141 = .ok (.iaload, 1) := by decide +kernel
theorem d_M_edition_142 : decode b_M_edition 142 = .ok (.iastore, 1) := by decide +kernel
theorem d_M_edition_143 : decode b_M_edition 143 = .ok (.iinc 3 1, 3) := by decide +kernel
theorem d_M_edition_146 : decode b_M_edition 146 = .ok (.goto (-75), 3) := by decide +kernel
theorem d_M_edition_149 : decode b_M_edition 149 = .ok (.iload_n 2, 1) := by decide +kernel
theorem d_M_edition_150 : decode b_M_edition 150 = .ok (.ireturn, 1) := by decide +kernel
def y_M_fault : MethodName := ⟨cR6, "fault", "(II)V"⟩
abbrev b_M_fault : ByteArray := prog_8_method_37_code
abbrev k_M_fault : Cond := .code y_M_fault b_M_fault 4 none
theorem mc_M_fault : MC y_M_fault k_M_fault b_M_fault 4 none [] 2 := ⟨g_in (List.mem_of_getElem? (i := 1007) (by decide +kernel)) (by decide +kernel), Or.inl ⟨rfl, rfl⟩, g_in (List.mem_of_getElem? (i := 62) (by decide +kernel)) (by decide +kernel), by decide, by decide +kernel⟩
theorem in_M_fault : Cond.instanceMethod y_M_fault ∈ g_ws := g_in (List.mem_of_getElem? (i := 1005) (by decide +kernel)) (by decide +kernel)
theorem se_M_fault : Cond.selects cR6 y_M_fault y_M_fault ∈ g_ws := g_in (List.mem_of_getElem? (i := 1006) (by decide +kernel)) (by decide +kernel)
theorem d_M_fault_0 : decode b_M_fault 0 = .ok (.aload_n 0, 1) := by decide +kernel
theorem d_M_fault_1 : decode b_M_fault 1 = .ok (.iload_n 1, 1) := by decide +kernel
theorem d_M_fault_2 : decode b_M_fault 2 = .ok (.invokevirtual 121, 3) := by decide +kernel
theorem d_M_fault_5 : decode b_M_fault 5 = .ok (.ifCond .eq 14, 3) := by decide +kernel
theorem d_M_fault_8 : decode b_M_fault 8 = .ok (.iload_n 2, 1) := by decide +kernel
theorem d_M_fault_9 : decode b_M_fault 9 = .ok (.invokestatic 117, 3) := by decide +kernel
theorem d_M_fault_12 : decode b_M_fault 12 = .ok (.ifCond .eq 7, 3) := by decide +kernel
theorem d_M_fault_15 : decode b_M_fault 15 = .ok (.iconst 1, 1) := by decide +kernel
theorem d_M_fault_16 : decode b_M_fault 16 = .ok (.goto 4, 3) := by decide +kernel
theorem d_M_fault_19 : decode b_M_fault 19 = .ok (.iconst 0, 1) := by decide +kernel
theorem d_M_fault_20 : decode b_M_fault 20 = .ok (.istore_n 3, 1) := by decide +kernel
theorem d_M_fault_21 : decode b_M_fault 21 = .ok (.aload_n 0, 1) := by decide +kernel
theorem d_M_fault_22 : decode b_M_fault 22 = .ok (.iload_n 3, 1) := by decide +kernel
theorem d_M_fault_23 : decode b_M_fault 23 = .ok (.iload_n 3, 1) := by decide +kernel
theorem d_M_fault_24 : decode b_M_fault 24 = .ok (.ifCond .eq 31, 3) := by decide +kernel
theorem d_M_fault_27 : decode b_M_fault 27 = .ok (.aload_n 0, 1) := by decide +kernel
theorem d_M_fault_28 : decode b_M_fault 28 = .ok (.getfield 25, 3) := by decide +kernel
theorem d_M_fault_31 : decode b_M_fault 31 = .ok (.iload_n 1, 1) := by decide +kernel
theorem d_M_fault_32 : decode b_M_fault 32 = .ok (.iaload, 1) := by decide +kernel
theorem d_M_fault_33 : decode b_M_fault 33 = .ok (.iconst 3, 1) := by decide +kernel
theorem d_M_fault_34 : decode b_M_fault 34 = .ok (.if_icmp .ne 21, 3) := by decide +kernel
theorem d_M_fault_37 : decode b_M_fault 37 = .ok (.aload_n 0, 1) := by decide +kernel
theorem d_M_fault_38 : decode b_M_fault 38 = .ok (.getfield 38, 3) := by decide +kernel
theorem d_M_fault_41 : decode b_M_fault 41 = .ok (.bipush 20, 2) := by decide +kernel
theorem d_M_fault_43 : decode b_M_fault 43 = .ok (.iload_n 1, 1) := by decide +kernel
theorem d_M_fault_44 : decode b_M_fault 44 = .ok (.imul, 1) := by decide +kernel
theorem d_M_fault_45 : decode b_M_fault 45 = .ok (.iload_n 2, 1) := by decide +kernel
theorem d_M_fault_46 : decode b_M_fault 46 = .ok (.iadd, 1) := by decide +kernel
theorem d_M_fault_47 : decode b_M_fault 47 = .ok (.baload, 1) := by decide +kernel
theorem d_M_fault_48 : decode b_M_fault 48 = .ok (.ifCond .ne 7, 3) := by decide +kernel
theorem d_M_fault_51 : decode b_M_fault 51 = .ok (.iconst 1, 1) := by decide +kernel
theorem d_M_fault_52 : decode b_M_fault 52 = .ok (.goto 4, 3) := by decide +kernel
theorem d_M_fault_55 : decode b_M_fault 55 = .ok (.iconst 0, 1) := by decide +kernel
theorem d_M_fault_56 : decode b_M_fault 56 = .ok (.iconst 1, 1) := by decide +kernel
theorem d_M_fault_57 : decode b_M_fault 57 = .ok (.invokevirtual 109, 3) := by decide +kernel
theorem d_M_fault_60 : decode b_M_fault 60 = .ok (.ifCond .eq 15, 3) := by decide +kernel
theorem d_M_fault_63 : decode b_M_fault 63 = .ok (.aload_n 0, 1) := by decide +kernel
theorem d_M_fault_64 : decode b_M_fault 64 = .ok (.getfield 38, 3) := by decide +kernel
theorem d_M_fault_67 : decode b_M_fault 67 = .ok (.bipush 20, 2) := by decide +kernel
theorem d_M_fault_69 : decode b_M_fault 69 = .ok (.iload_n 1, 1) := by decide +kernel
theorem d_M_fault_70 : decode b_M_fault 70 = .ok (.imul, 1) := by decide +kernel
theorem d_M_fault_71 : decode b_M_fault 71 = .ok (.iload_n 2, 1) := by decide +kernel
theorem d_M_fault_72 : decode b_M_fault 72 = .ok (.iadd, 1) := by decide +kernel
theorem d_M_fault_73 : decode b_M_fault 73 = .ok (.iconst 1, 1) := by decide +kernel
theorem d_M_fault_74 : decode b_M_fault 74 = .ok (.bastore, 1) := by decide +kernel
theorem d_M_fault_75 : decode b_M_fault 75 = .ok (.return_, 1) := by decide +kernel
def y_M_hide : MethodName := ⟨cR6, "hide", "(IIZ)V"⟩
abbrev b_M_hide : ByteArray := prog_8_method_38_code
abbrev k_M_hide : Cond := .code y_M_hide b_M_hide 4 none
theorem mc_M_hide : MC y_M_hide k_M_hide b_M_hide 4 none [] 3 := ⟨g_in (List.mem_of_getElem? (i := 1011) (by decide +kernel)) (by decide +kernel), Or.inl ⟨rfl, rfl⟩, g_in (List.mem_of_getElem? (i := 62) (by decide +kernel)) (by decide +kernel), by decide, by decide +kernel⟩
theorem in_M_hide : Cond.instanceMethod y_M_hide ∈ g_ws := g_in (List.mem_of_getElem? (i := 1009) (by decide +kernel)) (by decide +kernel)
theorem se_M_hide : Cond.selects cR6 y_M_hide y_M_hide ∈ g_ws := g_in (List.mem_of_getElem? (i := 1010) (by decide +kernel)) (by decide +kernel)
theorem d_M_hide_0 : decode b_M_hide 0 = .ok (.aload_n 0, 1) := by decide +kernel
theorem d_M_hide_1 : decode b_M_hide 1 = .ok (.iload_n 1, 1) := by decide +kernel
theorem d_M_hide_2 : decode b_M_hide 2 = .ok (.invokestatic 117, 3) := by decide +kernel
theorem d_M_hide_5 : decode b_M_hide 5 = .ok (.ifCond .eq 14, 3) := by decide +kernel
theorem d_M_hide_8 : decode b_M_hide 8 = .ok (.iload_n 2, 1) := by decide +kernel
theorem d_M_hide_9 : decode b_M_hide 9 = .ok (.invokestatic 200, 3) := by decide +kernel
theorem d_M_hide_12 : decode b_M_hide 12 = .ok (.ifCond .eq 7, 3) := by decide +kernel
theorem d_M_hide_15 : decode b_M_hide 15 = .ok (.iconst 1, 1) := by decide +kernel
theorem d_M_hide_16 : decode b_M_hide 16 = .ok (.goto 4, 3) := by decide +kernel
theorem d_M_hide_19 : decode b_M_hide 19 = .ok (.iconst 0, 1) := by decide +kernel
theorem d_M_hide_20 : decode b_M_hide 20 = .ok (.iconst 1, 1) := by decide +kernel
theorem d_M_hide_21 : decode b_M_hide 21 = .ok (.iconst 1, 1) := by decide +kernel
theorem d_M_hide_22 : decode b_M_hide 22 = .ok (.invokevirtual 109, 3) := by decide +kernel
theorem d_M_hide_25 : decode b_M_hide 25 = .ok (.ifCond .eq 15, 3) := by decide +kernel
theorem d_M_hide_28 : decode b_M_hide 28 = .ok (.aload_n 0, 1) := by decide +kernel
theorem d_M_hide_29 : decode b_M_hide 29 = .ok (.getfield 47, 3) := by decide +kernel
theorem d_M_hide_32 : decode b_M_hide 32 = .ok (.bipush 20, 2) := by decide +kernel
theorem d_M_hide_34 : decode b_M_hide 34 = .ok (.iload_n 1, 1) := by decide +kernel
theorem d_M_hide_35 : decode b_M_hide 35 = .ok (.imul, 1) := by decide +kernel
theorem d_M_hide_36 : decode b_M_hide 36 = .ok (.iload_n 2, 1) := by decide +kernel
theorem d_M_hide_37 : decode b_M_hide 37 = .ok (.iadd, 1) := by decide +kernel
theorem d_M_hide_38 : decode b_M_hide 38 = .ok (.iload_n 3, 1) := by decide +kernel
theorem d_M_hide_39 : decode b_M_hide 39 = .ok (.bastore, 1) := by decide +kernel
theorem d_M_hide_40 : decode b_M_hide 40 = .ok (.return_, 1) := by decide +kernel
def y_M_write : MethodName := ⟨cR6, "write", "(I)V"⟩
abbrev b_M_write : ByteArray := prog_8_method_39_code
abbrev k_M_write : Cond := .code y_M_write b_M_write 2 none
theorem mc_M_write : MC y_M_write k_M_write b_M_write 2 none [] 1 := ⟨g_in (List.mem_of_getElem? (i := 1019) (by decide +kernel)) (by decide +kernel), Or.inl ⟨rfl, rfl⟩, g_in (List.mem_of_getElem? (i := 62) (by decide +kernel)) (by decide +kernel), by decide, by decide +kernel⟩
theorem in_M_write : Cond.instanceMethod y_M_write ∈ g_ws := g_in (List.mem_of_getElem? (i := 1018) (by decide +kernel)) (by decide +kernel)
theorem se_M_write : Cond.selects cR6 y_M_write y_M_write ∈ g_ws := g_in (List.mem_of_getElem? (i := 54) (by decide +kernel)) (by decide +kernel)
theorem d_M_write_0 : decode b_M_write 0 = .ok (.aload_n 0, 1) := by decide +kernel
theorem d_M_write_1 : decode b_M_write 1 = .ok (.getfield 93, 3) := by decide +kernel
theorem d_M_write_4 : decode b_M_write 4 = .ok (.aload_n 0, 1) := by decide +kernel
theorem d_M_write_5 : decode b_M_write 5 = .ok (.getfield 206, 3) := by decide +kernel
theorem d_M_write_8 : decode b_M_write 8 = .ok (.iload_n 1, 1) := by decide +kernel
theorem d_M_write_9 : decode b_M_write 9 = .ok (.iastore, 1) := by decide +kernel
theorem d_M_write_10 : decode b_M_write 10 = .ok (.aload_n 0, 1) := by decide +kernel
theorem d_M_write_11 : decode b_M_write 11 = .ok (.dup, 1) := by decide +kernel
theorem d_M_write_12 : decode b_M_write 12 = .ok (.getfield 206, 3) := by decide +kernel
theorem d_M_write_15 : decode b_M_write 15 = .ok (.iconst 1, 1) := by decide +kernel
theorem d_M_write_16 : decode b_M_write 16 = .ok (.iadd, 1) := by decide +kernel
theorem d_M_write_17 : decode b_M_write 17 = .ok (.putfield 206, 3) := by decide +kernel
theorem d_M_write_20 : decode b_M_write 20 = .ok (.return_, 1) := by decide +kernel
def y_M_number0 : MethodName := ⟨cR6, "number0", "(I)V"⟩
abbrev b_M_number0 : ByteArray := prog_8_method_40_code
abbrev k_M_number0 : Cond := .code y_M_number0 b_M_number0 4 none
theorem mc_M_number0 : MC y_M_number0 k_M_number0 b_M_number0 4 none [] 1 := ⟨g_in (List.mem_of_getElem? (i := 1023) (by decide +kernel)) (by decide +kernel), Or.inl ⟨rfl, rfl⟩, g_in (List.mem_of_getElem? (i := 62) (by decide +kernel)) (by decide +kernel), by decide, by decide +kernel⟩
theorem in_M_number0 : Cond.instanceMethod y_M_number0 ∈ g_ws := g_in (List.mem_of_getElem? (i := 1022) (by decide +kernel)) (by decide +kernel)
theorem se_M_number0 : Cond.selects cR6 y_M_number0 y_M_number0 ∈ g_ws := g_in (List.mem_of_getElem? (i := 55) (by decide +kernel)) (by decide +kernel)
theorem d_M_number0_0 : decode b_M_number0 0 = .ok (.iload_n 1, 1) := by decide +kernel
theorem d_M_number0_1 : decode b_M_number0 1 = .ok (.ifCond .ge 9, 3) := by decide +kernel
theorem d_M_number0_4 : decode b_M_number0 4 = .ok (.aload_n 0, 1) := by decide +kernel
theorem d_M_number0_5 : decode b_M_number0 5 = .ok (.bipush 45, 2) := by decide +kernel
theorem d_M_number0_7 : decode b_M_number0 7 = .ok (.invokevirtual 209, 3) := by decide +kernel
theorem d_M_number0_10 : decode b_M_number0 10 = .ok (.iload_n 1, 1) := by decide +kernel
theorem d_M_number0_11 : decode b_M_number0 11 = .ok (.ifCond .ge 8, 3) := by decide +kernel
theorem d_M_number0_14 : decode b_M_number0 14 = .ok (.iload_n 1, 1) := by decide +kernel
theorem d_M_number0_15 : decode b_M_number0 15 = .ok (.ineg, 1) := by decide +kernel
theorem d_M_number0_16 : decode b_M_number0 16 = .ok (.goto 4, 3) := by decide +kernel
theorem d_M_number0_19 : decode b_M_number0 19 = .ok (.iload_n 1, 1) := by decide +kernel
theorem d_M_number0_20 : decode b_M_number0 20 = .ok (.istore_n 2, 1) := by decide +kernel
theorem d_M_number0_21 : decode b_M_number0 21 = .ok (.iconst 1, 1) := by decide +kernel
theorem d_M_number0_22 : decode b_M_number0 22 = .ok (.istore_n 3, 1) := by decide +kernel
theorem d_M_number0_23 : decode b_M_number0 23 = .ok (.iload_n 2, 1) := by decide +kernel
theorem d_M_number0_24 : decode b_M_number0 24 = .ok (.iload_n 3, 1) := by decide +kernel
theorem d_M_number0_25 : decode b_M_number0 25 = .ok (.idiv, 1) := by decide +kernel
theorem d_M_number0_26 : decode b_M_number0 26 = .ok (.bipush 9, 2) := by decide +kernel
theorem d_M_number0_28 : decode b_M_number0 28 = .ok (.if_icmp .le 11, 3) := by decide +kernel
theorem d_M_number0_31 : decode b_M_number0 31 = .ok (.bipush 10, 2) := by decide +kernel
theorem d_M_number0_33 : decode b_M_number0 33 = .ok (.iload_n 3, 1) := by decide +kernel
theorem d_M_number0_34 : decode b_M_number0 34 = .ok (.imul, 1) := by decide +kernel
theorem d_M_number0_35 : decode b_M_number0 35 = .ok (.istore_n 3, 1) := by decide +kernel
theorem d_M_number0_36 : decode b_M_number0 36 = .ok (.goto (-13), 3) := by decide +kernel
theorem d_M_number0_39 : decode b_M_number0 39 = .ok (.iload_n 3, 1) := by decide +kernel
theorem d_M_number0_40 : decode b_M_number0 40 = .ok (.ifCond .le 24, 3) := by decide +kernel
theorem d_M_number0_43 : decode b_M_number0 43 = .ok (.aload_n 0, 1) := by decide +kernel
theorem d_M_number0_44 : decode b_M_number0 44 = .ok (.bipush 48, 2) := by decide +kernel
theorem d_M_number0_46 : decode b_M_number0 46 = .ok (.iload_n 2, 1) := by decide +kernel
theorem d_M_number0_47 : decode b_M_number0 47 = .ok (.iload_n 3, 1) := by decide +kernel
theorem d_M_number0_48 : decode b_M_number0 48 = .ok (.idiv, 1) := by decide +kernel
theorem d_M_number0_49 : decode b_M_number0 49 = .ok (.bipush 10, 2) := by decide +kernel
theorem d_M_number0_51 : decode b_M_number0 51 = .ok (.irem, 1) := by decide +kernel
theorem d_M_number0_52 : decode b_M_number0 52 = .ok (.iadd, 1) := by decide +kernel
theorem d_M_number0_53 : decode b_M_number0 53 = .ok (.invokevirtual 209, 3) := by decide +kernel
theorem d_M_number0_56 : decode b_M_number0 56 = .ok (.iload_n 3, 1) := by decide +kernel
theorem d_M_number0_57 : decode b_M_number0 57 = .ok (.bipush 10, 2) := by decide +kernel
theorem d_M_number0_59 : decode b_M_number0 59 = .ok (.idiv, 1) := by decide +kernel
theorem d_M_number0_60 : decode b_M_number0 60 = .ok (.istore_n 3, 1) := by decide +kernel
theorem d_M_number0_61 : decode b_M_number0 61 = .ok (.goto (-22), 3) := by decide +kernel
theorem d_M_number0_64 : decode b_M_number0 64 = .ok (.return_, 1) := by decide +kernel
def y_M_code : MethodName := ⟨cR6, "code", "(II)I"⟩
abbrev b_M_code : ByteArray := prog_8_method_41_code
abbrev k_M_code : Cond := .code y_M_code b_M_code 4 (some .int)
theorem mc_M_code : MC y_M_code k_M_code b_M_code 4 (some .int) [] 2 := ⟨g_in (List.mem_of_getElem? (i := 1015) (by decide +kernel)) (by decide +kernel), Or.inl ⟨rfl, rfl⟩, g_in (List.mem_of_getElem? (i := 62) (by decide +kernel)) (by decide +kernel), by decide, by decide +kernel⟩
theorem in_M_code : Cond.instanceMethod y_M_code ∈ g_ws := g_in (List.mem_of_getElem? (i := 1013) (by decide +kernel)) (by decide +kernel)
theorem se_M_code : Cond.selects cR6 y_M_code y_M_code ∈ g_ws := g_in (List.mem_of_getElem? (i := 1014) (by decide +kernel)) (by decide +kernel)
theorem d_M_code_0 : decode b_M_code 0 = .ok (.aload_n 0, 1) := by decide +kernel
theorem d_M_code_1 : decode b_M_code 1 = .ok (.aload_n 0, 1) := by decide +kernel
theorem d_M_code_2 : decode b_M_code 2 = .ok (.iload_n 1, 1) := by decide +kernel
theorem d_M_code_3 : decode b_M_code 3 = .ok (.invokevirtual 121, 3) := by decide +kernel
theorem d_M_code_6 : decode b_M_code 6 = .ok (.ifCond .eq 14, 3) := by decide +kernel
theorem d_M_code_9 : decode b_M_code 9 = .ok (.iload_n 2, 1) := by decide +kernel
theorem d_M_code_10 : decode b_M_code 10 = .ok (.invokestatic 200, 3) := by decide +kernel
theorem d_M_code_13 : decode b_M_code 13 = .ok (.ifCond .eq 7, 3) := by decide +kernel
theorem d_M_code_16 : decode b_M_code 16 = .ok (.iconst 1, 1) := by decide +kernel
theorem d_M_code_17 : decode b_M_code 17 = .ok (.goto 4, 3) := by decide +kernel
theorem d_M_code_20 : decode b_M_code 20 = .ok (.iconst 0, 1) := by decide +kernel
theorem d_M_code_21 : decode b_M_code 21 = .ok (.iconst 1, 1) := by decide +kernel
theorem d_M_code_22 : decode b_M_code 22 = .ok (.iconst 1, 1) := by decide +kernel
theorem d_M_code_23 : decode b_M_code 23 = .ok (.invokevirtual 109, 3) := by decide +kernel
theorem d_M_code_26 : decode b_M_code 26 = .ok (.ifCond .ne 5, 3) := by decide +kernel
theorem d_M_code_29 : decode b_M_code 29 = .ok (.iconst 0, 1) := by decide +kernel
theorem d_M_code_30 : decode b_M_code 30 = .ok (.ireturn, 1) := by decide +kernel
theorem d_M_code_31 : decode b_M_code 31 = .ok (.aload_n 0, 1) := by decide +kernel
theorem d_M_code_32 : decode b_M_code 32 = .ok (.iconst 0, 1) := by decide +kernel
theorem d_M_code_33 : decode b_M_code 33 = .ok (.putfield 206, 3) := by decide +kernel
theorem d_M_code_36 : decode b_M_code 36 = .ok (.aload_n 0, 1) := by decide +kernel
theorem d_M_code_37 : decode b_M_code 37 = .ok (.bipush 82, 2) := by decide +kernel
theorem d_M_code_39 : decode b_M_code 39 = .ok (.invokevirtual 209, 3) := by decide +kernel
theorem d_M_code_42 : decode b_M_code 42 = .ok (.aload_n 0, 1) := by decide +kernel
theorem d_M_code_43 : decode b_M_code 43 = .ok (.aload_n 0, 1) := by decide +kernel
theorem d_M_code_44 : decode b_M_code 44 = .ok (.getfield 7, 3) := by decide +kernel
theorem d_M_code_47 : decode b_M_code 47 = .ok (.iload_n 1, 1) := by decide +kernel
theorem d_M_code_48 : decode b_M_code 48 = .ok (.iaload, 1) := by decide +kernel
theorem d_M_code_49 : decode b_M_code 49 = .ok (.invokevirtual 212, 3) := by decide +kernel
theorem d_M_code_52 : decode b_M_code 52 = .ok (.aload_n 0, 1) := by decide +kernel
theorem d_M_code_53 : decode b_M_code 53 = .ok (.bipush 44, 2) := by decide +kernel
theorem d_M_code_55 : decode b_M_code 55 = .ok (.invokevirtual 209, 3) := by decide +kernel
theorem d_M_code_58 : decode b_M_code 58 = .ok (.iconst 0, 1) := by decide +kernel
theorem d_M_code_59 : decode b_M_code 59 = .ok (.istore_n 3, 1) := by decide +kernel
theorem d_M_code_60 : decode b_M_code 60 = .ok (.iload_n 3, 1) := by decide +kernel
theorem d_M_code_61 : decode b_M_code 61 = .ok (.bipush 20, 2) := by decide +kernel
theorem d_M_code_63 : decode b_M_code 63 = .ok (.if_icmp .ge 81, 3) := by decide +kernel
theorem d_M_code_66 : decode b_M_code 66 = .ok (.aload_n 0, 1) := by decide +kernel
theorem d_M_code_67 : decode b_M_code 67 = .ok (.getfield 31, 3) := by decide +kernel
theorem d_M_code_70 : decode b_M_code 70 = .ok (.bipush 20, 2) := by decide +kernel
theorem d_M_code_72 : decode b_M_code 72 = .ok (.iload_n 1, 1) := by decide +kernel
theorem d_M_code_73 : decode b_M_code 73 = .ok (.imul, 1) := by decide +kernel
theorem d_M_code_74 : decode b_M_code 74 = .ok (.iload_n 3, 1) := by decide +kernel
theorem d_M_code_75 : decode b_M_code 75 = .ok (.iadd, 1) := by decide +kernel
theorem d_M_code_76 : decode b_M_code 76 = .ok (.baload, 1) := by decide +kernel
theorem d_M_code_77 : decode b_M_code 77 = .ok (.ifCond .ne 6, 3) := by decide +kernel
theorem d_M_code_80 : decode b_M_code 80 = .ok (.goto 58, 3) := by decide +kernel
theorem d_M_code_83 : decode b_M_code 83 = .ok (.aload_n 0, 1) := by decide +kernel
theorem d_M_code_84 : decode b_M_code 84 = .ok (.iload_n 3, 1) := by decide +kernel
theorem d_M_code_85 : decode b_M_code 85 = .ok (.invokevirtual 212, 3) := by decide +kernel
theorem d_M_code_88 : decode b_M_code 88 = .ok (.aload_n 0, 1) := by decide +kernel
theorem d_M_code_89 : decode b_M_code 89 = .ok (.bipush 58, 2) := by decide +kernel
theorem d_M_code_91 : decode b_M_code 91 = .ok (.invokevirtual 209, 3) := by decide +kernel
theorem d_M_code_94 : decode b_M_code 94 = .ok (.aload_n 0, 1) := by decide +kernel
theorem d_M_code_95 : decode b_M_code 95 = .ok (.getfield 47, 3) := by decide +kernel
theorem d_M_code_98 : decode b_M_code 98 = .ok (.bipush 20, 2) := by decide +kernel
theorem d_M_code_100 : decode b_M_code 100 = .ok (.iload_n 3, 1) := by decide +kernel
theorem d_M_code_101 : decode b_M_code 101 = .ok (.imul, 1) := by decide +kernel
theorem d_M_code_102 : decode b_M_code 102 = .ok (.iload_n 2, 1) := by decide +kernel
theorem d_M_code_103 : decode b_M_code 103 = .ok (.iadd, 1) := by decide +kernel
theorem d_M_code_104 : decode b_M_code 104 = .ok (.baload, 1) := by decide +kernel
theorem d_M_code_105 : decode b_M_code 105 = .ok (.ifCond .eq 12, 3) := by decide +kernel
theorem d_M_code_108 : decode b_M_code 108 = .ok (.aload_n 0, 1) := by decide +kernel
theorem d_M_code_109 : decode b_M_code 109 = .ok (.bipush 42, 2) := by decide +kernel
theorem d_M_code_111 : decode b_M_code 111 = .ok (.invokevirtual 209, 3) := by decide +kernel
theorem d_M_code_114 : decode b_M_code 114 = .ok (.goto 18, 3) := by decide +kernel
theorem d_M_code_117 : decode b_M_code 117 = .ok (.aload_n 0, 1) := by decide +kernel
theorem d_M_code_118 : decode b_M_code 118 = .ok (.aload_n 0, 1) := by decide +kernel
theorem d_M_code_119 : decode b_M_code 119 = .ok (.getfield 41, 3) := by decide +kernel
theorem d_M_code_122 : decode b_M_code 122 = .ok (.bipush 20, 2) := by decide +kernel
theorem d_M_code_124 : decode b_M_code 124 = .ok (.iload_n 1, 1) := by decide +kernel
theorem d_M_code_125 : decode b_M_code 125 = .ok (.imul, 1) := by decide +kernel
theorem d_M_code_126 : decode b_M_code 126 = .ok (.iload_n 3, 1) := by decide +kernel
theorem d_M_code_127 : decode b_M_code 127 = .ok (.iadd, 1) := by decide +kernel
theorem d_M_code_128 : decode b_M_code 128 = .ok (.iaload, 1) := by decide +kernel
theorem d_M_code_129 : decode b_M_code 129 = .ok (.invokevirtual 212, 3) := by decide +kernel
theorem d_M_code_132 : decode b_M_code 132 = .ok (.aload_n 0, 1) := by decide +kernel
theorem d_M_code_133 : decode b_M_code 133 = .ok (.bipush 59, 2) := by decide +kernel
theorem d_M_code_135 : decode b_M_code 135 = .ok (.invokevirtual 209, 3) := by decide +kernel
theorem d_M_code_138 : decode b_M_code 138 = .ok (.iinc 3 1, 3) := by decide +kernel
theorem d_M_code_141 : decode b_M_code 141 = .ok (.goto (-81), 3) := by decide +kernel
theorem d_M_code_144 : decode b_M_code 144 = .ok (.aload_n 0, 1) := by decide +kernel
theorem d_M_code_145 : decode b_M_code 145 = .ok (.getfield 206, 3) := by decide +kernel
theorem d_M_code_148 : decode b_M_code 148 = .ok (.ireturn, 1) := by decide +kernel
def y_M_at : MethodName := ⟨cR6, "at", "(I)I"⟩
abbrev b_M_at : ByteArray := prog_8_method_42_code
abbrev k_M_at : Cond := .code y_M_at b_M_at 2 (some .int)
theorem mc_M_at : MC y_M_at k_M_at b_M_at 2 (some .int) [] 1 := ⟨g_in (List.mem_of_getElem? (i := 1027) (by decide +kernel)) (by decide +kernel), Or.inl ⟨rfl, rfl⟩, g_in (List.mem_of_getElem? (i := 62) (by decide +kernel)) (by decide +kernel), by decide, by decide +kernel⟩
theorem in_M_at : Cond.instanceMethod y_M_at ∈ g_ws := g_in (List.mem_of_getElem? (i := 1025) (by decide +kernel)) (by decide +kernel)
theorem se_M_at : Cond.selects cR6 y_M_at y_M_at ∈ g_ws := g_in (List.mem_of_getElem? (i := 1026) (by decide +kernel)) (by decide +kernel)
theorem d_M_at_0 : decode b_M_at 0 = .ok (.aload_n 0, 1) := by decide +kernel
theorem d_M_at_1 : decode b_M_at 1 = .ok (.iload_n 1, 1) := by decide +kernel
theorem d_M_at_2 : decode b_M_at 2 = .ok (.ifCond .lt 7, 3) := by decide +kernel
theorem d_M_at_5 : decode b_M_at 5 = .ok (.iconst 1, 1) := by decide +kernel
theorem d_M_at_6 : decode b_M_at 6 = .ok (.goto 4, 3) := by decide +kernel
theorem d_M_at_9 : decode b_M_at 9 = .ok (.iconst 0, 1) := by decide +kernel
theorem d_M_at_10 : decode b_M_at 10 = .ok (.iconst 1, 1) := by decide +kernel
theorem d_M_at_11 : decode b_M_at 11 = .ok (.iconst 1, 1) := by decide +kernel
theorem d_M_at_12 : decode b_M_at 12 = .ok (.invokevirtual 109, 3) := by decide +kernel
theorem d_M_at_15 : decode b_M_at 15 = .ok (.ifCond .ne 5, 3) := by decide +kernel
theorem d_M_at_18 : decode b_M_at 18 = .ok (.iconst 0, 1) := by decide +kernel
theorem d_M_at_19 : decode b_M_at 19 = .ok (.ireturn, 1) := by decide +kernel
theorem d_M_at_20 : decode b_M_at 20 = .ok (.iload_n 1, 1) := by decide +kernel
theorem d_M_at_21 : decode b_M_at 21 = .ok (.aload_n 0, 1) := by decide +kernel
theorem d_M_at_22 : decode b_M_at 22 = .ok (.getfield 206, 3) := by decide +kernel
theorem d_M_at_25 : decode b_M_at 25 = .ok (.if_icmp .ge 12, 3) := by decide +kernel
theorem d_M_at_28 : decode b_M_at 28 = .ok (.aload_n 0, 1) := by decide +kernel
theorem d_M_at_29 : decode b_M_at 29 = .ok (.getfield 93, 3) := by decide +kernel
theorem d_M_at_32 : decode b_M_at 32 = .ok (.iload_n 1, 1) := by decide +kernel
theorem d_M_at_33 : decode b_M_at 33 = .ok (.iaload, 1) := by decide +kernel
theorem d_M_at_34 : decode b_M_at 34 = .ok (.goto 4, 3) := by decide +kernel
theorem d_M_at_37 : decode b_M_at 37 = .ok (.iconst (-1), 1) := by decide +kernel
theorem d_M_at_38 : decode b_M_at 38 = .ok (.ireturn, 1) := by decide +kernel
def y_M_late : MethodName := ⟨cR6, "late", "(II)I"⟩
abbrev b_M_late : ByteArray := prog_8_method_43_code
abbrev k_M_late : Cond := .code y_M_late b_M_late 5 (some .int)
theorem mc_M_late : MC y_M_late k_M_late b_M_late 5 (some .int) [] 2 := ⟨g_in (List.mem_of_getElem? (i := 1031) (by decide +kernel)) (by decide +kernel), Or.inl ⟨rfl, rfl⟩, g_in (List.mem_of_getElem? (i := 62) (by decide +kernel)) (by decide +kernel), by decide, by decide +kernel⟩
theorem in_M_late : Cond.instanceMethod y_M_late ∈ g_ws := g_in (List.mem_of_getElem? (i := 1029) (by decide +kernel)) (by decide +kernel)
theorem se_M_late : Cond.selects cR6 y_M_late y_M_late ∈ g_ws := g_in (List.mem_of_getElem? (i := 1030) (by decide +kernel)) (by decide +kernel)
theorem d_M_late_0 : decode b_M_late 0 = .ok (.aload_n 0, 1) := by decide +kernel
theorem d_M_late_1 : decode b_M_late 1 = .ok (.iload_n 1, 1) := by decide +kernel
theorem d_M_late_2 : decode b_M_late 2 = .ok (.iconst 0, 1) := by decide +kernel
theorem d_M_late_3 : decode b_M_late 3 = .ok (.ldc 125, 2) := by decide +kernel
theorem d_M_late_5 : decode b_M_late 5 = .ok (.invokestatic 102, 3) := by decide +kernel
theorem d_M_late_8 : decode b_M_late 8 = .ok (.ifCond .eq 11, 3) := by decide +kernel
theorem d_M_late_11 : decode b_M_late 11 = .ok (.iload_n 2, 1) := by decide +kernel
theorem d_M_late_12 : decode b_M_late 12 = .ok (.ifCond .lt 7, 3) := by decide +kernel
theorem d_M_late_15 : decode b_M_late 15 = .ok (.iconst 1, 1) := by decide +kernel
theorem d_M_late_16 : decode b_M_late 16 = .ok (.goto 4, 3) := by decide +kernel
theorem d_M_late_19 : decode b_M_late 19 = .ok (.iconst 0, 1) := by decide +kernel
theorem d_M_late_20 : decode b_M_late 20 = .ok (.iconst 1, 1) := by decide +kernel
theorem d_M_late_21 : decode b_M_late 21 = .ok (.iconst 1, 1) := by decide +kernel
theorem d_M_late_22 : decode b_M_late 22 = .ok (.invokevirtual 109, 3) := by decide +kernel
theorem d_M_late_25 : decode b_M_late 25 = .ok (.ifCond .ne 5, 3) := by decide +kernel
theorem d_M_late_28 : decode b_M_late 28 = .ok (.iconst 0, 1) := by decide +kernel
theorem d_M_late_29 : decode b_M_late 29 = .ok (.ireturn, 1) := by decide +kernel
theorem d_M_late_30 : decode b_M_late 30 = .ok (.iload_n 2, 1) := by decide +kernel
theorem d_M_late_31 : decode b_M_late 31 = .ok (.istore_n 3, 1) := by decide +kernel
theorem d_M_late_32 : decode b_M_late 32 = .ok (.iconst 0, 1) := by decide +kernel
theorem d_M_late_33 : decode b_M_late 33 = .ok (.istore 4, 2) := by decide +kernel
theorem d_M_late_35 : decode b_M_late 35 = .ok (.iload 4, 2) := by decide +kernel
theorem d_M_late_37 : decode b_M_late 37 = .ok (.aload_n 0, 1) := by decide +kernel
theorem d_M_late_38 : decode b_M_late 38 = .ok (.getfield 99, 3) := by decide +kernel
theorem d_M_late_41 : decode b_M_late 41 = .ok (.if_icmp .ge 49, 3) := by decide +kernel
theorem d_M_late_44 : decode b_M_late 44 = .ok (.aload_n 0, 1) := by decide +kernel
theorem d_M_late_45 : decode b_M_late 45 = .ok (.getfield 25, 3) := by decide +kernel
theorem d_M_late_48 : decode b_M_late 48 = .ok (.iload 4, 2) := by decide +kernel
theorem d_M_late_50 : decode b_M_late 50 = .ok (.iaload, 1) := by decide +kernel
theorem d_M_late_51 : decode b_M_late 51 = .ok (.iconst 3, 1) := by decide +kernel
theorem d_M_late_52 : decode b_M_late 52 = .ok (.if_icmp .eq 32, 3) := by decide +kernel
theorem d_M_late_55 : decode b_M_late 55 = .ok (.aload_n 0, 1) := by decide +kernel
theorem d_M_late_56 : decode b_M_late 56 = .ok (.getfield 106, 3) := by decide +kernel
theorem d_M_late_59 : decode b_M_late 59 = .ok (.aload_n 0, 1) := by decide +kernel
theorem d_M_late_60 : decode b_M_late 60 = .ok (.getfield 16, 3) := by decide +kernel
theorem d_M_late_63 : decode b_M_late 63 = .ok (.iload 4, 2) := by decide +kernel
theorem d_M_late_65 : decode b_M_late 65 = .ok (.iaload, 1) := by decide +kernel
theorem d_M_late_66 : decode b_M_late 66 = .ok (.isub, 1) := by decide +kernel
theorem d_M_late_67 : decode b_M_late 67 = .ok (.iload_n 1, 1) := by decide +kernel
theorem d_M_late_68 : decode b_M_late 68 = .ok (.if_icmp .gt 6, 3) := by decide +kernel
theorem d_M_late_71 : decode b_M_late 71 = .ok (.goto 13, 3) := by decide +kernel
theorem d_M_late_74 : decode b_M_late 74 = .ok (.iload_n 3, 1) := by decide +kernel
theorem d_M_late_75 : decode b_M_late 75 = .ok (.ifCond .ne 6, 3) := by decide +kernel
theorem d_M_late_78 : decode b_M_late 78 = .ok (.iload 4, 2) := by decide +kernel
theorem d_M_late_80 : decode b_M_late 80 = .ok (.ireturn, 1) := by decide +kernel
theorem d_M_late_81 : decode b_M_late 81 = .ok (.iinc 3 (-1), 3) := by decide +kernel
theorem d_M_late_84 : decode b_M_late 84 = .ok (.iinc 4 1, 3) := by decide +kernel
theorem d_M_late_87 : decode b_M_late 87 = .ok (.goto (-52), 3) := by decide +kernel
theorem d_M_late_90 : decode b_M_late 90 = .ok (.iconst (-1), 1) := by decide +kernel
theorem d_M_late_91 : decode b_M_late 91 = .ok (.ireturn, 1) := by decide +kernel
def y_M_count : MethodName := ⟨cR6, "count", "(III)I"⟩
abbrev b_M_count : ByteArray := prog_8_method_44_code
abbrev k_M_count : Cond := .code y_M_count b_M_count 6 (some .int)
theorem mc_M_count : MC y_M_count k_M_count b_M_count 6 (some .int) [] 3 := ⟨g_in (List.mem_of_getElem? (i := 1035) (by decide +kernel)) (by decide +kernel), Or.inl ⟨rfl, rfl⟩, g_in (List.mem_of_getElem? (i := 62) (by decide +kernel)) (by decide +kernel), by decide, by decide +kernel⟩
theorem in_M_count : Cond.instanceMethod y_M_count ∈ g_ws := g_in (List.mem_of_getElem? (i := 1033) (by decide +kernel)) (by decide +kernel)
theorem se_M_count : Cond.selects cR6 y_M_count y_M_count ∈ g_ws := g_in (List.mem_of_getElem? (i := 1034) (by decide +kernel)) (by decide +kernel)
theorem d_M_count_0 : decode b_M_count 0 = .ok (.aload_n 0, 1) := by decide +kernel
theorem d_M_count_1 : decode b_M_count 1 = .ok (.iload_n 1, 1) := by decide +kernel
theorem d_M_count_2 : decode b_M_count 2 = .ok (.invokestatic 117, 3) := by decide +kernel
theorem d_M_count_5 : decode b_M_count 5 = .ok (.iload_n 2, 1) := by decide +kernel
theorem d_M_count_6 : decode b_M_count 6 = .ok (.iload_n 3, 1) := by decide +kernel
theorem d_M_count_7 : decode b_M_count 7 = .ok (.if_icmp .gt 7, 3) := by decide +kernel
theorem d_M_count_10 : decode b_M_count 10 = .ok (.iconst 1, 1) := by decide +kernel
theorem d_M_count_11 : decode b_M_count 11 = .ok (.goto 4, 3) := by decide +kernel
theorem d_M_count_14 : decode b_M_count 14 = .ok (.iconst 0, 1) := by decide +kernel
theorem d_M_count_15 : decode b_M_count 15 = .ok (.iconst 1, 1) := by decide +kernel
theorem d_M_count_16 : decode b_M_count 16 = .ok (.invokevirtual 109, 3) := by decide +kernel
theorem d_M_count_19 : decode b_M_count 19 = .ok (.ifCond .ne 5, 3) := by decide +kernel
theorem d_M_count_22 : decode b_M_count 22 = .ok (.iconst 0, 1) := by decide +kernel
theorem d_M_count_23 : decode b_M_count 23 = .ok (.ireturn, 1) := by decide +kernel
theorem d_M_count_24 : decode b_M_count 24 = .ok (.iconst 0, 1) := by decide +kernel
theorem d_M_count_25 : decode b_M_count 25 = .ok (.istore 4, 2) := by decide +kernel
theorem d_M_count_27 : decode b_M_count 27 = .ok (.iconst 0, 1) := by decide +kernel
theorem d_M_count_28 : decode b_M_count 28 = .ok (.istore 5, 2) := by decide +kernel
theorem d_M_count_30 : decode b_M_count 30 = .ok (.iload 5, 2) := by decide +kernel
theorem d_M_count_32 : decode b_M_count 32 = .ok (.aload_n 0, 1) := by decide +kernel
theorem d_M_count_33 : decode b_M_count 33 = .ok (.getfield 99, 3) := by decide +kernel
theorem d_M_count_36 : decode b_M_count 36 = .ok (.if_icmp .ge 67, 3) := by decide +kernel
theorem d_M_count_39 : decode b_M_count 39 = .ok (.aload_n 0, 1) := by decide +kernel
theorem d_M_count_40 : decode b_M_count 40 = .ok (.getfield 25, 3) := by decide +kernel
theorem d_M_count_43 : decode b_M_count 43 = .ok (.iload 5, 2) := by decide +kernel
theorem d_M_count_45 : decode b_M_count 45 = .ok (.iaload, 1) := by decide +kernel
theorem d_M_count_46 : decode b_M_count 46 = .ok (.iconst 3, 1) := by decide +kernel
theorem d_M_count_47 : decode b_M_count 47 = .ok (.if_icmp .ne 50, 3) := by decide +kernel
theorem d_M_count_50 : decode b_M_count 50 = .ok (.aload_n 0, 1) := by decide +kernel
theorem d_M_count_51 : decode b_M_count 51 = .ok (.iload 5, 2) := by decide +kernel
theorem d_M_count_53 : decode b_M_count 53 = .ok (.invokevirtual 197, 3) := by decide +kernel
theorem d_M_count_56 : decode b_M_count 56 = .ok (.ifCond .ne 41, 3) := by decide +kernel
theorem d_M_count_59 : decode b_M_count 59 = .ok (.aload_n 0, 1) := by decide +kernel
theorem d_M_count_60 : decode b_M_count 60 = .ok (.getfield 31, 3) := by decide +kernel
theorem d_M_count_63 : decode b_M_count 63 = .ok (.bipush 20, 2) := by decide +kernel
theorem d_M_count_65 : decode b_M_count 65 = .ok (.iload 5, 2) := by decide +kernel
theorem d_M_count_67 : decode b_M_count 67 = .ok (.imul, 1) := by decide +kernel
theorem d_M_count_68 : decode b_M_count 68 = .ok (.iload_n 1, 1) := by decide +kernel
theorem d_M_count_69 : decode b_M_count 69 = .ok (.iadd, 1) := by decide +kernel
theorem d_M_count_70 : decode b_M_count 70 = .ok (.baload, 1) := by decide +kernel
theorem d_M_count_71 : decode b_M_count 71 = .ok (.ifCond .eq 26, 3) := by decide +kernel
theorem d_M_count_74 : decode b_M_count 74 = .ok (.aload_n 0, 1) := by decide +kernel
theorem d_M_count_75 : decode b_M_count 75 = .ok (.getfield 41, 3) := by decide +kernel
theorem d_M_count_78 : decode b_M_count 78 = .ok (.bipush 20, 2) := by decide +kernel
theorem d_M_count_80 : decode b_M_count 80 = .ok (.iload 5, 2) := by decide +kernel
theorem d_M_count_82 : decode b_M_count 82 = .ok (.imul, 1) := by decide +kernel
theorem d_M_count_83 : decode b_M_count 83 = .ok (.iload_n 1, 1) := by decide +kernel
theorem d_M_count_84 : decode b_M_count 84 = .ok (.iadd, 1) := by decide +kernel
theorem d_M_count_85 : decode b_M_count 85 = .ok (.iaload, 1) := by decide +kernel
theorem d_M_count_86 : decode b_M_count 86 = .ok (.iload_n 2, 1) := by decide +kernel
theorem d_M_count_87 : decode b_M_count 87 = .ok (.iload_n 3, 1) := by decide +kernel
theorem d_M_count_88 : decode b_M_count 88 = .ok (.invokestatic 102, 3) := by decide +kernel
theorem d_M_count_91 : decode b_M_count 91 = .ok (.ifCond .eq 6, 3) := by decide +kernel
theorem d_M_count_94 : decode b_M_count 94 = .ok (.iinc 4 1, 3) := by decide +kernel
theorem d_M_count_97 : decode b_M_count 97 = .ok (.iinc 5 1, 3) := by decide +kernel
theorem d_M_count_100 : decode b_M_count 100 = .ok (.goto (-70), 3) := by decide +kernel
theorem d_M_count_103 : decode b_M_count 103 = .ok (.iload 4, 2) := by decide +kernel
theorem d_M_count_105 : decode b_M_count 105 = .ok (.ireturn, 1) := by decide +kernel
def y_M_reportAt : MethodName := ⟨cR6, "reportAt", "(II)I"⟩
abbrev b_M_reportAt : ByteArray := prog_8_method_45_code
abbrev k_M_reportAt : Cond := .code y_M_reportAt b_M_reportAt 3 (some .int)
theorem mc_M_reportAt : MC y_M_reportAt k_M_reportAt b_M_reportAt 3 (some .int) [] 2 := ⟨g_in (List.mem_of_getElem? (i := 1039) (by decide +kernel)) (by decide +kernel), Or.inl ⟨rfl, rfl⟩, g_in (List.mem_of_getElem? (i := 62) (by decide +kernel)) (by decide +kernel), by decide, by decide +kernel⟩
theorem in_M_reportAt : Cond.instanceMethod y_M_reportAt ∈ g_ws := g_in (List.mem_of_getElem? (i := 1037) (by decide +kernel)) (by decide +kernel)
theorem se_M_reportAt : Cond.selects cR6 y_M_reportAt y_M_reportAt ∈ g_ws := g_in (List.mem_of_getElem? (i := 1038) (by decide +kernel)) (by decide +kernel)
theorem d_M_reportAt_0 : decode b_M_reportAt 0 = .ok (.aload_n 0, 1) := by decide +kernel
theorem d_M_reportAt_1 : decode b_M_reportAt 1 = .ok (.aload_n 0, 1) := by decide +kernel
theorem d_M_reportAt_2 : decode b_M_reportAt 2 = .ok (.iload_n 1, 1) := by decide +kernel
theorem d_M_reportAt_3 : decode b_M_reportAt 3 = .ok (.invokevirtual 121, 3) := by decide +kernel
theorem d_M_reportAt_6 : decode b_M_reportAt 6 = .ok (.ifCond .eq 17, 3) := by decide +kernel
theorem d_M_reportAt_9 : decode b_M_reportAt 9 = .ok (.iload_n 2, 1) := by decide +kernel
theorem d_M_reportAt_10 : decode b_M_reportAt 10 = .ok (.iconst 0, 1) := by decide +kernel
theorem d_M_reportAt_11 : decode b_M_reportAt 11 = .ok (.bipush 7, 2) := by decide +kernel
theorem d_M_reportAt_13 : decode b_M_reportAt 13 = .ok (.invokestatic 102, 3) := by decide +kernel
theorem d_M_reportAt_16 : decode b_M_reportAt 16 = .ok (.ifCond .eq 7, 3) := by decide +kernel
theorem d_M_reportAt_19 : decode b_M_reportAt 19 = .ok (.iconst 1, 1) := by decide +kernel
theorem d_M_reportAt_20 : decode b_M_reportAt 20 = .ok (.goto 4, 3) := by decide +kernel
theorem d_M_reportAt_23 : decode b_M_reportAt 23 = .ok (.iconst 0, 1) := by decide +kernel
theorem d_M_reportAt_24 : decode b_M_reportAt 24 = .ok (.iconst 1, 1) := by decide +kernel
theorem d_M_reportAt_25 : decode b_M_reportAt 25 = .ok (.iconst 1, 1) := by decide +kernel
theorem d_M_reportAt_26 : decode b_M_reportAt 26 = .ok (.invokevirtual 109, 3) := by decide +kernel
theorem d_M_reportAt_29 : decode b_M_reportAt 29 = .ok (.ifCond .ne 5, 3) := by decide +kernel
theorem d_M_reportAt_32 : decode b_M_reportAt 32 = .ok (.iconst 0, 1) := by decide +kernel
theorem d_M_reportAt_33 : decode b_M_reportAt 33 = .ok (.ireturn, 1) := by decide +kernel
theorem d_M_reportAt_34 : decode b_M_reportAt 34 = .ok (.iload_n 2, 1) := by decide +kernel
theorem d_M_reportAt_35 : decode b_M_reportAt 35 = .ok (.iconst 4, 1) := by decide +kernel
theorem d_M_reportAt_36 : decode b_M_reportAt 36 = .ok (.if_icmp .ne 34, 3) := by decide +kernel
theorem d_M_reportAt_39 : decode b_M_reportAt 39 = .ok (.aload_n 0, 1) := by decide +kernel
theorem d_M_reportAt_40 : decode b_M_reportAt 40 = .ok (.getfield 25, 3) := by decide +kernel
theorem d_M_reportAt_43 : decode b_M_reportAt 43 = .ok (.iload_n 1, 1) := by decide +kernel
theorem d_M_reportAt_44 : decode b_M_reportAt 44 = .ok (.iaload, 1) := by decide +kernel
theorem d_M_reportAt_45 : decode b_M_reportAt 45 = .ok (.ifCond .ne 7, 3) := by decide +kernel
theorem d_M_reportAt_48 : decode b_M_reportAt 48 = .ok (.iconst (-1), 1) := by decide +kernel
theorem d_M_reportAt_49 : decode b_M_reportAt 49 = .ok (.goto 20, 3) := by decide +kernel
theorem d_M_reportAt_52 : decode b_M_reportAt 52 = .ok (.aload_n 0, 1) := by decide +kernel
theorem d_M_reportAt_53 : decode b_M_reportAt 53 = .ok (.getfield 28, 3) := by decide +kernel
theorem d_M_reportAt_56 : decode b_M_reportAt 56 = .ok (.iconst 3, 1) := by decide +kernel
theorem d_M_reportAt_57 : decode b_M_reportAt 57 = .ok (.iload_n 1, 1) := by decide +kernel
theorem d_M_reportAt_58 : decode b_M_reportAt 58 = .ok (.imul, 1) := by decide +kernel
theorem d_M_reportAt_59 : decode b_M_reportAt 59 = .ok (.aload_n 0, 1) := by decide +kernel
theorem d_M_reportAt_60 : decode b_M_reportAt 60 = .ok (.getfield 25, 3) := by decide +kernel
theorem d_M_reportAt_63 : decode b_M_reportAt 63 = .ok (.iload_n 1, 1) := by decide +kernel
theorem d_M_reportAt_64 : decode b_M_reportAt 64 = .ok (.iaload, 1) := by decide +kernel
theorem d_M_reportAt_65 : decode b_M_reportAt 65 = .ok (.iadd, 1) := by decide +kernel
theorem d_M_reportAt_66 : decode b_M_reportAt 66 = .ok (.iconst 1, 1) := by decide +kernel
theorem d_M_reportAt_67 : decode b_M_reportAt 67 = .ok (.isub, 1) := by decide +kernel
theorem d_M_reportAt_68 : decode b_M_reportAt 68 = .ok (.iaload, 1) := by decide +kernel
theorem d_M_reportAt_69 : decode b_M_reportAt 69 = .ok (.ireturn, 1) := by decide +kernel
theorem d_M_reportAt_70 : decode b_M_reportAt 70 = .ok (.iload_n 2, 1) := by decide +kernel
theorem d_M_reportAt_71 : decode b_M_reportAt 71 = .ok (.ifCond .ne 12, 3) := by decide +kernel
theorem d_M_reportAt_74 : decode b_M_reportAt 74 = .ok (.aload_n 0, 1) := by decide +kernel
theorem d_M_reportAt_75 : decode b_M_reportAt 75 = .ok (.getfield 7, 3) := by decide +kernel
theorem d_M_reportAt_78 : decode b_M_reportAt 78 = .ok (.iload_n 1, 1) := by decide +kernel
theorem d_M_reportAt_79 : decode b_M_reportAt 79 = .ok (.iaload, 1) := by decide +kernel
theorem d_M_reportAt_80 : decode b_M_reportAt 80 = .ok (.goto 79, 3) := by decide +kernel
theorem d_M_reportAt_83 : decode b_M_reportAt 83 = .ok (.iload_n 2, 1) := by decide +kernel
theorem d_M_reportAt_84 : decode b_M_reportAt 84 = .ok (.iconst 1, 1) := by decide +kernel
theorem d_M_reportAt_85 : decode b_M_reportAt 85 = .ok (.if_icmp .ne 12, 3) := by decide +kernel
theorem d_M_reportAt_88 : decode b_M_reportAt 88 = .ok (.aload_n 0, 1) := by decide +kernel
theorem d_M_reportAt_89 : decode b_M_reportAt 89 = .ok (.getfield 13, 3) := by decide +kernel
theorem d_M_reportAt_92 : decode b_M_reportAt 92 = .ok (.iload_n 1, 1) := by decide +kernel
theorem d_M_reportAt_93 : decode b_M_reportAt 93 = .ok (.iaload, 1) := by decide +kernel
theorem d_M_reportAt_94 : decode b_M_reportAt 94 = .ok (.goto 65, 3) := by decide +kernel
theorem d_M_reportAt_97 : decode b_M_reportAt 97 = .ok (.iload_n 2, 1) := by decide +kernel
theorem d_M_reportAt_98 : decode b_M_reportAt 98 = .ok (.iconst 2, 1) := by decide +kernel
theorem d_M_reportAt_99 : decode b_M_reportAt 99 = .ok (.if_icmp .ne 12, 3) := by decide +kernel
theorem d_M_reportAt_102 : decode b_M_reportAt 102 = .ok (.aload_n 0, 1) := by decide +kernel
theorem d_M_reportAt_103 : decode b_M_reportAt 103 = .ok (.getfield 16, 3) := by decide +kernel
theorem d_M_reportAt_106 : decode b_M_reportAt 106 = .ok (.iload_n 1, 1) := by decide +kernel
theorem d_M_reportAt_107 : decode b_M_reportAt 107 = .ok (.iaload, 1) := by decide +kernel
theorem d_M_reportAt_108 : decode b_M_reportAt 108 = .ok (.goto 51, 3) := by decide +kernel
theorem d_M_reportAt_111 : decode b_M_reportAt 111 = .ok (.iload_n 2, 1) := by decide +kernel
theorem d_M_reportAt_112 : decode b_M_reportAt 112 = .ok (.iconst 3, 1) := by decide +kernel
theorem d_M_reportAt_113 : decode b_M_reportAt 113 = .ok (.if_icmp .ne 12, 3) := by decide +kernel
theorem d_M_reportAt_116 : decode b_M_reportAt 116 = .ok (.aload_n 0, 1) := by decide +kernel
theorem d_M_reportAt_117 : decode b_M_reportAt 117 = .ok (.getfield 25, 3) := by decide +kernel
theorem d_M_reportAt_120 : decode b_M_reportAt 120 = .ok (.iload_n 1, 1) := by decide +kernel
theorem d_M_reportAt_121 : decode b_M_reportAt 121 = .ok (.iaload, 1) := by decide +kernel
theorem d_M_reportAt_122 : decode b_M_reportAt 122 = .ok (.goto 37, 3) := by decide +kernel
theorem d_M_reportAt_125 : decode b_M_reportAt 125 = .ok (.iload_n 2, 1) := by decide +kernel
theorem d_M_reportAt_126 : decode b_M_reportAt 126 = .ok (.iconst 5, 1) := by decide +kernel
theorem d_M_reportAt_127 : decode b_M_reportAt 127 = .ok (.if_icmp .ne 12, 3) := by decide +kernel
theorem d_M_reportAt_130 : decode b_M_reportAt 130 = .ok (.aload_n 0, 1) := by decide +kernel
theorem d_M_reportAt_131 : decode b_M_reportAt 131 = .ok (.getfield 19, 3) := by decide +kernel
theorem d_M_reportAt_134 : decode b_M_reportAt 134 = .ok (.iload_n 1, 1) := by decide +kernel
theorem d_M_reportAt_135 : decode b_M_reportAt 135 = .ok (.iaload, 1) := by decide +kernel
theorem d_M_reportAt_136 : decode b_M_reportAt 136 = .ok (.goto 23, 3) := by decide +kernel
theorem d_M_reportAt_139 : decode b_M_reportAt 139 = .ok (.iload_n 2, 1) := by decide +kernel
theorem d_M_reportAt_140 : decode b_M_reportAt 140 = .ok (.bipush 6, 2) := by decide +kernel
theorem d_M_reportAt_142 : decode b_M_reportAt 142 = .ok (.if_icmp .ne 11, 3) := by decide +kernel
theorem d_M_reportAt_145 : decode b_M_reportAt 145 = .ok (.aload_n 0, 1) := by decide +kernel
theorem d_M_reportAt_146 : decode b_M_reportAt 146 = .ok (.iload_n 1, 1) := by decide +kernel
theorem d_M_reportAt_147 : decode b_M_reportAt 147 = .ok (.invokevirtual 197, 3) := by decide +kernel
theorem d_M_reportAt_150 : decode b_M_reportAt 150 = .ok (.goto 9, 3) := by decide +kernel
theorem d_M_reportAt_153 : decode b_M_reportAt 153 = .ok (.aload_n 0, 1) := by decide +kernel
theorem d_M_reportAt_154 : decode b_M_reportAt 154 = .ok (.getfield 22, 3) := by decide +kernel
theorem d_M_reportAt_157 : decode b_M_reportAt 157 = .ok (.iload_n 1, 1) := by decide +kernel
theorem d_M_reportAt_158 : decode b_M_reportAt 158 = .ok (.iaload, 1) := by decide +kernel
theorem d_M_reportAt_159 : decode b_M_reportAt 159 = .ok (.ireturn, 1) := by decide +kernel
def y_M_value : MethodName := ⟨cR6, "value", "(II)I"⟩
abbrev b_M_value : ByteArray := prog_8_method_46_code
abbrev k_M_value : Cond := .code y_M_value b_M_value 4 (some .int)
theorem mc_M_value : MC y_M_value k_M_value b_M_value 4 (some .int) [] 2 := ⟨g_in (List.mem_of_getElem? (i := 1043) (by decide +kernel)) (by decide +kernel), Or.inl ⟨rfl, rfl⟩, g_in (List.mem_of_getElem? (i := 62) (by decide +kernel)) (by decide +kernel), by decide, by decide +kernel⟩
theorem in_M_value : Cond.instanceMethod y_M_value ∈ g_ws := g_in (List.mem_of_getElem? (i := 1041) (by decide +kernel)) (by decide +kernel)
theorem se_M_value : Cond.selects cR6 y_M_value y_M_value ∈ g_ws := g_in (List.mem_of_getElem? (i := 1042) (by decide +kernel)) (by decide +kernel)
theorem d_M_value_0 : decode b_M_value 0 = .ok (.aload_n 0, 1) := by decide +kernel
theorem d_M_value_1 : decode b_M_value 1 = .ok (.iload_n 1, 1) := by decide +kernel
theorem d_M_value_2 : decode b_M_value 2 = .ok (.invokevirtual 121, 3) := by decide +kernel
theorem d_M_value_5 : decode b_M_value 5 = .ok (.ifCond .eq 14, 3) := by decide +kernel
theorem d_M_value_8 : decode b_M_value 8 = .ok (.iload_n 2, 1) := by decide +kernel
theorem d_M_value_9 : decode b_M_value 9 = .ok (.invokestatic 117, 3) := by decide +kernel
theorem d_M_value_12 : decode b_M_value 12 = .ok (.ifCond .eq 7, 3) := by decide +kernel
theorem d_M_value_15 : decode b_M_value 15 = .ok (.iconst 1, 1) := by decide +kernel
theorem d_M_value_16 : decode b_M_value 16 = .ok (.goto 4, 3) := by decide +kernel
theorem d_M_value_19 : decode b_M_value 19 = .ok (.iconst 0, 1) := by decide +kernel
theorem d_M_value_20 : decode b_M_value 20 = .ok (.istore_n 3, 1) := by decide +kernel
theorem d_M_value_21 : decode b_M_value 21 = .ok (.aload_n 0, 1) := by decide +kernel
theorem d_M_value_22 : decode b_M_value 22 = .ok (.iload_n 3, 1) := by decide +kernel
theorem d_M_value_23 : decode b_M_value 23 = .ok (.iload_n 3, 1) := by decide +kernel
theorem d_M_value_24 : decode b_M_value 24 = .ok (.ifCond .eq 21, 3) := by decide +kernel
theorem d_M_value_27 : decode b_M_value 27 = .ok (.aload_n 0, 1) := by decide +kernel
theorem d_M_value_28 : decode b_M_value 28 = .ok (.getfield 31, 3) := by decide +kernel
theorem d_M_value_31 : decode b_M_value 31 = .ok (.bipush 20, 2) := by decide +kernel
theorem d_M_value_33 : decode b_M_value 33 = .ok (.iload_n 1, 1) := by decide +kernel
theorem d_M_value_34 : decode b_M_value 34 = .ok (.imul, 1) := by decide +kernel
theorem d_M_value_35 : decode b_M_value 35 = .ok (.iload_n 2, 1) := by decide +kernel
theorem d_M_value_36 : decode b_M_value 36 = .ok (.iadd, 1) := by decide +kernel
theorem d_M_value_37 : decode b_M_value 37 = .ok (.baload, 1) := by decide +kernel
theorem d_M_value_38 : decode b_M_value 38 = .ok (.ifCond .eq 7, 3) := by decide +kernel
theorem d_M_value_41 : decode b_M_value 41 = .ok (.iconst 1, 1) := by decide +kernel
theorem d_M_value_42 : decode b_M_value 42 = .ok (.goto 4, 3) := by decide +kernel
theorem d_M_value_45 : decode b_M_value 45 = .ok (.iconst 0, 1) := by decide +kernel
theorem d_M_value_46 : decode b_M_value 46 = .ok (.iconst 1, 1) := by decide +kernel
theorem d_M_value_47 : decode b_M_value 47 = .ok (.invokevirtual 109, 3) := by decide +kernel
theorem d_M_value_50 : decode b_M_value 50 = .ok (.ifCond .ne 5, 3) := by decide +kernel
theorem d_M_value_53 : decode b_M_value 53 = .ok (.iconst 0, 1) := by decide +kernel
theorem d_M_value_54 : decode b_M_value 54 = .ok (.ireturn, 1) := by decide +kernel
theorem d_M_value_55 : decode b_M_value 55 = .ok (.aload_n 0, 1) := by decide +kernel
theorem d_M_value_56 : decode b_M_value 56 = .ok (.getfield 41, 3) := by decide +kernel
theorem d_M_value_59 : decode b_M_value 59 = .ok (.bipush 20, 2) := by decide +kernel
theorem d_M_value_61 : decode b_M_value 61 = .ok (.iload_n 1, 1) := by decide +kernel
theorem d_M_value_62 : decode b_M_value 62 = .ok (.imul, 1) := by decide +kernel
theorem d_M_value_63 : decode b_M_value 63 = .ok (.iload_n 2, 1) := by decide +kernel
theorem d_M_value_64 : decode b_M_value 64 = .ok (.iadd, 1) := by decide +kernel
theorem d_M_value_65 : decode b_M_value 65 = .ok (.iaload, 1) := by decide +kernel
theorem d_M_value_66 : decode b_M_value 66 = .ok (.ireturn, 1) := by decide +kernel
def y_M_tick : MethodName := ⟨cR6, "tick", "(I)I"⟩
abbrev b_M_tick : ByteArray := prog_8_method_47_code
abbrev k_M_tick : Cond := .code y_M_tick b_M_tick 2 (some .int)
theorem mc_M_tick : MC y_M_tick k_M_tick b_M_tick 2 (some .int) [] 1 := ⟨g_in (List.mem_of_getElem? (i := 1047) (by decide +kernel)) (by decide +kernel), Or.inl ⟨rfl, rfl⟩, g_in (List.mem_of_getElem? (i := 62) (by decide +kernel)) (by decide +kernel), by decide, by decide +kernel⟩
theorem in_M_tick : Cond.instanceMethod y_M_tick ∈ g_ws := g_in (List.mem_of_getElem? (i := 1045) (by decide +kernel)) (by decide +kernel)
theorem se_M_tick : Cond.selects cR6 y_M_tick y_M_tick ∈ g_ws := g_in (List.mem_of_getElem? (i := 1046) (by decide +kernel)) (by decide +kernel)
theorem d_M_tick_0 : decode b_M_tick 0 = .ok (.aload_n 0, 1) := by decide +kernel
theorem d_M_tick_1 : decode b_M_tick 1 = .ok (.iload_n 1, 1) := by decide +kernel
theorem d_M_tick_2 : decode b_M_tick 2 = .ok (.iconst 1, 1) := by decide +kernel
theorem d_M_tick_3 : decode b_M_tick 3 = .ok (.sipush 5000, 3) := by decide +kernel
theorem d_M_tick_6 : decode b_M_tick 6 = .ok (.invokestatic 102, 3) := by decide +kernel
theorem d_M_tick_9 : decode b_M_tick 9 = .ok (.ifCond .eq 18, 3) := by decide +kernel
theorem d_M_tick_12 : decode b_M_tick 12 = .ok (.iload_n 1, 1) := by decide +kernel
theorem d_M_tick_13 : decode b_M_tick 13 = .ok (.ldc 125, 2) := by decide +kernel
theorem d_M_tick_15 : decode b_M_tick 15 = .ok (.aload_n 0, 1) := by decide +kernel
theorem d_M_tick_16 : decode b_M_tick 16 = .ok (.getfield 106, 3) := by decide +kernel
theorem d_M_tick_19 : decode b_M_tick 19 = .ok (.isub, 1) := by decide +kernel
theorem d_M_tick_20 : decode b_M_tick 20 = .ok (.if_icmp .gt 7, 3) := by decide +kernel
theorem d_M_tick_23 : decode b_M_tick 23 = .ok (.iconst 1, 1) := by decide +kernel
theorem d_M_tick_24 : decode b_M_tick 24 = .ok (.goto 4, 3) := by decide +kernel
theorem d_M_tick_27 : decode b_M_tick 27 = .ok (.iconst 0, 1) := by decide +kernel
theorem d_M_tick_28 : decode b_M_tick 28 = .ok (.iconst 1, 1) := by decide +kernel
theorem d_M_tick_29 : decode b_M_tick 29 = .ok (.iconst 1, 1) := by decide +kernel
theorem d_M_tick_30 : decode b_M_tick 30 = .ok (.invokevirtual 109, 3) := by decide +kernel
theorem d_M_tick_33 : decode b_M_tick 33 = .ok (.ifCond .ne 5, 3) := by decide +kernel
theorem d_M_tick_36 : decode b_M_tick 36 = .ok (.iconst 0, 1) := by decide +kernel
theorem d_M_tick_37 : decode b_M_tick 37 = .ok (.ireturn, 1) := by decide +kernel
theorem d_M_tick_38 : decode b_M_tick 38 = .ok (.aload_n 0, 1) := by decide +kernel
theorem d_M_tick_39 : decode b_M_tick 39 = .ok (.aload_n 0, 1) := by decide +kernel
theorem d_M_tick_40 : decode b_M_tick 40 = .ok (.getfield 106, 3) := by decide +kernel
theorem d_M_tick_43 : decode b_M_tick 43 = .ok (.iload_n 1, 1) := by decide +kernel
theorem d_M_tick_44 : decode b_M_tick 44 = .ok (.iadd, 1) := by decide +kernel
theorem d_M_tick_45 : decode b_M_tick 45 = .ok (.putfield 106, 3) := by decide +kernel
theorem d_M_tick_48 : decode b_M_tick 48 = .ok (.aload_n 0, 1) := by decide +kernel
theorem d_M_tick_49 : decode b_M_tick 49 = .ok (.getfield 106, 3) := by decide +kernel
theorem d_M_tick_52 : decode b_M_tick 52 = .ok (.ireturn, 1) := by decide +kernel
