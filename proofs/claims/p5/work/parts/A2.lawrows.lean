/-! ===== the law's own rows ===== -/
abbrev b_L_law : ByteArray := code
def r_L_law_0 : List (Nat × Instr × Nat) := [(0, .new 8, 3), (3, .dup, 1), (4, .invokespecial 86, 3), (7, .astore_n 1, 1), (8, .new 87, 3), (11, .dup, 1), (12, .invokespecial 89, 3), (15, .astore_n 2, 1), (16, .iconst 1, 1), (17, .newarray .long, 2), (19, .astore_n 3, 1), (20, .iconst 0, 1), (21, .istore 4, 2), (23, .iload 4, 2), (25, .aload_n 0, 1), (26, .arraylength, 1), (27, .iconst 4, 1), (28, .isub, 1), (29, .if_icmp .gt 998, 3), (32, .aload_n 0, 1), (33, .iload 4, 2), (35, .iaload, 1), (36, .bipush 31, 2), (38, .iand, 1), (39, .tableswitch 982 0 20 #[97, 137, 202, 251, 338, 375, 447, 463, 476, 504, 544, 584, 612, 649, 714, 754, 782, 822, 874, 914, 954], 97), (136, .aload_n 1, 1), (137, .aload_n 0, 1), (138, .iload 4, 2), (140, .iconst 1, 1), (141, .iadd, 1), (142, .iaload, 1), (143, .aload_n 0, 1), (144, .iload 4, 2), (146, .iconst 2, 1), (147, .iadd, 1), (148, .iaload, 1), (149, .aload_n 3, 1), (150, .invokestatic 90, 3), (153, .istore 5, 2), (155, .aload_n 2, 1)]
theorem q_L_law_0 : dq_all b_L_law r_L_law_0 = true := by decide +kernel
theorem d_L_law_0 : decode b_L_law 0 = .ok (.new 8, 3) := dq_at q_L_law_0 (i := 0) rfl
theorem d_L_law_3 : decode b_L_law 3 = .ok (.dup, 1) := dq_at q_L_law_0 (i := 1) rfl
theorem d_L_law_4 : decode b_L_law 4 = .ok (.invokespecial 86, 3) := dq_at q_L_law_0 (i := 2) rfl
theorem d_L_law_7 : decode b_L_law 7 = .ok (.astore_n 1, 1) := dq_at q_L_law_0 (i := 3) rfl
theorem d_L_law_8 : decode b_L_law 8 = .ok (.new 87, 3) := dq_at q_L_law_0 (i := 4) rfl
theorem d_L_law_11 : decode b_L_law 11 = .ok (.dup, 1) := dq_at q_L_law_0 (i := 5) rfl
theorem d_L_law_12 : decode b_L_law 12 = .ok (.invokespecial 89, 3) := dq_at q_L_law_0 (i := 6) rfl
theorem d_L_law_15 : decode b_L_law 15 = .ok (.astore_n 2, 1) := dq_at q_L_law_0 (i := 7) rfl
theorem d_L_law_16 : decode b_L_law 16 = .ok (.iconst 1, 1) := dq_at q_L_law_0 (i := 8) rfl
theorem d_L_law_17 : decode b_L_law 17 = .ok (.newarray .long, 2) := dq_at q_L_law_0 (i := 9) rfl
theorem d_L_law_19 : decode b_L_law 19 = .ok (.astore_n 3, 1) := dq_at q_L_law_0 (i := 10) rfl
theorem d_L_law_20 : decode b_L_law 20 = .ok (.iconst 0, 1) := dq_at q_L_law_0 (i := 11) rfl
theorem d_L_law_21 : decode b_L_law 21 = .ok (.istore 4, 2) := dq_at q_L_law_0 (i := 12) rfl
theorem d_L_law_23 : decode b_L_law 23 = .ok (.iload 4, 2) := dq_at q_L_law_0 (i := 13) rfl
theorem d_L_law_25 : decode b_L_law 25 = .ok (.aload_n 0, 1) := dq_at q_L_law_0 (i := 14) rfl
theorem d_L_law_26 : decode b_L_law 26 = .ok (.arraylength, 1) := dq_at q_L_law_0 (i := 15) rfl
theorem d_L_law_27 : decode b_L_law 27 = .ok (.iconst 4, 1) := dq_at q_L_law_0 (i := 16) rfl
theorem d_L_law_28 : decode b_L_law 28 = .ok (.isub, 1) := dq_at q_L_law_0 (i := 17) rfl
theorem d_L_law_29 : decode b_L_law 29 = .ok (.if_icmp .gt 998, 3) := dq_at q_L_law_0 (i := 18) rfl
theorem d_L_law_32 : decode b_L_law 32 = .ok (.aload_n 0, 1) := dq_at q_L_law_0 (i := 19) rfl
theorem d_L_law_33 : decode b_L_law 33 = .ok (.iload 4, 2) := dq_at q_L_law_0 (i := 20) rfl
theorem d_L_law_35 : decode b_L_law 35 = .ok (.iaload, 1) := dq_at q_L_law_0 (i := 21) rfl
theorem d_L_law_36 : decode b_L_law 36 = .ok (.bipush 31, 2) := dq_at q_L_law_0 (i := 22) rfl
theorem d_L_law_38 : decode b_L_law 38 = .ok (.iand, 1) := dq_at q_L_law_0 (i := 23) rfl
theorem d_L_law_39 : decode b_L_law 39 = .ok (.tableswitch 982 0 20 #[97, 137, 202, 251, 338, 375, 447, 463, 476, 504, 544, 584, 612, 649, 714, 754, 782, 822, 874, 914, 954], 97) := dq_at q_L_law_0 (i := 24) rfl
theorem d_L_law_136 : decode b_L_law 136 = .ok (.aload_n 1, 1) := dq_at q_L_law_0 (i := 25) rfl
theorem d_L_law_137 : decode b_L_law 137 = .ok (.aload_n 0, 1) := dq_at q_L_law_0 (i := 26) rfl
theorem d_L_law_138 : decode b_L_law 138 = .ok (.iload 4, 2) := dq_at q_L_law_0 (i := 27) rfl
theorem d_L_law_140 : decode b_L_law 140 = .ok (.iconst 1, 1) := dq_at q_L_law_0 (i := 28) rfl
theorem d_L_law_141 : decode b_L_law 141 = .ok (.iadd, 1) := dq_at q_L_law_0 (i := 29) rfl
theorem d_L_law_142 : decode b_L_law 142 = .ok (.iaload, 1) := dq_at q_L_law_0 (i := 30) rfl
theorem d_L_law_143 : decode b_L_law 143 = .ok (.aload_n 0, 1) := dq_at q_L_law_0 (i := 31) rfl
theorem d_L_law_144 : decode b_L_law 144 = .ok (.iload 4, 2) := dq_at q_L_law_0 (i := 32) rfl
theorem d_L_law_146 : decode b_L_law 146 = .ok (.iconst 2, 1) := dq_at q_L_law_0 (i := 33) rfl
theorem d_L_law_147 : decode b_L_law 147 = .ok (.iadd, 1) := dq_at q_L_law_0 (i := 34) rfl
theorem d_L_law_148 : decode b_L_law 148 = .ok (.iaload, 1) := dq_at q_L_law_0 (i := 35) rfl
theorem d_L_law_149 : decode b_L_law 149 = .ok (.aload_n 3, 1) := dq_at q_L_law_0 (i := 36) rfl
theorem d_L_law_150 : decode b_L_law 150 = .ok (.invokestatic 90, 3) := dq_at q_L_law_0 (i := 37) rfl
theorem d_L_law_153 : decode b_L_law 153 = .ok (.istore 5, 2) := dq_at q_L_law_0 (i := 38) rfl
theorem d_L_law_155 : decode b_L_law 155 = .ok (.aload_n 2, 1) := dq_at q_L_law_0 (i := 39) rfl
def r_L_law_1 : List (Nat × Instr × Nat) := [(156, .aload_n 0, 1), (157, .iload 4, 2), (159, .iconst 1, 1), (160, .iadd, 1), (161, .iaload, 1), (162, .aload_n 0, 1), (163, .iload 4, 2), (165, .iconst 2, 1), (166, .iadd, 1), (167, .iaload, 1), (168, .invokevirtual 95, 3), (171, .istore 6, 2), (173, .goto 848, 3), (176, .aload_n 1, 1), (177, .aload_n 0, 1), (178, .iload 4, 2), (180, .iconst 1, 1), (181, .iadd, 1), (182, .iaload, 1), (183, .aload_n 0, 1), (184, .iload 4, 2), (186, .iconst 2, 1), (187, .iadd, 1), (188, .iaload, 1), (189, .aload_n 0, 1), (190, .iload 4, 2), (192, .iconst 3, 1), (193, .iadd, 1), (194, .iaload, 1), (195, .ifCond .eq 7, 3), (198, .iconst 1, 1), (199, .goto 4, 3), (202, .iconst 0, 1), (203, .invokestatic 96, 3), (206, .istore 5, 2), (208, .aload_n 2, 1), (209, .aload_n 0, 1), (210, .iload 4, 2), (212, .iconst 1, 1), (213, .iadd, 1)]
theorem q_L_law_1 : dq_all b_L_law r_L_law_1 = true := by decide +kernel
theorem d_L_law_156 : decode b_L_law 156 = .ok (.aload_n 0, 1) := dq_at q_L_law_1 (i := 0) rfl
theorem d_L_law_157 : decode b_L_law 157 = .ok (.iload 4, 2) := dq_at q_L_law_1 (i := 1) rfl
theorem d_L_law_159 : decode b_L_law 159 = .ok (.iconst 1, 1) := dq_at q_L_law_1 (i := 2) rfl
theorem d_L_law_160 : decode b_L_law 160 = .ok (.iadd, 1) := dq_at q_L_law_1 (i := 3) rfl
theorem d_L_law_161 : decode b_L_law 161 = .ok (.iaload, 1) := dq_at q_L_law_1 (i := 4) rfl
theorem d_L_law_162 : decode b_L_law 162 = .ok (.aload_n 0, 1) := dq_at q_L_law_1 (i := 5) rfl
theorem d_L_law_163 : decode b_L_law 163 = .ok (.iload 4, 2) := dq_at q_L_law_1 (i := 6) rfl
theorem d_L_law_165 : decode b_L_law 165 = .ok (.iconst 2, 1) := dq_at q_L_law_1 (i := 7) rfl
theorem d_L_law_166 : decode b_L_law 166 = .ok (.iadd, 1) := dq_at q_L_law_1 (i := 8) rfl
theorem d_L_law_167 : decode b_L_law 167 = .ok (.iaload, 1) := dq_at q_L_law_1 (i := 9) rfl
theorem d_L_law_168 : decode b_L_law 168 = .ok (.invokevirtual 95, 3) := dq_at q_L_law_1 (i := 10) rfl
theorem d_L_law_171 : decode b_L_law 171 = .ok (.istore 6, 2) := dq_at q_L_law_1 (i := 11) rfl
theorem d_L_law_173 : decode b_L_law 173 = .ok (.goto 848, 3) := dq_at q_L_law_1 (i := 12) rfl
theorem d_L_law_176 : decode b_L_law 176 = .ok (.aload_n 1, 1) := dq_at q_L_law_1 (i := 13) rfl
theorem d_L_law_177 : decode b_L_law 177 = .ok (.aload_n 0, 1) := dq_at q_L_law_1 (i := 14) rfl
theorem d_L_law_178 : decode b_L_law 178 = .ok (.iload 4, 2) := dq_at q_L_law_1 (i := 15) rfl
theorem d_L_law_180 : decode b_L_law 180 = .ok (.iconst 1, 1) := dq_at q_L_law_1 (i := 16) rfl
theorem d_L_law_181 : decode b_L_law 181 = .ok (.iadd, 1) := dq_at q_L_law_1 (i := 17) rfl
theorem d_L_law_182 : decode b_L_law 182 = .ok (.iaload, 1) := dq_at q_L_law_1 (i := 18) rfl
theorem d_L_law_183 : decode b_L_law 183 = .ok (.aload_n 0, 1) := dq_at q_L_law_1 (i := 19) rfl
theorem d_L_law_184 : decode b_L_law 184 = .ok (.iload 4, 2) := dq_at q_L_law_1 (i := 20) rfl
theorem d_L_law_186 : decode b_L_law 186 = .ok (.iconst 2, 1) := dq_at q_L_law_1 (i := 21) rfl
theorem d_L_law_187 : decode b_L_law 187 = .ok (.iadd, 1) := dq_at q_L_law_1 (i := 22) rfl
theorem d_L_law_188 : decode b_L_law 188 = .ok (.iaload, 1) := dq_at q_L_law_1 (i := 23) rfl
theorem d_L_law_189 : decode b_L_law 189 = .ok (.aload_n 0, 1) := dq_at q_L_law_1 (i := 24) rfl
theorem d_L_law_190 : decode b_L_law 190 = .ok (.iload 4, 2) := dq_at q_L_law_1 (i := 25) rfl
theorem d_L_law_192 : decode b_L_law 192 = .ok (.iconst 3, 1) := dq_at q_L_law_1 (i := 26) rfl
theorem d_L_law_193 : decode b_L_law 193 = .ok (.iadd, 1) := dq_at q_L_law_1 (i := 27) rfl
theorem d_L_law_194 : decode b_L_law 194 = .ok (.iaload, 1) := dq_at q_L_law_1 (i := 28) rfl
theorem d_L_law_195 : decode b_L_law 195 = .ok (.ifCond .eq 7, 3) := dq_at q_L_law_1 (i := 29) rfl
theorem d_L_law_198 : decode b_L_law 198 = .ok (.iconst 1, 1) := dq_at q_L_law_1 (i := 30) rfl
theorem d_L_law_199 : decode b_L_law 199 = .ok (.goto 4, 3) := dq_at q_L_law_1 (i := 31) rfl
theorem d_L_law_202 : decode b_L_law 202 = .ok (.iconst 0, 1) := dq_at q_L_law_1 (i := 32) rfl
theorem d_L_law_203 : decode b_L_law 203 = .ok (.invokestatic 96, 3) := dq_at q_L_law_1 (i := 33) rfl
theorem d_L_law_206 : decode b_L_law 206 = .ok (.istore 5, 2) := dq_at q_L_law_1 (i := 34) rfl
theorem d_L_law_208 : decode b_L_law 208 = .ok (.aload_n 2, 1) := dq_at q_L_law_1 (i := 35) rfl
theorem d_L_law_209 : decode b_L_law 209 = .ok (.aload_n 0, 1) := dq_at q_L_law_1 (i := 36) rfl
theorem d_L_law_210 : decode b_L_law 210 = .ok (.iload 4, 2) := dq_at q_L_law_1 (i := 37) rfl
theorem d_L_law_212 : decode b_L_law 212 = .ok (.iconst 1, 1) := dq_at q_L_law_1 (i := 38) rfl
theorem d_L_law_213 : decode b_L_law 213 = .ok (.iadd, 1) := dq_at q_L_law_1 (i := 39) rfl
def r_L_law_2 : List (Nat × Instr × Nat) := [(214, .iaload, 1), (215, .aload_n 0, 1), (216, .iload 4, 2), (218, .iconst 2, 1), (219, .iadd, 1), (220, .iaload, 1), (221, .aload_n 0, 1), (222, .iload 4, 2), (224, .iconst 3, 1), (225, .iadd, 1), (226, .iaload, 1), (227, .ifCond .eq 7, 3), (230, .iconst 1, 1), (231, .goto 4, 3), (234, .iconst 0, 1), (235, .invokevirtual 99, 3), (238, .goto 783, 3), (241, .aload_n 1, 1), (242, .aload_n 0, 1), (243, .iload 4, 2), (245, .iconst 1, 1), (246, .iadd, 1), (247, .iaload, 1), (248, .aload_n 0, 1), (249, .iload 4, 2), (251, .iconst 2, 1), (252, .iadd, 1), (253, .iaload, 1), (254, .aload_n 0, 1), (255, .iload 4, 2), (257, .iconst 3, 1), (258, .iadd, 1), (259, .iaload, 1), (260, .invokestatic 100, 3), (263, .istore 5, 2), (265, .aload_n 2, 1), (266, .aload_n 0, 1), (267, .iload 4, 2), (269, .iconst 1, 1), (270, .iadd, 1)]
theorem q_L_law_2 : dq_all b_L_law r_L_law_2 = true := by decide +kernel
theorem d_L_law_214 : decode b_L_law 214 = .ok (.iaload, 1) := dq_at q_L_law_2 (i := 0) rfl
theorem d_L_law_215 : decode b_L_law 215 = .ok (.aload_n 0, 1) := dq_at q_L_law_2 (i := 1) rfl
theorem d_L_law_216 : decode b_L_law 216 = .ok (.iload 4, 2) := dq_at q_L_law_2 (i := 2) rfl
theorem d_L_law_218 : decode b_L_law 218 = .ok (.iconst 2, 1) := dq_at q_L_law_2 (i := 3) rfl
theorem d_L_law_219 : decode b_L_law 219 = .ok (.iadd, 1) := dq_at q_L_law_2 (i := 4) rfl
theorem d_L_law_220 : decode b_L_law 220 = .ok (.iaload, 1) := dq_at q_L_law_2 (i := 5) rfl
theorem d_L_law_221 : decode b_L_law 221 = .ok (.aload_n 0, 1) := dq_at q_L_law_2 (i := 6) rfl
theorem d_L_law_222 : decode b_L_law 222 = .ok (.iload 4, 2) := dq_at q_L_law_2 (i := 7) rfl
theorem d_L_law_224 : decode b_L_law 224 = .ok (.iconst 3, 1) := dq_at q_L_law_2 (i := 8) rfl
theorem d_L_law_225 : decode b_L_law 225 = .ok (.iadd, 1) := dq_at q_L_law_2 (i := 9) rfl
theorem d_L_law_226 : decode b_L_law 226 = .ok (.iaload, 1) := dq_at q_L_law_2 (i := 10) rfl
theorem d_L_law_227 : decode b_L_law 227 = .ok (.ifCond .eq 7, 3) := dq_at q_L_law_2 (i := 11) rfl
theorem d_L_law_230 : decode b_L_law 230 = .ok (.iconst 1, 1) := dq_at q_L_law_2 (i := 12) rfl
theorem d_L_law_231 : decode b_L_law 231 = .ok (.goto 4, 3) := dq_at q_L_law_2 (i := 13) rfl
theorem d_L_law_234 : decode b_L_law 234 = .ok (.iconst 0, 1) := dq_at q_L_law_2 (i := 14) rfl
theorem d_L_law_235 : decode b_L_law 235 = .ok (.invokevirtual 99, 3) := dq_at q_L_law_2 (i := 15) rfl
theorem d_L_law_238 : decode b_L_law 238 = .ok (.goto 783, 3) := dq_at q_L_law_2 (i := 16) rfl
theorem d_L_law_241 : decode b_L_law 241 = .ok (.aload_n 1, 1) := dq_at q_L_law_2 (i := 17) rfl
theorem d_L_law_242 : decode b_L_law 242 = .ok (.aload_n 0, 1) := dq_at q_L_law_2 (i := 18) rfl
theorem d_L_law_243 : decode b_L_law 243 = .ok (.iload 4, 2) := dq_at q_L_law_2 (i := 19) rfl
theorem d_L_law_245 : decode b_L_law 245 = .ok (.iconst 1, 1) := dq_at q_L_law_2 (i := 20) rfl
theorem d_L_law_246 : decode b_L_law 246 = .ok (.iadd, 1) := dq_at q_L_law_2 (i := 21) rfl
theorem d_L_law_247 : decode b_L_law 247 = .ok (.iaload, 1) := dq_at q_L_law_2 (i := 22) rfl
theorem d_L_law_248 : decode b_L_law 248 = .ok (.aload_n 0, 1) := dq_at q_L_law_2 (i := 23) rfl
theorem d_L_law_249 : decode b_L_law 249 = .ok (.iload 4, 2) := dq_at q_L_law_2 (i := 24) rfl
theorem d_L_law_251 : decode b_L_law 251 = .ok (.iconst 2, 1) := dq_at q_L_law_2 (i := 25) rfl
theorem d_L_law_252 : decode b_L_law 252 = .ok (.iadd, 1) := dq_at q_L_law_2 (i := 26) rfl
theorem d_L_law_253 : decode b_L_law 253 = .ok (.iaload, 1) := dq_at q_L_law_2 (i := 27) rfl
theorem d_L_law_254 : decode b_L_law 254 = .ok (.aload_n 0, 1) := dq_at q_L_law_2 (i := 28) rfl
theorem d_L_law_255 : decode b_L_law 255 = .ok (.iload 4, 2) := dq_at q_L_law_2 (i := 29) rfl
theorem d_L_law_257 : decode b_L_law 257 = .ok (.iconst 3, 1) := dq_at q_L_law_2 (i := 30) rfl
theorem d_L_law_258 : decode b_L_law 258 = .ok (.iadd, 1) := dq_at q_L_law_2 (i := 31) rfl
theorem d_L_law_259 : decode b_L_law 259 = .ok (.iaload, 1) := dq_at q_L_law_2 (i := 32) rfl
theorem d_L_law_260 : decode b_L_law 260 = .ok (.invokestatic 100, 3) := dq_at q_L_law_2 (i := 33) rfl
theorem d_L_law_263 : decode b_L_law 263 = .ok (.istore 5, 2) := dq_at q_L_law_2 (i := 34) rfl
theorem d_L_law_265 : decode b_L_law 265 = .ok (.aload_n 2, 1) := dq_at q_L_law_2 (i := 35) rfl
theorem d_L_law_266 : decode b_L_law 266 = .ok (.aload_n 0, 1) := dq_at q_L_law_2 (i := 36) rfl
theorem d_L_law_267 : decode b_L_law 267 = .ok (.iload 4, 2) := dq_at q_L_law_2 (i := 37) rfl
theorem d_L_law_269 : decode b_L_law 269 = .ok (.iconst 1, 1) := dq_at q_L_law_2 (i := 38) rfl
theorem d_L_law_270 : decode b_L_law 270 = .ok (.iadd, 1) := dq_at q_L_law_2 (i := 39) rfl
def r_L_law_3 : List (Nat × Instr × Nat) := [(271, .iaload, 1), (272, .aload_n 0, 1), (273, .iload 4, 2), (275, .iconst 2, 1), (276, .iadd, 1), (277, .iaload, 1), (278, .aload_n 0, 1), (279, .iload 4, 2), (281, .iconst 3, 1), (282, .iadd, 1), (283, .iaload, 1), (284, .invokevirtual 103, 3), (287, .goto 734, 3), (290, .aload_n 1, 1), (291, .aload_n 0, 1), (292, .iload 4, 2), (294, .iconst 1, 1), (295, .iadd, 1), (296, .iaload, 1), (297, .aload_n 0, 1), (298, .iload 4, 2), (300, .iconst 2, 1), (301, .iadd, 1), (302, .iaload, 1), (303, .aload_n 0, 1), (304, .iload 4, 2), (306, .iconst 3, 1), (307, .iadd, 1), (308, .iaload, 1), (309, .aload_n 3, 1), (310, .invokestatic 104, 3), (313, .istore 5, 2), (315, .aload_n 2, 1), (316, .aload_n 0, 1), (317, .iload 4, 2), (319, .iconst 1, 1), (320, .iadd, 1), (321, .iaload, 1), (322, .aload_n 0, 1), (323, .iload 4, 2)]
theorem q_L_law_3 : dq_all b_L_law r_L_law_3 = true := by decide +kernel
theorem d_L_law_271 : decode b_L_law 271 = .ok (.iaload, 1) := dq_at q_L_law_3 (i := 0) rfl
theorem d_L_law_272 : decode b_L_law 272 = .ok (.aload_n 0, 1) := dq_at q_L_law_3 (i := 1) rfl
theorem d_L_law_273 : decode b_L_law 273 = .ok (.iload 4, 2) := dq_at q_L_law_3 (i := 2) rfl
theorem d_L_law_275 : decode b_L_law 275 = .ok (.iconst 2, 1) := dq_at q_L_law_3 (i := 3) rfl
theorem d_L_law_276 : decode b_L_law 276 = .ok (.iadd, 1) := dq_at q_L_law_3 (i := 4) rfl
theorem d_L_law_277 : decode b_L_law 277 = .ok (.iaload, 1) := dq_at q_L_law_3 (i := 5) rfl
theorem d_L_law_278 : decode b_L_law 278 = .ok (.aload_n 0, 1) := dq_at q_L_law_3 (i := 6) rfl
theorem d_L_law_279 : decode b_L_law 279 = .ok (.iload 4, 2) := dq_at q_L_law_3 (i := 7) rfl
theorem d_L_law_281 : decode b_L_law 281 = .ok (.iconst 3, 1) := dq_at q_L_law_3 (i := 8) rfl
theorem d_L_law_282 : decode b_L_law 282 = .ok (.iadd, 1) := dq_at q_L_law_3 (i := 9) rfl
theorem d_L_law_283 : decode b_L_law 283 = .ok (.iaload, 1) := dq_at q_L_law_3 (i := 10) rfl
theorem d_L_law_284 : decode b_L_law 284 = .ok (.invokevirtual 103, 3) := dq_at q_L_law_3 (i := 11) rfl
theorem d_L_law_287 : decode b_L_law 287 = .ok (.goto 734, 3) := dq_at q_L_law_3 (i := 12) rfl
theorem d_L_law_290 : decode b_L_law 290 = .ok (.aload_n 1, 1) := dq_at q_L_law_3 (i := 13) rfl
theorem d_L_law_291 : decode b_L_law 291 = .ok (.aload_n 0, 1) := dq_at q_L_law_3 (i := 14) rfl
theorem d_L_law_292 : decode b_L_law 292 = .ok (.iload 4, 2) := dq_at q_L_law_3 (i := 15) rfl
theorem d_L_law_294 : decode b_L_law 294 = .ok (.iconst 1, 1) := dq_at q_L_law_3 (i := 16) rfl
theorem d_L_law_295 : decode b_L_law 295 = .ok (.iadd, 1) := dq_at q_L_law_3 (i := 17) rfl
theorem d_L_law_296 : decode b_L_law 296 = .ok (.iaload, 1) := dq_at q_L_law_3 (i := 18) rfl
theorem d_L_law_297 : decode b_L_law 297 = .ok (.aload_n 0, 1) := dq_at q_L_law_3 (i := 19) rfl
theorem d_L_law_298 : decode b_L_law 298 = .ok (.iload 4, 2) := dq_at q_L_law_3 (i := 20) rfl
theorem d_L_law_300 : decode b_L_law 300 = .ok (.iconst 2, 1) := dq_at q_L_law_3 (i := 21) rfl
theorem d_L_law_301 : decode b_L_law 301 = .ok (.iadd, 1) := dq_at q_L_law_3 (i := 22) rfl
theorem d_L_law_302 : decode b_L_law 302 = .ok (.iaload, 1) := dq_at q_L_law_3 (i := 23) rfl
theorem d_L_law_303 : decode b_L_law 303 = .ok (.aload_n 0, 1) := dq_at q_L_law_3 (i := 24) rfl
theorem d_L_law_304 : decode b_L_law 304 = .ok (.iload 4, 2) := dq_at q_L_law_3 (i := 25) rfl
theorem d_L_law_306 : decode b_L_law 306 = .ok (.iconst 3, 1) := dq_at q_L_law_3 (i := 26) rfl
theorem d_L_law_307 : decode b_L_law 307 = .ok (.iadd, 1) := dq_at q_L_law_3 (i := 27) rfl
theorem d_L_law_308 : decode b_L_law 308 = .ok (.iaload, 1) := dq_at q_L_law_3 (i := 28) rfl
theorem d_L_law_309 : decode b_L_law 309 = .ok (.aload_n 3, 1) := dq_at q_L_law_3 (i := 29) rfl
theorem d_L_law_310 : decode b_L_law 310 = .ok (.invokestatic 104, 3) := dq_at q_L_law_3 (i := 30) rfl
theorem d_L_law_313 : decode b_L_law 313 = .ok (.istore 5, 2) := dq_at q_L_law_3 (i := 31) rfl
theorem d_L_law_315 : decode b_L_law 315 = .ok (.aload_n 2, 1) := dq_at q_L_law_3 (i := 32) rfl
theorem d_L_law_316 : decode b_L_law 316 = .ok (.aload_n 0, 1) := dq_at q_L_law_3 (i := 33) rfl
theorem d_L_law_317 : decode b_L_law 317 = .ok (.iload 4, 2) := dq_at q_L_law_3 (i := 34) rfl
theorem d_L_law_319 : decode b_L_law 319 = .ok (.iconst 1, 1) := dq_at q_L_law_3 (i := 35) rfl
theorem d_L_law_320 : decode b_L_law 320 = .ok (.iadd, 1) := dq_at q_L_law_3 (i := 36) rfl
theorem d_L_law_321 : decode b_L_law 321 = .ok (.iaload, 1) := dq_at q_L_law_3 (i := 37) rfl
theorem d_L_law_322 : decode b_L_law 322 = .ok (.aload_n 0, 1) := dq_at q_L_law_3 (i := 38) rfl
theorem d_L_law_323 : decode b_L_law 323 = .ok (.iload 4, 2) := dq_at q_L_law_3 (i := 39) rfl
def r_L_law_4 : List (Nat × Instr × Nat) := [(325, .iconst 2, 1), (326, .iadd, 1), (327, .iaload, 1), (328, .aload_n 0, 1), (329, .iload 4, 2), (331, .iconst 3, 1), (332, .iadd, 1), (333, .iaload, 1), (334, .invokevirtual 107, 3), (337, .istore 6, 2), (339, .aload_n 2, 1), (340, .invokevirtual 108, 3), (343, .iload 5, 2), (345, .if_icmp .eq 5, 3), (348, .iconst 0, 1), (349, .ireturn, 1), (350, .iload 5, 2), (352, .ifCond .ne 22, 3), (355, .aload_n 3, 1), (356, .iconst 0, 1), (357, .laload, 1), (358, .iload 6, 2), (360, .ifCond .eq 7, 3), (363, .lconst 1, 1), (364, .goto 4, 3), (367, .lconst 0, 1), (368, .lcmp, 1), (369, .ifCond .eq 5, 3), (372, .iconst 0, 1), (373, .ireturn, 1), (374, .goto 647, 3), (377, .aload_n 1, 1), (378, .aload_n 0, 1), (379, .iload 4, 2), (381, .iconst 1, 1), (382, .iadd, 1), (383, .iaload, 1), (384, .aload_n 0, 1), (385, .iload 4, 2), (387, .iconst 2, 1)]
theorem q_L_law_4 : dq_all b_L_law r_L_law_4 = true := by decide +kernel
theorem d_L_law_325 : decode b_L_law 325 = .ok (.iconst 2, 1) := dq_at q_L_law_4 (i := 0) rfl
theorem d_L_law_326 : decode b_L_law 326 = .ok (.iadd, 1) := dq_at q_L_law_4 (i := 1) rfl
theorem d_L_law_327 : decode b_L_law 327 = .ok (.iaload, 1) := dq_at q_L_law_4 (i := 2) rfl
theorem d_L_law_328 : decode b_L_law 328 = .ok (.aload_n 0, 1) := dq_at q_L_law_4 (i := 3) rfl
theorem d_L_law_329 : decode b_L_law 329 = .ok (.iload 4, 2) := dq_at q_L_law_4 (i := 4) rfl
theorem d_L_law_331 : decode b_L_law 331 = .ok (.iconst 3, 1) := dq_at q_L_law_4 (i := 5) rfl
theorem d_L_law_332 : decode b_L_law 332 = .ok (.iadd, 1) := dq_at q_L_law_4 (i := 6) rfl
theorem d_L_law_333 : decode b_L_law 333 = .ok (.iaload, 1) := dq_at q_L_law_4 (i := 7) rfl
theorem d_L_law_334 : decode b_L_law 334 = .ok (.invokevirtual 107, 3) := dq_at q_L_law_4 (i := 8) rfl
theorem d_L_law_337 : decode b_L_law 337 = .ok (.istore 6, 2) := dq_at q_L_law_4 (i := 9) rfl
theorem d_L_law_339 : decode b_L_law 339 = .ok (.aload_n 2, 1) := dq_at q_L_law_4 (i := 10) rfl
theorem d_L_law_340 : decode b_L_law 340 = .ok (.invokevirtual 108, 3) := dq_at q_L_law_4 (i := 11) rfl
theorem d_L_law_343 : decode b_L_law 343 = .ok (.iload 5, 2) := dq_at q_L_law_4 (i := 12) rfl
theorem d_L_law_345 : decode b_L_law 345 = .ok (.if_icmp .eq 5, 3) := dq_at q_L_law_4 (i := 13) rfl
theorem d_L_law_348 : decode b_L_law 348 = .ok (.iconst 0, 1) := dq_at q_L_law_4 (i := 14) rfl
theorem d_L_law_349 : decode b_L_law 349 = .ok (.ireturn, 1) := dq_at q_L_law_4 (i := 15) rfl
theorem d_L_law_350 : decode b_L_law 350 = .ok (.iload 5, 2) := dq_at q_L_law_4 (i := 16) rfl
theorem d_L_law_352 : decode b_L_law 352 = .ok (.ifCond .ne 22, 3) := dq_at q_L_law_4 (i := 17) rfl
theorem d_L_law_355 : decode b_L_law 355 = .ok (.aload_n 3, 1) := dq_at q_L_law_4 (i := 18) rfl
theorem d_L_law_356 : decode b_L_law 356 = .ok (.iconst 0, 1) := dq_at q_L_law_4 (i := 19) rfl
theorem d_L_law_357 : decode b_L_law 357 = .ok (.laload, 1) := dq_at q_L_law_4 (i := 20) rfl
theorem d_L_law_358 : decode b_L_law 358 = .ok (.iload 6, 2) := dq_at q_L_law_4 (i := 21) rfl
theorem d_L_law_360 : decode b_L_law 360 = .ok (.ifCond .eq 7, 3) := dq_at q_L_law_4 (i := 22) rfl
theorem d_L_law_363 : decode b_L_law 363 = .ok (.lconst 1, 1) := dq_at q_L_law_4 (i := 23) rfl
theorem d_L_law_364 : decode b_L_law 364 = .ok (.goto 4, 3) := dq_at q_L_law_4 (i := 24) rfl
theorem d_L_law_367 : decode b_L_law 367 = .ok (.lconst 0, 1) := dq_at q_L_law_4 (i := 25) rfl
theorem d_L_law_368 : decode b_L_law 368 = .ok (.lcmp, 1) := dq_at q_L_law_4 (i := 26) rfl
theorem d_L_law_369 : decode b_L_law 369 = .ok (.ifCond .eq 5, 3) := dq_at q_L_law_4 (i := 27) rfl
theorem d_L_law_372 : decode b_L_law 372 = .ok (.iconst 0, 1) := dq_at q_L_law_4 (i := 28) rfl
theorem d_L_law_373 : decode b_L_law 373 = .ok (.ireturn, 1) := dq_at q_L_law_4 (i := 29) rfl
theorem d_L_law_374 : decode b_L_law 374 = .ok (.goto 647, 3) := dq_at q_L_law_4 (i := 30) rfl
theorem d_L_law_377 : decode b_L_law 377 = .ok (.aload_n 1, 1) := dq_at q_L_law_4 (i := 31) rfl
theorem d_L_law_378 : decode b_L_law 378 = .ok (.aload_n 0, 1) := dq_at q_L_law_4 (i := 32) rfl
theorem d_L_law_379 : decode b_L_law 379 = .ok (.iload 4, 2) := dq_at q_L_law_4 (i := 33) rfl
theorem d_L_law_381 : decode b_L_law 381 = .ok (.iconst 1, 1) := dq_at q_L_law_4 (i := 34) rfl
theorem d_L_law_382 : decode b_L_law 382 = .ok (.iadd, 1) := dq_at q_L_law_4 (i := 35) rfl
theorem d_L_law_383 : decode b_L_law 383 = .ok (.iaload, 1) := dq_at q_L_law_4 (i := 36) rfl
theorem d_L_law_384 : decode b_L_law 384 = .ok (.aload_n 0, 1) := dq_at q_L_law_4 (i := 37) rfl
theorem d_L_law_385 : decode b_L_law 385 = .ok (.iload 4, 2) := dq_at q_L_law_4 (i := 38) rfl
theorem d_L_law_387 : decode b_L_law 387 = .ok (.iconst 2, 1) := dq_at q_L_law_4 (i := 39) rfl
def r_L_law_5 : List (Nat × Instr × Nat) := [(388, .iadd, 1), (389, .iaload, 1), (390, .invokestatic 111, 3), (393, .istore 5, 2), (395, .aload_n 2, 1), (396, .aload_n 0, 1), (397, .iload 4, 2), (399, .iconst 1, 1), (400, .iadd, 1), (401, .iaload, 1), (402, .aload_n 0, 1), (403, .iload 4, 2), (405, .iconst 2, 1), (406, .iadd, 1), (407, .iaload, 1), (408, .invokevirtual 114, 3), (411, .goto 610, 3), (414, .aload_n 1, 1), (415, .aload_n 0, 1), (416, .iload 4, 2), (418, .iconst 1, 1), (419, .iadd, 1), (420, .iaload, 1), (421, .i2l, 1), (422, .bipush 32, 2), (424, .lshl, 1), (425, .aload_n 0, 1), (426, .iload 4, 2), (428, .iconst 2, 1), (429, .iadd, 1), (430, .iaload, 1), (431, .i2l, 1), (432, .ldc2_w 115, 3), (435, .land, 1), (436, .lor, 1), (437, .aload_n 0, 1), (438, .iload 4, 2), (440, .iconst 3, 1), (441, .iadd, 1), (442, .iaload, 1)]
theorem q_L_law_5 : dq_all b_L_law r_L_law_5 = true := by decide +kernel
theorem d_L_law_388 : decode b_L_law 388 = .ok (.iadd, 1) := dq_at q_L_law_5 (i := 0) rfl
theorem d_L_law_389 : decode b_L_law 389 = .ok (.iaload, 1) := dq_at q_L_law_5 (i := 1) rfl
theorem d_L_law_390 : decode b_L_law 390 = .ok (.invokestatic 111, 3) := dq_at q_L_law_5 (i := 2) rfl
theorem d_L_law_393 : decode b_L_law 393 = .ok (.istore 5, 2) := dq_at q_L_law_5 (i := 3) rfl
theorem d_L_law_395 : decode b_L_law 395 = .ok (.aload_n 2, 1) := dq_at q_L_law_5 (i := 4) rfl
theorem d_L_law_396 : decode b_L_law 396 = .ok (.aload_n 0, 1) := dq_at q_L_law_5 (i := 5) rfl
theorem d_L_law_397 : decode b_L_law 397 = .ok (.iload 4, 2) := dq_at q_L_law_5 (i := 6) rfl
theorem d_L_law_399 : decode b_L_law 399 = .ok (.iconst 1, 1) := dq_at q_L_law_5 (i := 7) rfl
theorem d_L_law_400 : decode b_L_law 400 = .ok (.iadd, 1) := dq_at q_L_law_5 (i := 8) rfl
theorem d_L_law_401 : decode b_L_law 401 = .ok (.iaload, 1) := dq_at q_L_law_5 (i := 9) rfl
theorem d_L_law_402 : decode b_L_law 402 = .ok (.aload_n 0, 1) := dq_at q_L_law_5 (i := 10) rfl
theorem d_L_law_403 : decode b_L_law 403 = .ok (.iload 4, 2) := dq_at q_L_law_5 (i := 11) rfl
theorem d_L_law_405 : decode b_L_law 405 = .ok (.iconst 2, 1) := dq_at q_L_law_5 (i := 12) rfl
theorem d_L_law_406 : decode b_L_law 406 = .ok (.iadd, 1) := dq_at q_L_law_5 (i := 13) rfl
theorem d_L_law_407 : decode b_L_law 407 = .ok (.iaload, 1) := dq_at q_L_law_5 (i := 14) rfl
theorem d_L_law_408 : decode b_L_law 408 = .ok (.invokevirtual 114, 3) := dq_at q_L_law_5 (i := 15) rfl
theorem d_L_law_411 : decode b_L_law 411 = .ok (.goto 610, 3) := dq_at q_L_law_5 (i := 16) rfl
theorem d_L_law_414 : decode b_L_law 414 = .ok (.aload_n 1, 1) := dq_at q_L_law_5 (i := 17) rfl
theorem d_L_law_415 : decode b_L_law 415 = .ok (.aload_n 0, 1) := dq_at q_L_law_5 (i := 18) rfl
theorem d_L_law_416 : decode b_L_law 416 = .ok (.iload 4, 2) := dq_at q_L_law_5 (i := 19) rfl
theorem d_L_law_418 : decode b_L_law 418 = .ok (.iconst 1, 1) := dq_at q_L_law_5 (i := 20) rfl
theorem d_L_law_419 : decode b_L_law 419 = .ok (.iadd, 1) := dq_at q_L_law_5 (i := 21) rfl
theorem d_L_law_420 : decode b_L_law 420 = .ok (.iaload, 1) := dq_at q_L_law_5 (i := 22) rfl
theorem d_L_law_421 : decode b_L_law 421 = .ok (.i2l, 1) := dq_at q_L_law_5 (i := 23) rfl
theorem d_L_law_422 : decode b_L_law 422 = .ok (.bipush 32, 2) := dq_at q_L_law_5 (i := 24) rfl
theorem d_L_law_424 : decode b_L_law 424 = .ok (.lshl, 1) := dq_at q_L_law_5 (i := 25) rfl
theorem d_L_law_425 : decode b_L_law 425 = .ok (.aload_n 0, 1) := dq_at q_L_law_5 (i := 26) rfl
theorem d_L_law_426 : decode b_L_law 426 = .ok (.iload 4, 2) := dq_at q_L_law_5 (i := 27) rfl
theorem d_L_law_428 : decode b_L_law 428 = .ok (.iconst 2, 1) := dq_at q_L_law_5 (i := 28) rfl
theorem d_L_law_429 : decode b_L_law 429 = .ok (.iadd, 1) := dq_at q_L_law_5 (i := 29) rfl
theorem d_L_law_430 : decode b_L_law 430 = .ok (.iaload, 1) := dq_at q_L_law_5 (i := 30) rfl
theorem d_L_law_431 : decode b_L_law 431 = .ok (.i2l, 1) := dq_at q_L_law_5 (i := 31) rfl
theorem d_L_law_432 : decode b_L_law 432 = .ok (.ldc2_w 115, 3) := dq_at q_L_law_5 (i := 32) rfl
theorem d_L_law_435 : decode b_L_law 435 = .ok (.land, 1) := dq_at q_L_law_5 (i := 33) rfl
theorem d_L_law_436 : decode b_L_law 436 = .ok (.lor, 1) := dq_at q_L_law_5 (i := 34) rfl
theorem d_L_law_437 : decode b_L_law 437 = .ok (.aload_n 0, 1) := dq_at q_L_law_5 (i := 35) rfl
theorem d_L_law_438 : decode b_L_law 438 = .ok (.iload 4, 2) := dq_at q_L_law_5 (i := 36) rfl
theorem d_L_law_440 : decode b_L_law 440 = .ok (.iconst 3, 1) := dq_at q_L_law_5 (i := 37) rfl
theorem d_L_law_441 : decode b_L_law 441 = .ok (.iadd, 1) := dq_at q_L_law_5 (i := 38) rfl
theorem d_L_law_442 : decode b_L_law 442 = .ok (.iaload, 1) := dq_at q_L_law_5 (i := 39) rfl
def r_L_law_6 : List (Nat × Instr × Nat) := [(443, .aload_n 3, 1), (444, .invokestatic 117, 3), (447, .istore 5, 2), (449, .aload_n 2, 1), (450, .aload_n 0, 1), (451, .iload 4, 2), (453, .iconst 1, 1), (454, .iadd, 1), (455, .iaload, 1), (456, .i2l, 1), (457, .bipush 32, 2), (459, .lshl, 1), (460, .aload_n 0, 1), (461, .iload 4, 2), (463, .iconst 2, 1), (464, .iadd, 1), (465, .iaload, 1), (466, .i2l, 1), (467, .ldc2_w 115, 3), (470, .land, 1), (471, .lor, 1), (472, .aload_n 0, 1), (473, .iload 4, 2), (475, .iconst 3, 1), (476, .iadd, 1), (477, .iaload, 1), (478, .invokevirtual 120, 3), (481, .istore 6, 2), (483, .goto 538, 3), (486, .aload_n 1, 1), (487, .aload_n 3, 1), (488, .invokestatic 121, 3), (491, .istore 5, 2), (493, .aload_n 2, 1), (494, .invokevirtual 124, 3), (497, .istore 6, 2), (499, .goto 522, 3), (502, .aload_n 1, 1), (503, .invokevirtual 125, 3), (506, .pop, 1)]
theorem q_L_law_6 : dq_all b_L_law r_L_law_6 = true := by decide +kernel
theorem d_L_law_443 : decode b_L_law 443 = .ok (.aload_n 3, 1) := dq_at q_L_law_6 (i := 0) rfl
theorem d_L_law_444 : decode b_L_law 444 = .ok (.invokestatic 117, 3) := dq_at q_L_law_6 (i := 1) rfl
theorem d_L_law_447 : decode b_L_law 447 = .ok (.istore 5, 2) := dq_at q_L_law_6 (i := 2) rfl
theorem d_L_law_449 : decode b_L_law 449 = .ok (.aload_n 2, 1) := dq_at q_L_law_6 (i := 3) rfl
theorem d_L_law_450 : decode b_L_law 450 = .ok (.aload_n 0, 1) := dq_at q_L_law_6 (i := 4) rfl
theorem d_L_law_451 : decode b_L_law 451 = .ok (.iload 4, 2) := dq_at q_L_law_6 (i := 5) rfl
theorem d_L_law_453 : decode b_L_law 453 = .ok (.iconst 1, 1) := dq_at q_L_law_6 (i := 6) rfl
theorem d_L_law_454 : decode b_L_law 454 = .ok (.iadd, 1) := dq_at q_L_law_6 (i := 7) rfl
theorem d_L_law_455 : decode b_L_law 455 = .ok (.iaload, 1) := dq_at q_L_law_6 (i := 8) rfl
theorem d_L_law_456 : decode b_L_law 456 = .ok (.i2l, 1) := dq_at q_L_law_6 (i := 9) rfl
theorem d_L_law_457 : decode b_L_law 457 = .ok (.bipush 32, 2) := dq_at q_L_law_6 (i := 10) rfl
theorem d_L_law_459 : decode b_L_law 459 = .ok (.lshl, 1) := dq_at q_L_law_6 (i := 11) rfl
theorem d_L_law_460 : decode b_L_law 460 = .ok (.aload_n 0, 1) := dq_at q_L_law_6 (i := 12) rfl
theorem d_L_law_461 : decode b_L_law 461 = .ok (.iload 4, 2) := dq_at q_L_law_6 (i := 13) rfl
theorem d_L_law_463 : decode b_L_law 463 = .ok (.iconst 2, 1) := dq_at q_L_law_6 (i := 14) rfl
theorem d_L_law_464 : decode b_L_law 464 = .ok (.iadd, 1) := dq_at q_L_law_6 (i := 15) rfl
theorem d_L_law_465 : decode b_L_law 465 = .ok (.iaload, 1) := dq_at q_L_law_6 (i := 16) rfl
theorem d_L_law_466 : decode b_L_law 466 = .ok (.i2l, 1) := dq_at q_L_law_6 (i := 17) rfl
theorem d_L_law_467 : decode b_L_law 467 = .ok (.ldc2_w 115, 3) := dq_at q_L_law_6 (i := 18) rfl
theorem d_L_law_470 : decode b_L_law 470 = .ok (.land, 1) := dq_at q_L_law_6 (i := 19) rfl
theorem d_L_law_471 : decode b_L_law 471 = .ok (.lor, 1) := dq_at q_L_law_6 (i := 20) rfl
theorem d_L_law_472 : decode b_L_law 472 = .ok (.aload_n 0, 1) := dq_at q_L_law_6 (i := 21) rfl
theorem d_L_law_473 : decode b_L_law 473 = .ok (.iload 4, 2) := dq_at q_L_law_6 (i := 22) rfl
theorem d_L_law_475 : decode b_L_law 475 = .ok (.iconst 3, 1) := dq_at q_L_law_6 (i := 23) rfl
theorem d_L_law_476 : decode b_L_law 476 = .ok (.iadd, 1) := dq_at q_L_law_6 (i := 24) rfl
theorem d_L_law_477 : decode b_L_law 477 = .ok (.iaload, 1) := dq_at q_L_law_6 (i := 25) rfl
theorem d_L_law_478 : decode b_L_law 478 = .ok (.invokevirtual 120, 3) := dq_at q_L_law_6 (i := 26) rfl
theorem d_L_law_481 : decode b_L_law 481 = .ok (.istore 6, 2) := dq_at q_L_law_6 (i := 27) rfl
theorem d_L_law_483 : decode b_L_law 483 = .ok (.goto 538, 3) := dq_at q_L_law_6 (i := 28) rfl
theorem d_L_law_486 : decode b_L_law 486 = .ok (.aload_n 1, 1) := dq_at q_L_law_6 (i := 29) rfl
theorem d_L_law_487 : decode b_L_law 487 = .ok (.aload_n 3, 1) := dq_at q_L_law_6 (i := 30) rfl
theorem d_L_law_488 : decode b_L_law 488 = .ok (.invokestatic 121, 3) := dq_at q_L_law_6 (i := 31) rfl
theorem d_L_law_491 : decode b_L_law 491 = .ok (.istore 5, 2) := dq_at q_L_law_6 (i := 32) rfl
theorem d_L_law_493 : decode b_L_law 493 = .ok (.aload_n 2, 1) := dq_at q_L_law_6 (i := 33) rfl
theorem d_L_law_494 : decode b_L_law 494 = .ok (.invokevirtual 124, 3) := dq_at q_L_law_6 (i := 34) rfl
theorem d_L_law_497 : decode b_L_law 497 = .ok (.istore 6, 2) := dq_at q_L_law_6 (i := 35) rfl
theorem d_L_law_499 : decode b_L_law 499 = .ok (.goto 522, 3) := dq_at q_L_law_6 (i := 36) rfl
theorem d_L_law_502 : decode b_L_law 502 = .ok (.aload_n 1, 1) := dq_at q_L_law_6 (i := 37) rfl
theorem d_L_law_503 : decode b_L_law 503 = .ok (.invokevirtual 125, 3) := dq_at q_L_law_6 (i := 38) rfl
theorem d_L_law_506 : decode b_L_law 506 = .ok (.pop, 1) := dq_at q_L_law_6 (i := 39) rfl
def r_L_law_7 : List (Nat × Instr × Nat) := [(507, .aload_n 2, 1), (508, .invokevirtual 128, 3), (511, .pop, 1), (512, .goto 509, 3), (515, .aload_n 1, 1), (516, .aload_n 0, 1), (517, .iload 4, 2), (519, .iconst 1, 1), (520, .iadd, 1), (521, .iaload, 1), (522, .aload_n 3, 1), (523, .invokestatic 129, 3), (526, .istore 5, 2), (528, .aload_n 2, 1), (529, .aload_n 0, 1), (530, .iload 4, 2), (532, .iconst 1, 1), (533, .iadd, 1), (534, .iaload, 1), (535, .invokevirtual 132, 3), (538, .istore 6, 2), (540, .goto 481, 3), (543, .aload_n 1, 1), (544, .aload_n 0, 1), (545, .iload 4, 2), (547, .iconst 1, 1), (548, .iadd, 1), (549, .iaload, 1), (550, .aload_n 0, 1), (551, .iload 4, 2), (553, .iconst 2, 1), (554, .iadd, 1), (555, .iaload, 1), (556, .aload_n 3, 1), (557, .invokestatic 133, 3), (560, .istore 5, 2), (562, .aload_n 2, 1), (563, .aload_n 0, 1), (564, .iload 4, 2), (566, .iconst 1, 1)]
theorem q_L_law_7 : dq_all b_L_law r_L_law_7 = true := by decide +kernel
theorem d_L_law_507 : decode b_L_law 507 = .ok (.aload_n 2, 1) := dq_at q_L_law_7 (i := 0) rfl
theorem d_L_law_508 : decode b_L_law 508 = .ok (.invokevirtual 128, 3) := dq_at q_L_law_7 (i := 1) rfl
theorem d_L_law_511 : decode b_L_law 511 = .ok (.pop, 1) := dq_at q_L_law_7 (i := 2) rfl
theorem d_L_law_512 : decode b_L_law 512 = .ok (.goto 509, 3) := dq_at q_L_law_7 (i := 3) rfl
theorem d_L_law_515 : decode b_L_law 515 = .ok (.aload_n 1, 1) := dq_at q_L_law_7 (i := 4) rfl
theorem d_L_law_516 : decode b_L_law 516 = .ok (.aload_n 0, 1) := dq_at q_L_law_7 (i := 5) rfl
theorem d_L_law_517 : decode b_L_law 517 = .ok (.iload 4, 2) := dq_at q_L_law_7 (i := 6) rfl
theorem d_L_law_519 : decode b_L_law 519 = .ok (.iconst 1, 1) := dq_at q_L_law_7 (i := 7) rfl
theorem d_L_law_520 : decode b_L_law 520 = .ok (.iadd, 1) := dq_at q_L_law_7 (i := 8) rfl
theorem d_L_law_521 : decode b_L_law 521 = .ok (.iaload, 1) := dq_at q_L_law_7 (i := 9) rfl
theorem d_L_law_522 : decode b_L_law 522 = .ok (.aload_n 3, 1) := dq_at q_L_law_7 (i := 10) rfl
theorem d_L_law_523 : decode b_L_law 523 = .ok (.invokestatic 129, 3) := dq_at q_L_law_7 (i := 11) rfl
theorem d_L_law_526 : decode b_L_law 526 = .ok (.istore 5, 2) := dq_at q_L_law_7 (i := 12) rfl
theorem d_L_law_528 : decode b_L_law 528 = .ok (.aload_n 2, 1) := dq_at q_L_law_7 (i := 13) rfl
theorem d_L_law_529 : decode b_L_law 529 = .ok (.aload_n 0, 1) := dq_at q_L_law_7 (i := 14) rfl
theorem d_L_law_530 : decode b_L_law 530 = .ok (.iload 4, 2) := dq_at q_L_law_7 (i := 15) rfl
theorem d_L_law_532 : decode b_L_law 532 = .ok (.iconst 1, 1) := dq_at q_L_law_7 (i := 16) rfl
theorem d_L_law_533 : decode b_L_law 533 = .ok (.iadd, 1) := dq_at q_L_law_7 (i := 17) rfl
theorem d_L_law_534 : decode b_L_law 534 = .ok (.iaload, 1) := dq_at q_L_law_7 (i := 18) rfl
theorem d_L_law_535 : decode b_L_law 535 = .ok (.invokevirtual 132, 3) := dq_at q_L_law_7 (i := 19) rfl
theorem d_L_law_538 : decode b_L_law 538 = .ok (.istore 6, 2) := dq_at q_L_law_7 (i := 20) rfl
theorem d_L_law_540 : decode b_L_law 540 = .ok (.goto 481, 3) := dq_at q_L_law_7 (i := 21) rfl
theorem d_L_law_543 : decode b_L_law 543 = .ok (.aload_n 1, 1) := dq_at q_L_law_7 (i := 22) rfl
theorem d_L_law_544 : decode b_L_law 544 = .ok (.aload_n 0, 1) := dq_at q_L_law_7 (i := 23) rfl
theorem d_L_law_545 : decode b_L_law 545 = .ok (.iload 4, 2) := dq_at q_L_law_7 (i := 24) rfl
theorem d_L_law_547 : decode b_L_law 547 = .ok (.iconst 1, 1) := dq_at q_L_law_7 (i := 25) rfl
theorem d_L_law_548 : decode b_L_law 548 = .ok (.iadd, 1) := dq_at q_L_law_7 (i := 26) rfl
theorem d_L_law_549 : decode b_L_law 549 = .ok (.iaload, 1) := dq_at q_L_law_7 (i := 27) rfl
theorem d_L_law_550 : decode b_L_law 550 = .ok (.aload_n 0, 1) := dq_at q_L_law_7 (i := 28) rfl
theorem d_L_law_551 : decode b_L_law 551 = .ok (.iload 4, 2) := dq_at q_L_law_7 (i := 29) rfl
theorem d_L_law_553 : decode b_L_law 553 = .ok (.iconst 2, 1) := dq_at q_L_law_7 (i := 30) rfl
theorem d_L_law_554 : decode b_L_law 554 = .ok (.iadd, 1) := dq_at q_L_law_7 (i := 31) rfl
theorem d_L_law_555 : decode b_L_law 555 = .ok (.iaload, 1) := dq_at q_L_law_7 (i := 32) rfl
theorem d_L_law_556 : decode b_L_law 556 = .ok (.aload_n 3, 1) := dq_at q_L_law_7 (i := 33) rfl
theorem d_L_law_557 : decode b_L_law 557 = .ok (.invokestatic 133, 3) := dq_at q_L_law_7 (i := 34) rfl
theorem d_L_law_560 : decode b_L_law 560 = .ok (.istore 5, 2) := dq_at q_L_law_7 (i := 35) rfl
theorem d_L_law_562 : decode b_L_law 562 = .ok (.aload_n 2, 1) := dq_at q_L_law_7 (i := 36) rfl
theorem d_L_law_563 : decode b_L_law 563 = .ok (.aload_n 0, 1) := dq_at q_L_law_7 (i := 37) rfl
theorem d_L_law_564 : decode b_L_law 564 = .ok (.iload 4, 2) := dq_at q_L_law_7 (i := 38) rfl
theorem d_L_law_566 : decode b_L_law 566 = .ok (.iconst 1, 1) := dq_at q_L_law_7 (i := 39) rfl
def r_L_law_8 : List (Nat × Instr × Nat) := [(567, .iadd, 1), (568, .iaload, 1), (569, .aload_n 0, 1), (570, .iload 4, 2), (572, .iconst 2, 1), (573, .iadd, 1), (574, .iaload, 1), (575, .invokevirtual 135, 3), (578, .istore 6, 2), (580, .goto 441, 3), (583, .aload_n 1, 1), (584, .aload_n 0, 1), (585, .iload 4, 2), (587, .iconst 1, 1), (588, .iadd, 1), (589, .iaload, 1), (590, .aload_n 0, 1), (591, .iload 4, 2), (593, .iconst 2, 1), (594, .iadd, 1), (595, .iaload, 1), (596, .aload_n 3, 1), (597, .invokestatic 136, 3), (600, .istore 5, 2), (602, .aload_n 2, 1), (603, .aload_n 0, 1), (604, .iload 4, 2), (606, .iconst 1, 1), (607, .iadd, 1), (608, .iaload, 1), (609, .aload_n 0, 1), (610, .iload 4, 2), (612, .iconst 2, 1), (613, .iadd, 1), (614, .iaload, 1), (615, .invokevirtual 138, 3), (618, .istore 6, 2), (620, .goto 401, 3), (623, .aload_n 1, 1), (624, .aload_n 0, 1)]
theorem q_L_law_8 : dq_all b_L_law r_L_law_8 = true := by decide +kernel
theorem d_L_law_567 : decode b_L_law 567 = .ok (.iadd, 1) := dq_at q_L_law_8 (i := 0) rfl
theorem d_L_law_568 : decode b_L_law 568 = .ok (.iaload, 1) := dq_at q_L_law_8 (i := 1) rfl
theorem d_L_law_569 : decode b_L_law 569 = .ok (.aload_n 0, 1) := dq_at q_L_law_8 (i := 2) rfl
theorem d_L_law_570 : decode b_L_law 570 = .ok (.iload 4, 2) := dq_at q_L_law_8 (i := 3) rfl
theorem d_L_law_572 : decode b_L_law 572 = .ok (.iconst 2, 1) := dq_at q_L_law_8 (i := 4) rfl
theorem d_L_law_573 : decode b_L_law 573 = .ok (.iadd, 1) := dq_at q_L_law_8 (i := 5) rfl
theorem d_L_law_574 : decode b_L_law 574 = .ok (.iaload, 1) := dq_at q_L_law_8 (i := 6) rfl
theorem d_L_law_575 : decode b_L_law 575 = .ok (.invokevirtual 135, 3) := dq_at q_L_law_8 (i := 7) rfl
theorem d_L_law_578 : decode b_L_law 578 = .ok (.istore 6, 2) := dq_at q_L_law_8 (i := 8) rfl
theorem d_L_law_580 : decode b_L_law 580 = .ok (.goto 441, 3) := dq_at q_L_law_8 (i := 9) rfl
theorem d_L_law_583 : decode b_L_law 583 = .ok (.aload_n 1, 1) := dq_at q_L_law_8 (i := 10) rfl
theorem d_L_law_584 : decode b_L_law 584 = .ok (.aload_n 0, 1) := dq_at q_L_law_8 (i := 11) rfl
theorem d_L_law_585 : decode b_L_law 585 = .ok (.iload 4, 2) := dq_at q_L_law_8 (i := 12) rfl
theorem d_L_law_587 : decode b_L_law 587 = .ok (.iconst 1, 1) := dq_at q_L_law_8 (i := 13) rfl
theorem d_L_law_588 : decode b_L_law 588 = .ok (.iadd, 1) := dq_at q_L_law_8 (i := 14) rfl
theorem d_L_law_589 : decode b_L_law 589 = .ok (.iaload, 1) := dq_at q_L_law_8 (i := 15) rfl
theorem d_L_law_590 : decode b_L_law 590 = .ok (.aload_n 0, 1) := dq_at q_L_law_8 (i := 16) rfl
theorem d_L_law_591 : decode b_L_law 591 = .ok (.iload 4, 2) := dq_at q_L_law_8 (i := 17) rfl
theorem d_L_law_593 : decode b_L_law 593 = .ok (.iconst 2, 1) := dq_at q_L_law_8 (i := 18) rfl
theorem d_L_law_594 : decode b_L_law 594 = .ok (.iadd, 1) := dq_at q_L_law_8 (i := 19) rfl
theorem d_L_law_595 : decode b_L_law 595 = .ok (.iaload, 1) := dq_at q_L_law_8 (i := 20) rfl
theorem d_L_law_596 : decode b_L_law 596 = .ok (.aload_n 3, 1) := dq_at q_L_law_8 (i := 21) rfl
theorem d_L_law_597 : decode b_L_law 597 = .ok (.invokestatic 136, 3) := dq_at q_L_law_8 (i := 22) rfl
theorem d_L_law_600 : decode b_L_law 600 = .ok (.istore 5, 2) := dq_at q_L_law_8 (i := 23) rfl
theorem d_L_law_602 : decode b_L_law 602 = .ok (.aload_n 2, 1) := dq_at q_L_law_8 (i := 24) rfl
theorem d_L_law_603 : decode b_L_law 603 = .ok (.aload_n 0, 1) := dq_at q_L_law_8 (i := 25) rfl
theorem d_L_law_604 : decode b_L_law 604 = .ok (.iload 4, 2) := dq_at q_L_law_8 (i := 26) rfl
theorem d_L_law_606 : decode b_L_law 606 = .ok (.iconst 1, 1) := dq_at q_L_law_8 (i := 27) rfl
theorem d_L_law_607 : decode b_L_law 607 = .ok (.iadd, 1) := dq_at q_L_law_8 (i := 28) rfl
theorem d_L_law_608 : decode b_L_law 608 = .ok (.iaload, 1) := dq_at q_L_law_8 (i := 29) rfl
theorem d_L_law_609 : decode b_L_law 609 = .ok (.aload_n 0, 1) := dq_at q_L_law_8 (i := 30) rfl
theorem d_L_law_610 : decode b_L_law 610 = .ok (.iload 4, 2) := dq_at q_L_law_8 (i := 31) rfl
theorem d_L_law_612 : decode b_L_law 612 = .ok (.iconst 2, 1) := dq_at q_L_law_8 (i := 32) rfl
theorem d_L_law_613 : decode b_L_law 613 = .ok (.iadd, 1) := dq_at q_L_law_8 (i := 33) rfl
theorem d_L_law_614 : decode b_L_law 614 = .ok (.iaload, 1) := dq_at q_L_law_8 (i := 34) rfl
theorem d_L_law_615 : decode b_L_law 615 = .ok (.invokevirtual 138, 3) := dq_at q_L_law_8 (i := 35) rfl
theorem d_L_law_618 : decode b_L_law 618 = .ok (.istore 6, 2) := dq_at q_L_law_8 (i := 36) rfl
theorem d_L_law_620 : decode b_L_law 620 = .ok (.goto 401, 3) := dq_at q_L_law_8 (i := 37) rfl
theorem d_L_law_623 : decode b_L_law 623 = .ok (.aload_n 1, 1) := dq_at q_L_law_8 (i := 38) rfl
theorem d_L_law_624 : decode b_L_law 624 = .ok (.aload_n 0, 1) := dq_at q_L_law_8 (i := 39) rfl
def r_L_law_9 : List (Nat × Instr × Nat) := [(625, .iload 4, 2), (627, .iconst 1, 1), (628, .iadd, 1), (629, .iaload, 1), (630, .aload_n 3, 1), (631, .invokestatic 139, 3), (634, .istore 5, 2), (636, .aload_n 2, 1), (637, .aload_n 0, 1), (638, .iload 4, 2), (640, .iconst 1, 1), (641, .iadd, 1), (642, .iaload, 1), (643, .invokevirtual 141, 3), (646, .istore 6, 2), (648, .goto 373, 3), (651, .aload_n 1, 1), (652, .aload_n 0, 1), (653, .iload 4, 2), (655, .iconst 1, 1), (656, .iadd, 1), (657, .iaload, 1), (658, .aload_n 0, 1), (659, .iload 4, 2), (661, .iconst 2, 1), (662, .iadd, 1), (663, .iaload, 1), (664, .invokestatic 142, 3), (667, .istore 5, 2), (669, .aload_n 2, 1), (670, .aload_n 0, 1), (671, .iload 4, 2), (673, .iconst 1, 1), (674, .iadd, 1), (675, .iaload, 1), (676, .aload_n 0, 1), (677, .iload 4, 2), (679, .iconst 2, 1), (680, .iadd, 1), (681, .iaload, 1)]
theorem q_L_law_9 : dq_all b_L_law r_L_law_9 = true := by decide +kernel
theorem d_L_law_625 : decode b_L_law 625 = .ok (.iload 4, 2) := dq_at q_L_law_9 (i := 0) rfl
theorem d_L_law_627 : decode b_L_law 627 = .ok (.iconst 1, 1) := dq_at q_L_law_9 (i := 1) rfl
theorem d_L_law_628 : decode b_L_law 628 = .ok (.iadd, 1) := dq_at q_L_law_9 (i := 2) rfl
theorem d_L_law_629 : decode b_L_law 629 = .ok (.iaload, 1) := dq_at q_L_law_9 (i := 3) rfl
theorem d_L_law_630 : decode b_L_law 630 = .ok (.aload_n 3, 1) := dq_at q_L_law_9 (i := 4) rfl
theorem d_L_law_631 : decode b_L_law 631 = .ok (.invokestatic 139, 3) := dq_at q_L_law_9 (i := 5) rfl
theorem d_L_law_634 : decode b_L_law 634 = .ok (.istore 5, 2) := dq_at q_L_law_9 (i := 6) rfl
theorem d_L_law_636 : decode b_L_law 636 = .ok (.aload_n 2, 1) := dq_at q_L_law_9 (i := 7) rfl
theorem d_L_law_637 : decode b_L_law 637 = .ok (.aload_n 0, 1) := dq_at q_L_law_9 (i := 8) rfl
theorem d_L_law_638 : decode b_L_law 638 = .ok (.iload 4, 2) := dq_at q_L_law_9 (i := 9) rfl
theorem d_L_law_640 : decode b_L_law 640 = .ok (.iconst 1, 1) := dq_at q_L_law_9 (i := 10) rfl
theorem d_L_law_641 : decode b_L_law 641 = .ok (.iadd, 1) := dq_at q_L_law_9 (i := 11) rfl
theorem d_L_law_642 : decode b_L_law 642 = .ok (.iaload, 1) := dq_at q_L_law_9 (i := 12) rfl
theorem d_L_law_643 : decode b_L_law 643 = .ok (.invokevirtual 141, 3) := dq_at q_L_law_9 (i := 13) rfl
theorem d_L_law_646 : decode b_L_law 646 = .ok (.istore 6, 2) := dq_at q_L_law_9 (i := 14) rfl
theorem d_L_law_648 : decode b_L_law 648 = .ok (.goto 373, 3) := dq_at q_L_law_9 (i := 15) rfl
theorem d_L_law_651 : decode b_L_law 651 = .ok (.aload_n 1, 1) := dq_at q_L_law_9 (i := 16) rfl
theorem d_L_law_652 : decode b_L_law 652 = .ok (.aload_n 0, 1) := dq_at q_L_law_9 (i := 17) rfl
theorem d_L_law_653 : decode b_L_law 653 = .ok (.iload 4, 2) := dq_at q_L_law_9 (i := 18) rfl
theorem d_L_law_655 : decode b_L_law 655 = .ok (.iconst 1, 1) := dq_at q_L_law_9 (i := 19) rfl
theorem d_L_law_656 : decode b_L_law 656 = .ok (.iadd, 1) := dq_at q_L_law_9 (i := 20) rfl
theorem d_L_law_657 : decode b_L_law 657 = .ok (.iaload, 1) := dq_at q_L_law_9 (i := 21) rfl
theorem d_L_law_658 : decode b_L_law 658 = .ok (.aload_n 0, 1) := dq_at q_L_law_9 (i := 22) rfl
theorem d_L_law_659 : decode b_L_law 659 = .ok (.iload 4, 2) := dq_at q_L_law_9 (i := 23) rfl
theorem d_L_law_661 : decode b_L_law 661 = .ok (.iconst 2, 1) := dq_at q_L_law_9 (i := 24) rfl
theorem d_L_law_662 : decode b_L_law 662 = .ok (.iadd, 1) := dq_at q_L_law_9 (i := 25) rfl
theorem d_L_law_663 : decode b_L_law 663 = .ok (.iaload, 1) := dq_at q_L_law_9 (i := 26) rfl
theorem d_L_law_664 : decode b_L_law 664 = .ok (.invokestatic 142, 3) := dq_at q_L_law_9 (i := 27) rfl
theorem d_L_law_667 : decode b_L_law 667 = .ok (.istore 5, 2) := dq_at q_L_law_9 (i := 28) rfl
theorem d_L_law_669 : decode b_L_law 669 = .ok (.aload_n 2, 1) := dq_at q_L_law_9 (i := 29) rfl
theorem d_L_law_670 : decode b_L_law 670 = .ok (.aload_n 0, 1) := dq_at q_L_law_9 (i := 30) rfl
theorem d_L_law_671 : decode b_L_law 671 = .ok (.iload 4, 2) := dq_at q_L_law_9 (i := 31) rfl
theorem d_L_law_673 : decode b_L_law 673 = .ok (.iconst 1, 1) := dq_at q_L_law_9 (i := 32) rfl
theorem d_L_law_674 : decode b_L_law 674 = .ok (.iadd, 1) := dq_at q_L_law_9 (i := 33) rfl
theorem d_L_law_675 : decode b_L_law 675 = .ok (.iaload, 1) := dq_at q_L_law_9 (i := 34) rfl
theorem d_L_law_676 : decode b_L_law 676 = .ok (.aload_n 0, 1) := dq_at q_L_law_9 (i := 35) rfl
theorem d_L_law_677 : decode b_L_law 677 = .ok (.iload 4, 2) := dq_at q_L_law_9 (i := 36) rfl
theorem d_L_law_679 : decode b_L_law 679 = .ok (.iconst 2, 1) := dq_at q_L_law_9 (i := 37) rfl
theorem d_L_law_680 : decode b_L_law 680 = .ok (.iadd, 1) := dq_at q_L_law_9 (i := 38) rfl
theorem d_L_law_681 : decode b_L_law 681 = .ok (.iaload, 1) := dq_at q_L_law_9 (i := 39) rfl
def r_L_law_10 : List (Nat × Instr × Nat) := [(682, .invokevirtual 144, 3), (685, .goto 336, 3), (688, .aload_n 1, 1), (689, .aload_n 0, 1), (690, .iload 4, 2), (692, .iconst 1, 1), (693, .iadd, 1), (694, .iaload, 1), (695, .aload_n 0, 1), (696, .iload 4, 2), (698, .iconst 2, 1), (699, .iadd, 1), (700, .iaload, 1), (701, .aload_n 0, 1), (702, .iload 4, 2), (704, .iconst 3, 1), (705, .iadd, 1), (706, .iaload, 1), (707, .ifCond .eq 7, 3), (710, .iconst 1, 1), (711, .goto 4, 3), (714, .iconst 0, 1), (715, .invokestatic 145, 3), (718, .istore 5, 2), (720, .aload_n 2, 1), (721, .aload_n 0, 1), (722, .iload 4, 2), (724, .iconst 1, 1), (725, .iadd, 1), (726, .iaload, 1), (727, .aload_n 0, 1), (728, .iload 4, 2), (730, .iconst 2, 1), (731, .iadd, 1), (732, .iaload, 1), (733, .aload_n 0, 1), (734, .iload 4, 2), (736, .iconst 3, 1), (737, .iadd, 1), (738, .iaload, 1)]
theorem q_L_law_10 : dq_all b_L_law r_L_law_10 = true := by decide +kernel
theorem d_L_law_682 : decode b_L_law 682 = .ok (.invokevirtual 144, 3) := dq_at q_L_law_10 (i := 0) rfl
theorem d_L_law_685 : decode b_L_law 685 = .ok (.goto 336, 3) := dq_at q_L_law_10 (i := 1) rfl
theorem d_L_law_688 : decode b_L_law 688 = .ok (.aload_n 1, 1) := dq_at q_L_law_10 (i := 2) rfl
theorem d_L_law_689 : decode b_L_law 689 = .ok (.aload_n 0, 1) := dq_at q_L_law_10 (i := 3) rfl
theorem d_L_law_690 : decode b_L_law 690 = .ok (.iload 4, 2) := dq_at q_L_law_10 (i := 4) rfl
theorem d_L_law_692 : decode b_L_law 692 = .ok (.iconst 1, 1) := dq_at q_L_law_10 (i := 5) rfl
theorem d_L_law_693 : decode b_L_law 693 = .ok (.iadd, 1) := dq_at q_L_law_10 (i := 6) rfl
theorem d_L_law_694 : decode b_L_law 694 = .ok (.iaload, 1) := dq_at q_L_law_10 (i := 7) rfl
theorem d_L_law_695 : decode b_L_law 695 = .ok (.aload_n 0, 1) := dq_at q_L_law_10 (i := 8) rfl
theorem d_L_law_696 : decode b_L_law 696 = .ok (.iload 4, 2) := dq_at q_L_law_10 (i := 9) rfl
theorem d_L_law_698 : decode b_L_law 698 = .ok (.iconst 2, 1) := dq_at q_L_law_10 (i := 10) rfl
theorem d_L_law_699 : decode b_L_law 699 = .ok (.iadd, 1) := dq_at q_L_law_10 (i := 11) rfl
theorem d_L_law_700 : decode b_L_law 700 = .ok (.iaload, 1) := dq_at q_L_law_10 (i := 12) rfl
theorem d_L_law_701 : decode b_L_law 701 = .ok (.aload_n 0, 1) := dq_at q_L_law_10 (i := 13) rfl
theorem d_L_law_702 : decode b_L_law 702 = .ok (.iload 4, 2) := dq_at q_L_law_10 (i := 14) rfl
theorem d_L_law_704 : decode b_L_law 704 = .ok (.iconst 3, 1) := dq_at q_L_law_10 (i := 15) rfl
theorem d_L_law_705 : decode b_L_law 705 = .ok (.iadd, 1) := dq_at q_L_law_10 (i := 16) rfl
theorem d_L_law_706 : decode b_L_law 706 = .ok (.iaload, 1) := dq_at q_L_law_10 (i := 17) rfl
theorem d_L_law_707 : decode b_L_law 707 = .ok (.ifCond .eq 7, 3) := dq_at q_L_law_10 (i := 18) rfl
theorem d_L_law_710 : decode b_L_law 710 = .ok (.iconst 1, 1) := dq_at q_L_law_10 (i := 19) rfl
theorem d_L_law_711 : decode b_L_law 711 = .ok (.goto 4, 3) := dq_at q_L_law_10 (i := 20) rfl
theorem d_L_law_714 : decode b_L_law 714 = .ok (.iconst 0, 1) := dq_at q_L_law_10 (i := 21) rfl
theorem d_L_law_715 : decode b_L_law 715 = .ok (.invokestatic 145, 3) := dq_at q_L_law_10 (i := 22) rfl
theorem d_L_law_718 : decode b_L_law 718 = .ok (.istore 5, 2) := dq_at q_L_law_10 (i := 23) rfl
theorem d_L_law_720 : decode b_L_law 720 = .ok (.aload_n 2, 1) := dq_at q_L_law_10 (i := 24) rfl
theorem d_L_law_721 : decode b_L_law 721 = .ok (.aload_n 0, 1) := dq_at q_L_law_10 (i := 25) rfl
theorem d_L_law_722 : decode b_L_law 722 = .ok (.iload 4, 2) := dq_at q_L_law_10 (i := 26) rfl
theorem d_L_law_724 : decode b_L_law 724 = .ok (.iconst 1, 1) := dq_at q_L_law_10 (i := 27) rfl
theorem d_L_law_725 : decode b_L_law 725 = .ok (.iadd, 1) := dq_at q_L_law_10 (i := 28) rfl
theorem d_L_law_726 : decode b_L_law 726 = .ok (.iaload, 1) := dq_at q_L_law_10 (i := 29) rfl
theorem d_L_law_727 : decode b_L_law 727 = .ok (.aload_n 0, 1) := dq_at q_L_law_10 (i := 30) rfl
theorem d_L_law_728 : decode b_L_law 728 = .ok (.iload 4, 2) := dq_at q_L_law_10 (i := 31) rfl
theorem d_L_law_730 : decode b_L_law 730 = .ok (.iconst 2, 1) := dq_at q_L_law_10 (i := 32) rfl
theorem d_L_law_731 : decode b_L_law 731 = .ok (.iadd, 1) := dq_at q_L_law_10 (i := 33) rfl
theorem d_L_law_732 : decode b_L_law 732 = .ok (.iaload, 1) := dq_at q_L_law_10 (i := 34) rfl
theorem d_L_law_733 : decode b_L_law 733 = .ok (.aload_n 0, 1) := dq_at q_L_law_10 (i := 35) rfl
theorem d_L_law_734 : decode b_L_law 734 = .ok (.iload 4, 2) := dq_at q_L_law_10 (i := 36) rfl
theorem d_L_law_736 : decode b_L_law 736 = .ok (.iconst 3, 1) := dq_at q_L_law_10 (i := 37) rfl
theorem d_L_law_737 : decode b_L_law 737 = .ok (.iadd, 1) := dq_at q_L_law_10 (i := 38) rfl
theorem d_L_law_738 : decode b_L_law 738 = .ok (.iaload, 1) := dq_at q_L_law_10 (i := 39) rfl
def r_L_law_11 : List (Nat × Instr × Nat) := [(739, .ifCond .eq 7, 3), (742, .iconst 1, 1), (743, .goto 4, 3), (746, .iconst 0, 1), (747, .invokevirtual 147, 3), (750, .goto 271, 3), (753, .aload_n 1, 1), (754, .aload_n 0, 1), (755, .iload 4, 2), (757, .iconst 1, 1), (758, .iadd, 1), (759, .iaload, 1), (760, .aload_n 0, 1), (761, .iload 4, 2), (763, .iconst 2, 1), (764, .iadd, 1), (765, .iaload, 1), (766, .aload_n 3, 1), (767, .invokestatic 148, 3), (770, .istore 5, 2), (772, .aload_n 2, 1), (773, .aload_n 0, 1), (774, .iload 4, 2), (776, .iconst 1, 1), (777, .iadd, 1), (778, .iaload, 1), (779, .aload_n 0, 1), (780, .iload 4, 2), (782, .iconst 2, 1), (783, .iadd, 1), (784, .iaload, 1), (785, .invokevirtual 150, 3), (788, .istore 6, 2), (790, .goto 231, 3), (793, .aload_n 1, 1), (794, .aload_n 0, 1), (795, .iload 4, 2), (797, .iconst 1, 1), (798, .iadd, 1), (799, .iaload, 1)]
theorem q_L_law_11 : dq_all b_L_law r_L_law_11 = true := by decide +kernel
theorem d_L_law_739 : decode b_L_law 739 = .ok (.ifCond .eq 7, 3) := dq_at q_L_law_11 (i := 0) rfl
theorem d_L_law_742 : decode b_L_law 742 = .ok (.iconst 1, 1) := dq_at q_L_law_11 (i := 1) rfl
theorem d_L_law_743 : decode b_L_law 743 = .ok (.goto 4, 3) := dq_at q_L_law_11 (i := 2) rfl
theorem d_L_law_746 : decode b_L_law 746 = .ok (.iconst 0, 1) := dq_at q_L_law_11 (i := 3) rfl
theorem d_L_law_747 : decode b_L_law 747 = .ok (.invokevirtual 147, 3) := dq_at q_L_law_11 (i := 4) rfl
theorem d_L_law_750 : decode b_L_law 750 = .ok (.goto 271, 3) := dq_at q_L_law_11 (i := 5) rfl
theorem d_L_law_753 : decode b_L_law 753 = .ok (.aload_n 1, 1) := dq_at q_L_law_11 (i := 6) rfl
theorem d_L_law_754 : decode b_L_law 754 = .ok (.aload_n 0, 1) := dq_at q_L_law_11 (i := 7) rfl
theorem d_L_law_755 : decode b_L_law 755 = .ok (.iload 4, 2) := dq_at q_L_law_11 (i := 8) rfl
theorem d_L_law_757 : decode b_L_law 757 = .ok (.iconst 1, 1) := dq_at q_L_law_11 (i := 9) rfl
theorem d_L_law_758 : decode b_L_law 758 = .ok (.iadd, 1) := dq_at q_L_law_11 (i := 10) rfl
theorem d_L_law_759 : decode b_L_law 759 = .ok (.iaload, 1) := dq_at q_L_law_11 (i := 11) rfl
theorem d_L_law_760 : decode b_L_law 760 = .ok (.aload_n 0, 1) := dq_at q_L_law_11 (i := 12) rfl
theorem d_L_law_761 : decode b_L_law 761 = .ok (.iload 4, 2) := dq_at q_L_law_11 (i := 13) rfl
theorem d_L_law_763 : decode b_L_law 763 = .ok (.iconst 2, 1) := dq_at q_L_law_11 (i := 14) rfl
theorem d_L_law_764 : decode b_L_law 764 = .ok (.iadd, 1) := dq_at q_L_law_11 (i := 15) rfl
theorem d_L_law_765 : decode b_L_law 765 = .ok (.iaload, 1) := dq_at q_L_law_11 (i := 16) rfl
theorem d_L_law_766 : decode b_L_law 766 = .ok (.aload_n 3, 1) := dq_at q_L_law_11 (i := 17) rfl
theorem d_L_law_767 : decode b_L_law 767 = .ok (.invokestatic 148, 3) := dq_at q_L_law_11 (i := 18) rfl
theorem d_L_law_770 : decode b_L_law 770 = .ok (.istore 5, 2) := dq_at q_L_law_11 (i := 19) rfl
theorem d_L_law_772 : decode b_L_law 772 = .ok (.aload_n 2, 1) := dq_at q_L_law_11 (i := 20) rfl
theorem d_L_law_773 : decode b_L_law 773 = .ok (.aload_n 0, 1) := dq_at q_L_law_11 (i := 21) rfl
theorem d_L_law_774 : decode b_L_law 774 = .ok (.iload 4, 2) := dq_at q_L_law_11 (i := 22) rfl
theorem d_L_law_776 : decode b_L_law 776 = .ok (.iconst 1, 1) := dq_at q_L_law_11 (i := 23) rfl
theorem d_L_law_777 : decode b_L_law 777 = .ok (.iadd, 1) := dq_at q_L_law_11 (i := 24) rfl
theorem d_L_law_778 : decode b_L_law 778 = .ok (.iaload, 1) := dq_at q_L_law_11 (i := 25) rfl
theorem d_L_law_779 : decode b_L_law 779 = .ok (.aload_n 0, 1) := dq_at q_L_law_11 (i := 26) rfl
theorem d_L_law_780 : decode b_L_law 780 = .ok (.iload 4, 2) := dq_at q_L_law_11 (i := 27) rfl
theorem d_L_law_782 : decode b_L_law 782 = .ok (.iconst 2, 1) := dq_at q_L_law_11 (i := 28) rfl
theorem d_L_law_783 : decode b_L_law 783 = .ok (.iadd, 1) := dq_at q_L_law_11 (i := 29) rfl
theorem d_L_law_784 : decode b_L_law 784 = .ok (.iaload, 1) := dq_at q_L_law_11 (i := 30) rfl
theorem d_L_law_785 : decode b_L_law 785 = .ok (.invokevirtual 150, 3) := dq_at q_L_law_11 (i := 31) rfl
theorem d_L_law_788 : decode b_L_law 788 = .ok (.istore 6, 2) := dq_at q_L_law_11 (i := 32) rfl
theorem d_L_law_790 : decode b_L_law 790 = .ok (.goto 231, 3) := dq_at q_L_law_11 (i := 33) rfl
theorem d_L_law_793 : decode b_L_law 793 = .ok (.aload_n 1, 1) := dq_at q_L_law_11 (i := 34) rfl
theorem d_L_law_794 : decode b_L_law 794 = .ok (.aload_n 0, 1) := dq_at q_L_law_11 (i := 35) rfl
theorem d_L_law_795 : decode b_L_law 795 = .ok (.iload 4, 2) := dq_at q_L_law_11 (i := 36) rfl
theorem d_L_law_797 : decode b_L_law 797 = .ok (.iconst 1, 1) := dq_at q_L_law_11 (i := 37) rfl
theorem d_L_law_798 : decode b_L_law 798 = .ok (.iadd, 1) := dq_at q_L_law_11 (i := 38) rfl
theorem d_L_law_799 : decode b_L_law 799 = .ok (.iaload, 1) := dq_at q_L_law_11 (i := 39) rfl
def r_L_law_12 : List (Nat × Instr × Nat) := [(800, .aload_n 3, 1), (801, .invokestatic 151, 3), (804, .istore 5, 2), (806, .aload_n 2, 1), (807, .aload_n 0, 1), (808, .iload 4, 2), (810, .iconst 1, 1), (811, .iadd, 1), (812, .iaload, 1), (813, .invokevirtual 153, 3), (816, .istore 6, 2), (818, .goto 203, 3), (821, .aload_n 1, 1), (822, .aload_n 0, 1), (823, .iload 4, 2), (825, .iconst 1, 1), (826, .iadd, 1), (827, .iaload, 1), (828, .aload_n 0, 1), (829, .iload 4, 2), (831, .iconst 2, 1), (832, .iadd, 1), (833, .iaload, 1), (834, .aload_n 3, 1), (835, .invokestatic 154, 3), (838, .istore 5, 2), (840, .aload_n 2, 1), (841, .aload_n 0, 1), (842, .iload 4, 2), (844, .iconst 1, 1), (845, .iadd, 1), (846, .iaload, 1), (847, .aload_n 0, 1), (848, .iload 4, 2), (850, .iconst 2, 1), (851, .iadd, 1), (852, .iaload, 1), (853, .invokevirtual 156, 3), (856, .istore 6, 2), (858, .goto 163, 3)]
theorem q_L_law_12 : dq_all b_L_law r_L_law_12 = true := by decide +kernel
theorem d_L_law_800 : decode b_L_law 800 = .ok (.aload_n 3, 1) := dq_at q_L_law_12 (i := 0) rfl
theorem d_L_law_801 : decode b_L_law 801 = .ok (.invokestatic 151, 3) := dq_at q_L_law_12 (i := 1) rfl
theorem d_L_law_804 : decode b_L_law 804 = .ok (.istore 5, 2) := dq_at q_L_law_12 (i := 2) rfl
theorem d_L_law_806 : decode b_L_law 806 = .ok (.aload_n 2, 1) := dq_at q_L_law_12 (i := 3) rfl
theorem d_L_law_807 : decode b_L_law 807 = .ok (.aload_n 0, 1) := dq_at q_L_law_12 (i := 4) rfl
theorem d_L_law_808 : decode b_L_law 808 = .ok (.iload 4, 2) := dq_at q_L_law_12 (i := 5) rfl
theorem d_L_law_810 : decode b_L_law 810 = .ok (.iconst 1, 1) := dq_at q_L_law_12 (i := 6) rfl
theorem d_L_law_811 : decode b_L_law 811 = .ok (.iadd, 1) := dq_at q_L_law_12 (i := 7) rfl
theorem d_L_law_812 : decode b_L_law 812 = .ok (.iaload, 1) := dq_at q_L_law_12 (i := 8) rfl
theorem d_L_law_813 : decode b_L_law 813 = .ok (.invokevirtual 153, 3) := dq_at q_L_law_12 (i := 9) rfl
theorem d_L_law_816 : decode b_L_law 816 = .ok (.istore 6, 2) := dq_at q_L_law_12 (i := 10) rfl
theorem d_L_law_818 : decode b_L_law 818 = .ok (.goto 203, 3) := dq_at q_L_law_12 (i := 11) rfl
theorem d_L_law_821 : decode b_L_law 821 = .ok (.aload_n 1, 1) := dq_at q_L_law_12 (i := 12) rfl
theorem d_L_law_822 : decode b_L_law 822 = .ok (.aload_n 0, 1) := dq_at q_L_law_12 (i := 13) rfl
theorem d_L_law_823 : decode b_L_law 823 = .ok (.iload 4, 2) := dq_at q_L_law_12 (i := 14) rfl
theorem d_L_law_825 : decode b_L_law 825 = .ok (.iconst 1, 1) := dq_at q_L_law_12 (i := 15) rfl
theorem d_L_law_826 : decode b_L_law 826 = .ok (.iadd, 1) := dq_at q_L_law_12 (i := 16) rfl
theorem d_L_law_827 : decode b_L_law 827 = .ok (.iaload, 1) := dq_at q_L_law_12 (i := 17) rfl
theorem d_L_law_828 : decode b_L_law 828 = .ok (.aload_n 0, 1) := dq_at q_L_law_12 (i := 18) rfl
theorem d_L_law_829 : decode b_L_law 829 = .ok (.iload 4, 2) := dq_at q_L_law_12 (i := 19) rfl
theorem d_L_law_831 : decode b_L_law 831 = .ok (.iconst 2, 1) := dq_at q_L_law_12 (i := 20) rfl
theorem d_L_law_832 : decode b_L_law 832 = .ok (.iadd, 1) := dq_at q_L_law_12 (i := 21) rfl
theorem d_L_law_833 : decode b_L_law 833 = .ok (.iaload, 1) := dq_at q_L_law_12 (i := 22) rfl
theorem d_L_law_834 : decode b_L_law 834 = .ok (.aload_n 3, 1) := dq_at q_L_law_12 (i := 23) rfl
theorem d_L_law_835 : decode b_L_law 835 = .ok (.invokestatic 154, 3) := dq_at q_L_law_12 (i := 24) rfl
theorem d_L_law_838 : decode b_L_law 838 = .ok (.istore 5, 2) := dq_at q_L_law_12 (i := 25) rfl
theorem d_L_law_840 : decode b_L_law 840 = .ok (.aload_n 2, 1) := dq_at q_L_law_12 (i := 26) rfl
theorem d_L_law_841 : decode b_L_law 841 = .ok (.aload_n 0, 1) := dq_at q_L_law_12 (i := 27) rfl
theorem d_L_law_842 : decode b_L_law 842 = .ok (.iload 4, 2) := dq_at q_L_law_12 (i := 28) rfl
theorem d_L_law_844 : decode b_L_law 844 = .ok (.iconst 1, 1) := dq_at q_L_law_12 (i := 29) rfl
theorem d_L_law_845 : decode b_L_law 845 = .ok (.iadd, 1) := dq_at q_L_law_12 (i := 30) rfl
theorem d_L_law_846 : decode b_L_law 846 = .ok (.iaload, 1) := dq_at q_L_law_12 (i := 31) rfl
theorem d_L_law_847 : decode b_L_law 847 = .ok (.aload_n 0, 1) := dq_at q_L_law_12 (i := 32) rfl
theorem d_L_law_848 : decode b_L_law 848 = .ok (.iload 4, 2) := dq_at q_L_law_12 (i := 33) rfl
theorem d_L_law_850 : decode b_L_law 850 = .ok (.iconst 2, 1) := dq_at q_L_law_12 (i := 34) rfl
theorem d_L_law_851 : decode b_L_law 851 = .ok (.iadd, 1) := dq_at q_L_law_12 (i := 35) rfl
theorem d_L_law_852 : decode b_L_law 852 = .ok (.iaload, 1) := dq_at q_L_law_12 (i := 36) rfl
theorem d_L_law_853 : decode b_L_law 853 = .ok (.invokevirtual 156, 3) := dq_at q_L_law_12 (i := 37) rfl
theorem d_L_law_856 : decode b_L_law 856 = .ok (.istore 6, 2) := dq_at q_L_law_12 (i := 38) rfl
theorem d_L_law_858 : decode b_L_law 858 = .ok (.goto 163, 3) := dq_at q_L_law_12 (i := 39) rfl
def r_L_law_13 : List (Nat × Instr × Nat) := [(861, .aload_n 1, 1), (862, .aload_n 0, 1), (863, .iload 4, 2), (865, .iconst 1, 1), (866, .iadd, 1), (867, .iaload, 1), (868, .aload_n 0, 1), (869, .iload 4, 2), (871, .iconst 2, 1), (872, .iadd, 1), (873, .iaload, 1), (874, .aload_n 0, 1), (875, .iload 4, 2), (877, .iconst 3, 1), (878, .iadd, 1), (879, .iaload, 1), (880, .aload_n 3, 1), (881, .invokestatic 157, 3), (884, .istore 5, 2), (886, .aload_n 2, 1), (887, .aload_n 0, 1), (888, .iload 4, 2), (890, .iconst 1, 1), (891, .iadd, 1), (892, .iaload, 1), (893, .aload_n 0, 1), (894, .iload 4, 2), (896, .iconst 2, 1), (897, .iadd, 1), (898, .iaload, 1), (899, .aload_n 0, 1), (900, .iload 4, 2), (902, .iconst 3, 1), (903, .iadd, 1), (904, .iaload, 1), (905, .invokevirtual 159, 3), (908, .istore 6, 2), (910, .goto 111, 3), (913, .aload_n 1, 1), (914, .aload_n 0, 1)]
theorem q_L_law_13 : dq_all b_L_law r_L_law_13 = true := by decide +kernel
theorem d_L_law_861 : decode b_L_law 861 = .ok (.aload_n 1, 1) := dq_at q_L_law_13 (i := 0) rfl
theorem d_L_law_862 : decode b_L_law 862 = .ok (.aload_n 0, 1) := dq_at q_L_law_13 (i := 1) rfl
theorem d_L_law_863 : decode b_L_law 863 = .ok (.iload 4, 2) := dq_at q_L_law_13 (i := 2) rfl
theorem d_L_law_865 : decode b_L_law 865 = .ok (.iconst 1, 1) := dq_at q_L_law_13 (i := 3) rfl
theorem d_L_law_866 : decode b_L_law 866 = .ok (.iadd, 1) := dq_at q_L_law_13 (i := 4) rfl
theorem d_L_law_867 : decode b_L_law 867 = .ok (.iaload, 1) := dq_at q_L_law_13 (i := 5) rfl
theorem d_L_law_868 : decode b_L_law 868 = .ok (.aload_n 0, 1) := dq_at q_L_law_13 (i := 6) rfl
theorem d_L_law_869 : decode b_L_law 869 = .ok (.iload 4, 2) := dq_at q_L_law_13 (i := 7) rfl
theorem d_L_law_871 : decode b_L_law 871 = .ok (.iconst 2, 1) := dq_at q_L_law_13 (i := 8) rfl
theorem d_L_law_872 : decode b_L_law 872 = .ok (.iadd, 1) := dq_at q_L_law_13 (i := 9) rfl
theorem d_L_law_873 : decode b_L_law 873 = .ok (.iaload, 1) := dq_at q_L_law_13 (i := 10) rfl
theorem d_L_law_874 : decode b_L_law 874 = .ok (.aload_n 0, 1) := dq_at q_L_law_13 (i := 11) rfl
theorem d_L_law_875 : decode b_L_law 875 = .ok (.iload 4, 2) := dq_at q_L_law_13 (i := 12) rfl
theorem d_L_law_877 : decode b_L_law 877 = .ok (.iconst 3, 1) := dq_at q_L_law_13 (i := 13) rfl
theorem d_L_law_878 : decode b_L_law 878 = .ok (.iadd, 1) := dq_at q_L_law_13 (i := 14) rfl
theorem d_L_law_879 : decode b_L_law 879 = .ok (.iaload, 1) := dq_at q_L_law_13 (i := 15) rfl
theorem d_L_law_880 : decode b_L_law 880 = .ok (.aload_n 3, 1) := dq_at q_L_law_13 (i := 16) rfl
theorem d_L_law_881 : decode b_L_law 881 = .ok (.invokestatic 157, 3) := dq_at q_L_law_13 (i := 17) rfl
theorem d_L_law_884 : decode b_L_law 884 = .ok (.istore 5, 2) := dq_at q_L_law_13 (i := 18) rfl
theorem d_L_law_886 : decode b_L_law 886 = .ok (.aload_n 2, 1) := dq_at q_L_law_13 (i := 19) rfl
theorem d_L_law_887 : decode b_L_law 887 = .ok (.aload_n 0, 1) := dq_at q_L_law_13 (i := 20) rfl
theorem d_L_law_888 : decode b_L_law 888 = .ok (.iload 4, 2) := dq_at q_L_law_13 (i := 21) rfl
theorem d_L_law_890 : decode b_L_law 890 = .ok (.iconst 1, 1) := dq_at q_L_law_13 (i := 22) rfl
theorem d_L_law_891 : decode b_L_law 891 = .ok (.iadd, 1) := dq_at q_L_law_13 (i := 23) rfl
theorem d_L_law_892 : decode b_L_law 892 = .ok (.iaload, 1) := dq_at q_L_law_13 (i := 24) rfl
theorem d_L_law_893 : decode b_L_law 893 = .ok (.aload_n 0, 1) := dq_at q_L_law_13 (i := 25) rfl
theorem d_L_law_894 : decode b_L_law 894 = .ok (.iload 4, 2) := dq_at q_L_law_13 (i := 26) rfl
theorem d_L_law_896 : decode b_L_law 896 = .ok (.iconst 2, 1) := dq_at q_L_law_13 (i := 27) rfl
theorem d_L_law_897 : decode b_L_law 897 = .ok (.iadd, 1) := dq_at q_L_law_13 (i := 28) rfl
theorem d_L_law_898 : decode b_L_law 898 = .ok (.iaload, 1) := dq_at q_L_law_13 (i := 29) rfl
theorem d_L_law_899 : decode b_L_law 899 = .ok (.aload_n 0, 1) := dq_at q_L_law_13 (i := 30) rfl
theorem d_L_law_900 : decode b_L_law 900 = .ok (.iload 4, 2) := dq_at q_L_law_13 (i := 31) rfl
theorem d_L_law_902 : decode b_L_law 902 = .ok (.iconst 3, 1) := dq_at q_L_law_13 (i := 32) rfl
theorem d_L_law_903 : decode b_L_law 903 = .ok (.iadd, 1) := dq_at q_L_law_13 (i := 33) rfl
theorem d_L_law_904 : decode b_L_law 904 = .ok (.iaload, 1) := dq_at q_L_law_13 (i := 34) rfl
theorem d_L_law_905 : decode b_L_law 905 = .ok (.invokevirtual 159, 3) := dq_at q_L_law_13 (i := 35) rfl
theorem d_L_law_908 : decode b_L_law 908 = .ok (.istore 6, 2) := dq_at q_L_law_13 (i := 36) rfl
theorem d_L_law_910 : decode b_L_law 910 = .ok (.goto 111, 3) := dq_at q_L_law_13 (i := 37) rfl
theorem d_L_law_913 : decode b_L_law 913 = .ok (.aload_n 1, 1) := dq_at q_L_law_13 (i := 38) rfl
theorem d_L_law_914 : decode b_L_law 914 = .ok (.aload_n 0, 1) := dq_at q_L_law_13 (i := 39) rfl
def r_L_law_14 : List (Nat × Instr × Nat) := [(915, .iload 4, 2), (917, .iconst 1, 1), (918, .iadd, 1), (919, .iaload, 1), (920, .aload_n 0, 1), (921, .iload 4, 2), (923, .iconst 2, 1), (924, .iadd, 1), (925, .iaload, 1), (926, .aload_n 3, 1), (927, .invokestatic 160, 3), (930, .istore 5, 2), (932, .aload_n 2, 1), (933, .aload_n 0, 1), (934, .iload 4, 2), (936, .iconst 1, 1), (937, .iadd, 1), (938, .iaload, 1), (939, .aload_n 0, 1), (940, .iload 4, 2), (942, .iconst 2, 1), (943, .iadd, 1), (944, .iaload, 1), (945, .invokevirtual 162, 3), (948, .istore 6, 2), (950, .goto 71, 3), (953, .aload_n 1, 1), (954, .aload_n 0, 1), (955, .iload 4, 2), (957, .iconst 1, 1), (958, .iadd, 1), (959, .iaload, 1), (960, .aload_n 0, 1), (961, .iload 4, 2), (963, .iconst 2, 1), (964, .iadd, 1), (965, .iaload, 1), (966, .aload_n 3, 1), (967, .invokestatic 163, 3), (970, .istore 5, 2)]
theorem q_L_law_14 : dq_all b_L_law r_L_law_14 = true := by decide +kernel
theorem d_L_law_915 : decode b_L_law 915 = .ok (.iload 4, 2) := dq_at q_L_law_14 (i := 0) rfl
theorem d_L_law_917 : decode b_L_law 917 = .ok (.iconst 1, 1) := dq_at q_L_law_14 (i := 1) rfl
theorem d_L_law_918 : decode b_L_law 918 = .ok (.iadd, 1) := dq_at q_L_law_14 (i := 2) rfl
theorem d_L_law_919 : decode b_L_law 919 = .ok (.iaload, 1) := dq_at q_L_law_14 (i := 3) rfl
theorem d_L_law_920 : decode b_L_law 920 = .ok (.aload_n 0, 1) := dq_at q_L_law_14 (i := 4) rfl
theorem d_L_law_921 : decode b_L_law 921 = .ok (.iload 4, 2) := dq_at q_L_law_14 (i := 5) rfl
theorem d_L_law_923 : decode b_L_law 923 = .ok (.iconst 2, 1) := dq_at q_L_law_14 (i := 6) rfl
theorem d_L_law_924 : decode b_L_law 924 = .ok (.iadd, 1) := dq_at q_L_law_14 (i := 7) rfl
theorem d_L_law_925 : decode b_L_law 925 = .ok (.iaload, 1) := dq_at q_L_law_14 (i := 8) rfl
theorem d_L_law_926 : decode b_L_law 926 = .ok (.aload_n 3, 1) := dq_at q_L_law_14 (i := 9) rfl
theorem d_L_law_927 : decode b_L_law 927 = .ok (.invokestatic 160, 3) := dq_at q_L_law_14 (i := 10) rfl
theorem d_L_law_930 : decode b_L_law 930 = .ok (.istore 5, 2) := dq_at q_L_law_14 (i := 11) rfl
theorem d_L_law_932 : decode b_L_law 932 = .ok (.aload_n 2, 1) := dq_at q_L_law_14 (i := 12) rfl
theorem d_L_law_933 : decode b_L_law 933 = .ok (.aload_n 0, 1) := dq_at q_L_law_14 (i := 13) rfl
theorem d_L_law_934 : decode b_L_law 934 = .ok (.iload 4, 2) := dq_at q_L_law_14 (i := 14) rfl
theorem d_L_law_936 : decode b_L_law 936 = .ok (.iconst 1, 1) := dq_at q_L_law_14 (i := 15) rfl
theorem d_L_law_937 : decode b_L_law 937 = .ok (.iadd, 1) := dq_at q_L_law_14 (i := 16) rfl
theorem d_L_law_938 : decode b_L_law 938 = .ok (.iaload, 1) := dq_at q_L_law_14 (i := 17) rfl
theorem d_L_law_939 : decode b_L_law 939 = .ok (.aload_n 0, 1) := dq_at q_L_law_14 (i := 18) rfl
theorem d_L_law_940 : decode b_L_law 940 = .ok (.iload 4, 2) := dq_at q_L_law_14 (i := 19) rfl
theorem d_L_law_942 : decode b_L_law 942 = .ok (.iconst 2, 1) := dq_at q_L_law_14 (i := 20) rfl
theorem d_L_law_943 : decode b_L_law 943 = .ok (.iadd, 1) := dq_at q_L_law_14 (i := 21) rfl
theorem d_L_law_944 : decode b_L_law 944 = .ok (.iaload, 1) := dq_at q_L_law_14 (i := 22) rfl
theorem d_L_law_945 : decode b_L_law 945 = .ok (.invokevirtual 162, 3) := dq_at q_L_law_14 (i := 23) rfl
theorem d_L_law_948 : decode b_L_law 948 = .ok (.istore 6, 2) := dq_at q_L_law_14 (i := 24) rfl
theorem d_L_law_950 : decode b_L_law 950 = .ok (.goto 71, 3) := dq_at q_L_law_14 (i := 25) rfl
theorem d_L_law_953 : decode b_L_law 953 = .ok (.aload_n 1, 1) := dq_at q_L_law_14 (i := 26) rfl
theorem d_L_law_954 : decode b_L_law 954 = .ok (.aload_n 0, 1) := dq_at q_L_law_14 (i := 27) rfl
theorem d_L_law_955 : decode b_L_law 955 = .ok (.iload 4, 2) := dq_at q_L_law_14 (i := 28) rfl
theorem d_L_law_957 : decode b_L_law 957 = .ok (.iconst 1, 1) := dq_at q_L_law_14 (i := 29) rfl
theorem d_L_law_958 : decode b_L_law 958 = .ok (.iadd, 1) := dq_at q_L_law_14 (i := 30) rfl
theorem d_L_law_959 : decode b_L_law 959 = .ok (.iaload, 1) := dq_at q_L_law_14 (i := 31) rfl
theorem d_L_law_960 : decode b_L_law 960 = .ok (.aload_n 0, 1) := dq_at q_L_law_14 (i := 32) rfl
theorem d_L_law_961 : decode b_L_law 961 = .ok (.iload 4, 2) := dq_at q_L_law_14 (i := 33) rfl
theorem d_L_law_963 : decode b_L_law 963 = .ok (.iconst 2, 1) := dq_at q_L_law_14 (i := 34) rfl
theorem d_L_law_964 : decode b_L_law 964 = .ok (.iadd, 1) := dq_at q_L_law_14 (i := 35) rfl
theorem d_L_law_965 : decode b_L_law 965 = .ok (.iaload, 1) := dq_at q_L_law_14 (i := 36) rfl
theorem d_L_law_966 : decode b_L_law 966 = .ok (.aload_n 3, 1) := dq_at q_L_law_14 (i := 37) rfl
theorem d_L_law_967 : decode b_L_law 967 = .ok (.invokestatic 163, 3) := dq_at q_L_law_14 (i := 38) rfl
theorem d_L_law_970 : decode b_L_law 970 = .ok (.istore 5, 2) := dq_at q_L_law_14 (i := 39) rfl
def r_L_law_15 : List (Nat × Instr × Nat) := [(972, .aload_n 2, 1), (973, .aload_n 0, 1), (974, .iload 4, 2), (976, .iconst 1, 1), (977, .iadd, 1), (978, .iaload, 1), (979, .aload_n 0, 1), (980, .iload 4, 2), (982, .iconst 2, 1), (983, .iadd, 1), (984, .iaload, 1), (985, .invokevirtual 165, 3), (988, .istore 6, 2), (990, .goto 31, 3), (993, .aload_n 1, 1), (994, .aload_n 0, 1), (995, .iload 4, 2), (997, .iconst 1, 1), (998, .iadd, 1), (999, .iaload, 1), (1000, .aload_n 3, 1), (1001, .invokestatic 166, 3), (1004, .istore 5, 2), (1006, .aload_n 2, 1), (1007, .aload_n 0, 1), (1008, .iload 4, 2), (1010, .iconst 1, 1), (1011, .iadd, 1), (1012, .iaload, 1), (1013, .invokevirtual 168, 3), (1016, .istore 6, 2), (1018, .goto 3, 3), (1021, .iinc 4 4, 3), (1024, .goto (-1001), 3), (1027, .iconst 1, 1), (1028, .ireturn, 1)]
theorem q_L_law_15 : dq_all b_L_law r_L_law_15 = true := by decide +kernel
theorem d_L_law_972 : decode b_L_law 972 = .ok (.aload_n 2, 1) := dq_at q_L_law_15 (i := 0) rfl
theorem d_L_law_973 : decode b_L_law 973 = .ok (.aload_n 0, 1) := dq_at q_L_law_15 (i := 1) rfl
theorem d_L_law_974 : decode b_L_law 974 = .ok (.iload 4, 2) := dq_at q_L_law_15 (i := 2) rfl
theorem d_L_law_976 : decode b_L_law 976 = .ok (.iconst 1, 1) := dq_at q_L_law_15 (i := 3) rfl
theorem d_L_law_977 : decode b_L_law 977 = .ok (.iadd, 1) := dq_at q_L_law_15 (i := 4) rfl
theorem d_L_law_978 : decode b_L_law 978 = .ok (.iaload, 1) := dq_at q_L_law_15 (i := 5) rfl
theorem d_L_law_979 : decode b_L_law 979 = .ok (.aload_n 0, 1) := dq_at q_L_law_15 (i := 6) rfl
theorem d_L_law_980 : decode b_L_law 980 = .ok (.iload 4, 2) := dq_at q_L_law_15 (i := 7) rfl
theorem d_L_law_982 : decode b_L_law 982 = .ok (.iconst 2, 1) := dq_at q_L_law_15 (i := 8) rfl
theorem d_L_law_983 : decode b_L_law 983 = .ok (.iadd, 1) := dq_at q_L_law_15 (i := 9) rfl
theorem d_L_law_984 : decode b_L_law 984 = .ok (.iaload, 1) := dq_at q_L_law_15 (i := 10) rfl
theorem d_L_law_985 : decode b_L_law 985 = .ok (.invokevirtual 165, 3) := dq_at q_L_law_15 (i := 11) rfl
theorem d_L_law_988 : decode b_L_law 988 = .ok (.istore 6, 2) := dq_at q_L_law_15 (i := 12) rfl
theorem d_L_law_990 : decode b_L_law 990 = .ok (.goto 31, 3) := dq_at q_L_law_15 (i := 13) rfl
theorem d_L_law_993 : decode b_L_law 993 = .ok (.aload_n 1, 1) := dq_at q_L_law_15 (i := 14) rfl
theorem d_L_law_994 : decode b_L_law 994 = .ok (.aload_n 0, 1) := dq_at q_L_law_15 (i := 15) rfl
theorem d_L_law_995 : decode b_L_law 995 = .ok (.iload 4, 2) := dq_at q_L_law_15 (i := 16) rfl
theorem d_L_law_997 : decode b_L_law 997 = .ok (.iconst 1, 1) := dq_at q_L_law_15 (i := 17) rfl
theorem d_L_law_998 : decode b_L_law 998 = .ok (.iadd, 1) := dq_at q_L_law_15 (i := 18) rfl
theorem d_L_law_999 : decode b_L_law 999 = .ok (.iaload, 1) := dq_at q_L_law_15 (i := 19) rfl
theorem d_L_law_1000 : decode b_L_law 1000 = .ok (.aload_n 3, 1) := dq_at q_L_law_15 (i := 20) rfl
theorem d_L_law_1001 : decode b_L_law 1001 = .ok (.invokestatic 166, 3) := dq_at q_L_law_15 (i := 21) rfl
theorem d_L_law_1004 : decode b_L_law 1004 = .ok (.istore 5, 2) := dq_at q_L_law_15 (i := 22) rfl
theorem d_L_law_1006 : decode b_L_law 1006 = .ok (.aload_n 2, 1) := dq_at q_L_law_15 (i := 23) rfl
theorem d_L_law_1007 : decode b_L_law 1007 = .ok (.aload_n 0, 1) := dq_at q_L_law_15 (i := 24) rfl
theorem d_L_law_1008 : decode b_L_law 1008 = .ok (.iload 4, 2) := dq_at q_L_law_15 (i := 25) rfl
theorem d_L_law_1010 : decode b_L_law 1010 = .ok (.iconst 1, 1) := dq_at q_L_law_15 (i := 26) rfl
theorem d_L_law_1011 : decode b_L_law 1011 = .ok (.iadd, 1) := dq_at q_L_law_15 (i := 27) rfl
theorem d_L_law_1012 : decode b_L_law 1012 = .ok (.iaload, 1) := dq_at q_L_law_15 (i := 28) rfl
theorem d_L_law_1013 : decode b_L_law 1013 = .ok (.invokevirtual 168, 3) := dq_at q_L_law_15 (i := 29) rfl
theorem d_L_law_1016 : decode b_L_law 1016 = .ok (.istore 6, 2) := dq_at q_L_law_15 (i := 30) rfl
theorem d_L_law_1018 : decode b_L_law 1018 = .ok (.goto 3, 3) := dq_at q_L_law_15 (i := 31) rfl
theorem d_L_law_1021 : decode b_L_law 1021 = .ok (.iinc 4 4, 3) := dq_at q_L_law_15 (i := 32) rfl
theorem d_L_law_1024 : decode b_L_law 1024 = .ok (.goto (-1001), 3) := dq_at q_L_law_15 (i := 33) rfl
theorem d_L_law_1027 : decode b_L_law 1027 = .ok (.iconst 1, 1) := dq_at q_L_law_15 (i := 34) rfl
theorem d_L_law_1028 : decode b_L_law 1028 = .ok (.ireturn, 1) := dq_at q_L_law_15 (i := 35) rfl
