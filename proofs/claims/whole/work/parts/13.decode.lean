abbrev nL_M_init_0 : List (Nat × Instr × Nat) := [(0, .aload_n 0, 1), (1, .invokespecial 1, 3), (4, .aload_n 0, 1), (5, .sipush 300, 3), (8, .newarray .int, 2), (10, .putfield 7, 3), (13, .aload_n 0, 1), (14, .iconst (-1), 1), (15, .putfield 13, 3), (18, .aload_n 0, 1), (19, .sipush 410, 3), (22, .newarray .boolean, 2), (24, .putfield 17, 3), (27, .aload_n 0, 1), (28, .sipush 410, 3), (31, .newarray .int, 2), (33, .putfield 21, 3), (36, .aload_n 0, 1), (37, .sipush 410, 3), (40, .newarray .int, 2), (42, .putfield 24, 3), (45, .aload_n 0, 1), (46, .sipush 410, 3), (49, .newarray .int, 2), (51, .putfield 27, 3), (54, .aload_n 0, 1), (55, .sipush 410, 3), (58, .newarray .int, 2), (60, .putfield 30, 3), (63, .aload_n 0, 1), (64, .sipush 410, 3), (67, .newarray .boolean, 2), (69, .putfield 33, 3), (72, .aload_n 0, 1), (73, .sipush 410, 3), (76, .newarray .int, 2), (78, .putfield 36, 3), (81, .aload_n 0, 1), (82, .sipush 210, 3), (85, .newarray .boolean, 2)]
theorem nD_M_init_0 : ∀ q ∈ nL_M_init_0, decode prog_6_method_1_code q.1 = .ok (q.2.1, q.2.2) := by decide +kernel
theorem d_M_init_0 : decode prog_6_method_1_code 0 = .ok (.aload_n 0, 1) := dr_dd nD_M_init_0 0 rfl
theorem d_M_init_1 : decode prog_6_method_1_code 1 = .ok (.invokespecial 1, 3) := dr_dd nD_M_init_0 1 rfl
theorem d_M_init_4 : decode prog_6_method_1_code 4 = .ok (.aload_n 0, 1) := dr_dd nD_M_init_0 2 rfl
theorem d_M_init_5 : decode prog_6_method_1_code 5 = .ok (.sipush 300, 3) := dr_dd nD_M_init_0 3 rfl
theorem d_M_init_8 : decode prog_6_method_1_code 8 = .ok (.newarray .int, 2) := dr_dd nD_M_init_0 4 rfl
theorem d_M_init_10 : decode prog_6_method_1_code 10 = .ok (.putfield 7, 3) := dr_dd nD_M_init_0 5 rfl
theorem d_M_init_13 : decode prog_6_method_1_code 13 = .ok (.aload_n 0, 1) := dr_dd nD_M_init_0 6 rfl
theorem d_M_init_14 : decode prog_6_method_1_code 14 = .ok (.iconst (-1), 1) := dr_dd nD_M_init_0 7 rfl
theorem d_M_init_15 : decode prog_6_method_1_code 15 = .ok (.putfield 13, 3) := dr_dd nD_M_init_0 8 rfl
theorem d_M_init_18 : decode prog_6_method_1_code 18 = .ok (.aload_n 0, 1) := dr_dd nD_M_init_0 9 rfl
theorem d_M_init_19 : decode prog_6_method_1_code 19 = .ok (.sipush 410, 3) := dr_dd nD_M_init_0 10 rfl
theorem d_M_init_22 : decode prog_6_method_1_code 22 = .ok (.newarray .boolean, 2) := dr_dd nD_M_init_0 11 rfl
theorem d_M_init_24 : decode prog_6_method_1_code 24 = .ok (.putfield 17, 3) := dr_dd nD_M_init_0 12 rfl
theorem d_M_init_27 : decode prog_6_method_1_code 27 = .ok (.aload_n 0, 1) := dr_dd nD_M_init_0 13 rfl
theorem d_M_init_28 : decode prog_6_method_1_code 28 = .ok (.sipush 410, 3) := dr_dd nD_M_init_0 14 rfl
theorem d_M_init_31 : decode prog_6_method_1_code 31 = .ok (.newarray .int, 2) := dr_dd nD_M_init_0 15 rfl
theorem d_M_init_33 : decode prog_6_method_1_code 33 = .ok (.putfield 21, 3) := dr_dd nD_M_init_0 16 rfl
theorem d_M_init_36 : decode prog_6_method_1_code 36 = .ok (.aload_n 0, 1) := dr_dd nD_M_init_0 17 rfl
theorem d_M_init_37 : decode prog_6_method_1_code 37 = .ok (.sipush 410, 3) := dr_dd nD_M_init_0 18 rfl
theorem d_M_init_40 : decode prog_6_method_1_code 40 = .ok (.newarray .int, 2) := dr_dd nD_M_init_0 19 rfl
theorem d_M_init_42 : decode prog_6_method_1_code 42 = .ok (.putfield 24, 3) := dr_dd nD_M_init_0 20 rfl
theorem d_M_init_45 : decode prog_6_method_1_code 45 = .ok (.aload_n 0, 1) := dr_dd nD_M_init_0 21 rfl
theorem d_M_init_46 : decode prog_6_method_1_code 46 = .ok (.sipush 410, 3) := dr_dd nD_M_init_0 22 rfl
theorem d_M_init_49 : decode prog_6_method_1_code 49 = .ok (.newarray .int, 2) := dr_dd nD_M_init_0 23 rfl
theorem d_M_init_51 : decode prog_6_method_1_code 51 = .ok (.putfield 27, 3) := dr_dd nD_M_init_0 24 rfl
theorem d_M_init_54 : decode prog_6_method_1_code 54 = .ok (.aload_n 0, 1) := dr_dd nD_M_init_0 25 rfl
theorem d_M_init_55 : decode prog_6_method_1_code 55 = .ok (.sipush 410, 3) := dr_dd nD_M_init_0 26 rfl
theorem d_M_init_58 : decode prog_6_method_1_code 58 = .ok (.newarray .int, 2) := dr_dd nD_M_init_0 27 rfl
theorem d_M_init_60 : decode prog_6_method_1_code 60 = .ok (.putfield 30, 3) := dr_dd nD_M_init_0 28 rfl
theorem d_M_init_63 : decode prog_6_method_1_code 63 = .ok (.aload_n 0, 1) := dr_dd nD_M_init_0 29 rfl
theorem d_M_init_64 : decode prog_6_method_1_code 64 = .ok (.sipush 410, 3) := dr_dd nD_M_init_0 30 rfl
theorem d_M_init_67 : decode prog_6_method_1_code 67 = .ok (.newarray .boolean, 2) := dr_dd nD_M_init_0 31 rfl
theorem d_M_init_69 : decode prog_6_method_1_code 69 = .ok (.putfield 33, 3) := dr_dd nD_M_init_0 32 rfl
theorem d_M_init_72 : decode prog_6_method_1_code 72 = .ok (.aload_n 0, 1) := dr_dd nD_M_init_0 33 rfl
theorem d_M_init_73 : decode prog_6_method_1_code 73 = .ok (.sipush 410, 3) := dr_dd nD_M_init_0 34 rfl
theorem d_M_init_76 : decode prog_6_method_1_code 76 = .ok (.newarray .int, 2) := dr_dd nD_M_init_0 35 rfl
theorem d_M_init_78 : decode prog_6_method_1_code 78 = .ok (.putfield 36, 3) := dr_dd nD_M_init_0 36 rfl
theorem d_M_init_81 : decode prog_6_method_1_code 81 = .ok (.aload_n 0, 1) := dr_dd nD_M_init_0 37 rfl
theorem d_M_init_82 : decode prog_6_method_1_code 82 = .ok (.sipush 210, 3) := dr_dd nD_M_init_0 38 rfl
theorem d_M_init_85 : decode prog_6_method_1_code 85 = .ok (.newarray .boolean, 2) := dr_dd nD_M_init_0 39 rfl
abbrev nL_M_init_1 : List (Nat × Instr × Nat) := [(87, .putfield 39, 3), (90, .aload_n 0, 1), (91, .sipush 210, 3), (94, .newarray .int, 2), (96, .putfield 42, 3), (99, .aload_n 0, 1), (100, .sipush 210, 3), (103, .newarray .int, 2), (105, .putfield 45, 3), (108, .aload_n 0, 1), (109, .sipush 210, 3), (112, .newarray .int, 2), (114, .putfield 48, 3), (117, .aload_n 0, 1), (118, .sipush 210, 3), (121, .newarray .int, 2), (123, .putfield 51, 3), (126, .aload_n 0, 1), (127, .bipush 8, 2), (129, .newarray .int, 2), (131, .putfield 54, 3), (134, .aload_n 0, 1), (135, .bipush 8, 2), (137, .newarray .boolean, 2), (139, .putfield 57, 3), (142, .aload_n 0, 1), (143, .sipush 328, 3), (146, .newarray .int, 2), (148, .putfield 60, 3), (151, .aload_n 0, 1), (152, .bipush 8, 2), (154, .newarray .int, 2), (156, .putfield 63, 3), (159, .aload_n 0, 1), (160, .sipush 480, 3), (163, .newarray .int, 2), (165, .putfield 66, 3), (168, .aload_n 0, 1), (169, .sipush 480, 3), (172, .newarray .int, 2)]
theorem nD_M_init_1 : ∀ q ∈ nL_M_init_1, decode prog_6_method_1_code q.1 = .ok (q.2.1, q.2.2) := by decide +kernel
theorem d_M_init_87 : decode prog_6_method_1_code 87 = .ok (.putfield 39, 3) := dr_dd nD_M_init_1 0 rfl
theorem d_M_init_90 : decode prog_6_method_1_code 90 = .ok (.aload_n 0, 1) := dr_dd nD_M_init_1 1 rfl
theorem d_M_init_91 : decode prog_6_method_1_code 91 = .ok (.sipush 210, 3) := dr_dd nD_M_init_1 2 rfl
theorem d_M_init_94 : decode prog_6_method_1_code 94 = .ok (.newarray .int, 2) := dr_dd nD_M_init_1 3 rfl
theorem d_M_init_96 : decode prog_6_method_1_code 96 = .ok (.putfield 42, 3) := dr_dd nD_M_init_1 4 rfl
theorem d_M_init_99 : decode prog_6_method_1_code 99 = .ok (.aload_n 0, 1) := dr_dd nD_M_init_1 5 rfl
theorem d_M_init_100 : decode prog_6_method_1_code 100 = .ok (.sipush 210, 3) := dr_dd nD_M_init_1 6 rfl
theorem d_M_init_103 : decode prog_6_method_1_code 103 = .ok (.newarray .int, 2) := dr_dd nD_M_init_1 7 rfl
theorem d_M_init_105 : decode prog_6_method_1_code 105 = .ok (.putfield 45, 3) := dr_dd nD_M_init_1 8 rfl
theorem d_M_init_108 : decode prog_6_method_1_code 108 = .ok (.aload_n 0, 1) := dr_dd nD_M_init_1 9 rfl
theorem d_M_init_109 : decode prog_6_method_1_code 109 = .ok (.sipush 210, 3) := dr_dd nD_M_init_1 10 rfl
theorem d_M_init_112 : decode prog_6_method_1_code 112 = .ok (.newarray .int, 2) := dr_dd nD_M_init_1 11 rfl
theorem d_M_init_114 : decode prog_6_method_1_code 114 = .ok (.putfield 48, 3) := dr_dd nD_M_init_1 12 rfl
theorem d_M_init_117 : decode prog_6_method_1_code 117 = .ok (.aload_n 0, 1) := dr_dd nD_M_init_1 13 rfl
theorem d_M_init_118 : decode prog_6_method_1_code 118 = .ok (.sipush 210, 3) := dr_dd nD_M_init_1 14 rfl
theorem d_M_init_121 : decode prog_6_method_1_code 121 = .ok (.newarray .int, 2) := dr_dd nD_M_init_1 15 rfl
theorem d_M_init_123 : decode prog_6_method_1_code 123 = .ok (.putfield 51, 3) := dr_dd nD_M_init_1 16 rfl
theorem d_M_init_126 : decode prog_6_method_1_code 126 = .ok (.aload_n 0, 1) := dr_dd nD_M_init_1 17 rfl
theorem d_M_init_127 : decode prog_6_method_1_code 127 = .ok (.bipush 8, 2) := dr_dd nD_M_init_1 18 rfl
theorem d_M_init_129 : decode prog_6_method_1_code 129 = .ok (.newarray .int, 2) := dr_dd nD_M_init_1 19 rfl
theorem d_M_init_131 : decode prog_6_method_1_code 131 = .ok (.putfield 54, 3) := dr_dd nD_M_init_1 20 rfl
theorem d_M_init_134 : decode prog_6_method_1_code 134 = .ok (.aload_n 0, 1) := dr_dd nD_M_init_1 21 rfl
theorem d_M_init_135 : decode prog_6_method_1_code 135 = .ok (.bipush 8, 2) := dr_dd nD_M_init_1 22 rfl
theorem d_M_init_137 : decode prog_6_method_1_code 137 = .ok (.newarray .boolean, 2) := dr_dd nD_M_init_1 23 rfl
theorem d_M_init_139 : decode prog_6_method_1_code 139 = .ok (.putfield 57, 3) := dr_dd nD_M_init_1 24 rfl
theorem d_M_init_142 : decode prog_6_method_1_code 142 = .ok (.aload_n 0, 1) := dr_dd nD_M_init_1 25 rfl
theorem d_M_init_143 : decode prog_6_method_1_code 143 = .ok (.sipush 328, 3) := dr_dd nD_M_init_1 26 rfl
theorem d_M_init_146 : decode prog_6_method_1_code 146 = .ok (.newarray .int, 2) := dr_dd nD_M_init_1 27 rfl
theorem d_M_init_148 : decode prog_6_method_1_code 148 = .ok (.putfield 60, 3) := dr_dd nD_M_init_1 28 rfl
theorem d_M_init_151 : decode prog_6_method_1_code 151 = .ok (.aload_n 0, 1) := dr_dd nD_M_init_1 29 rfl
theorem d_M_init_152 : decode prog_6_method_1_code 152 = .ok (.bipush 8, 2) := dr_dd nD_M_init_1 30 rfl
theorem d_M_init_154 : decode prog_6_method_1_code 154 = .ok (.newarray .int, 2) := dr_dd nD_M_init_1 31 rfl
theorem d_M_init_156 : decode prog_6_method_1_code 156 = .ok (.putfield 63, 3) := dr_dd nD_M_init_1 32 rfl
theorem d_M_init_159 : decode prog_6_method_1_code 159 = .ok (.aload_n 0, 1) := dr_dd nD_M_init_1 33 rfl
theorem d_M_init_160 : decode prog_6_method_1_code 160 = .ok (.sipush 480, 3) := dr_dd nD_M_init_1 34 rfl
theorem d_M_init_163 : decode prog_6_method_1_code 163 = .ok (.newarray .int, 2) := dr_dd nD_M_init_1 35 rfl
theorem d_M_init_165 : decode prog_6_method_1_code 165 = .ok (.putfield 66, 3) := dr_dd nD_M_init_1 36 rfl
theorem d_M_init_168 : decode prog_6_method_1_code 168 = .ok (.aload_n 0, 1) := dr_dd nD_M_init_1 37 rfl
theorem d_M_init_169 : decode prog_6_method_1_code 169 = .ok (.sipush 480, 3) := dr_dd nD_M_init_1 38 rfl
theorem d_M_init_172 : decode prog_6_method_1_code 172 = .ok (.newarray .int, 2) := dr_dd nD_M_init_1 39 rfl
abbrev nL_M_init_2 : List (Nat × Instr × Nat) := [(174, .putfield 69, 3), (177, .aload_n 0, 1), (178, .bipush 20, 2), (180, .newarray .int, 2), (182, .putfield 72, 3), (185, .aload_n 0, 1), (186, .bipush 100, 2), (188, .newarray .int, 2), (190, .putfield 75, 3), (193, .aload_n 0, 1), (194, .bipush 100, 2), (196, .newarray .int, 2), (198, .putfield 78, 3), (201, .aload_n 0, 1), (202, .bipush 100, 2), (204, .newarray .int, 2), (206, .putfield 81, 3), (209, .aload_n 0, 1), (210, .bipush 100, 2), (212, .newarray .boolean, 2), (214, .putfield 84, 3), (217, .iconst 0, 1), (218, .istore_n 1, 1), (219, .iload_n 1, 1), (220, .bipush 20, 2), (222, .if_icmp .ge 16, 3), (225, .aload_n 0, 1), (226, .getfield 72, 3), (229, .iload_n 1, 1), (230, .iconst (-1), 1), (231, .iastore, 1), (232, .iinc 1 1, 3), (235, .goto (-16), 3), (238, .return_, 1)]
theorem nD_M_init_2 : ∀ q ∈ nL_M_init_2, decode prog_6_method_1_code q.1 = .ok (q.2.1, q.2.2) := by decide +kernel
theorem d_M_init_174 : decode prog_6_method_1_code 174 = .ok (.putfield 69, 3) := dr_dd nD_M_init_2 0 rfl
theorem d_M_init_177 : decode prog_6_method_1_code 177 = .ok (.aload_n 0, 1) := dr_dd nD_M_init_2 1 rfl
theorem d_M_init_178 : decode prog_6_method_1_code 178 = .ok (.bipush 20, 2) := dr_dd nD_M_init_2 2 rfl
theorem d_M_init_180 : decode prog_6_method_1_code 180 = .ok (.newarray .int, 2) := dr_dd nD_M_init_2 3 rfl
theorem d_M_init_182 : decode prog_6_method_1_code 182 = .ok (.putfield 72, 3) := dr_dd nD_M_init_2 4 rfl
theorem d_M_init_185 : decode prog_6_method_1_code 185 = .ok (.aload_n 0, 1) := dr_dd nD_M_init_2 5 rfl
theorem d_M_init_186 : decode prog_6_method_1_code 186 = .ok (.bipush 100, 2) := dr_dd nD_M_init_2 6 rfl
theorem d_M_init_188 : decode prog_6_method_1_code 188 = .ok (.newarray .int, 2) := dr_dd nD_M_init_2 7 rfl
theorem d_M_init_190 : decode prog_6_method_1_code 190 = .ok (.putfield 75, 3) := dr_dd nD_M_init_2 8 rfl
theorem d_M_init_193 : decode prog_6_method_1_code 193 = .ok (.aload_n 0, 1) := dr_dd nD_M_init_2 9 rfl
theorem d_M_init_194 : decode prog_6_method_1_code 194 = .ok (.bipush 100, 2) := dr_dd nD_M_init_2 10 rfl
theorem d_M_init_196 : decode prog_6_method_1_code 196 = .ok (.newarray .int, 2) := dr_dd nD_M_init_2 11 rfl
theorem d_M_init_198 : decode prog_6_method_1_code 198 = .ok (.putfield 78, 3) := dr_dd nD_M_init_2 12 rfl
theorem d_M_init_201 : decode prog_6_method_1_code 201 = .ok (.aload_n 0, 1) := dr_dd nD_M_init_2 13 rfl
theorem d_M_init_202 : decode prog_6_method_1_code 202 = .ok (.bipush 100, 2) := dr_dd nD_M_init_2 14 rfl
theorem d_M_init_204 : decode prog_6_method_1_code 204 = .ok (.newarray .int, 2) := dr_dd nD_M_init_2 15 rfl
theorem d_M_init_206 : decode prog_6_method_1_code 206 = .ok (.putfield 81, 3) := dr_dd nD_M_init_2 16 rfl
theorem d_M_init_209 : decode prog_6_method_1_code 209 = .ok (.aload_n 0, 1) := dr_dd nD_M_init_2 17 rfl
theorem d_M_init_210 : decode prog_6_method_1_code 210 = .ok (.bipush 100, 2) := dr_dd nD_M_init_2 18 rfl
theorem d_M_init_212 : decode prog_6_method_1_code 212 = .ok (.newarray .boolean, 2) := dr_dd nD_M_init_2 19 rfl
theorem d_M_init_214 : decode prog_6_method_1_code 214 = .ok (.putfield 84, 3) := dr_dd nD_M_init_2 20 rfl
theorem d_M_init_217 : decode prog_6_method_1_code 217 = .ok (.iconst 0, 1) := dr_dd nD_M_init_2 21 rfl
theorem d_M_init_218 : decode prog_6_method_1_code 218 = .ok (.istore_n 1, 1) := dr_dd nD_M_init_2 22 rfl
theorem d_M_init_219 : decode prog_6_method_1_code 219 = .ok (.iload_n 1, 1) := dr_dd nD_M_init_2 23 rfl
theorem d_M_init_220 : decode prog_6_method_1_code 220 = .ok (.bipush 20, 2) := dr_dd nD_M_init_2 24 rfl
theorem d_M_init_222 : decode prog_6_method_1_code 222 = .ok (.if_icmp .ge 16, 3) := dr_dd nD_M_init_2 25 rfl
theorem d_M_init_225 : decode prog_6_method_1_code 225 = .ok (.aload_n 0, 1) := dr_dd nD_M_init_2 26 rfl
theorem d_M_init_226 : decode prog_6_method_1_code 226 = .ok (.getfield 72, 3) := dr_dd nD_M_init_2 27 rfl
theorem d_M_init_229 : decode prog_6_method_1_code 229 = .ok (.iload_n 1, 1) := dr_dd nD_M_init_2 28 rfl
theorem d_M_init_230 : decode prog_6_method_1_code 230 = .ok (.iconst (-1), 1) := dr_dd nD_M_init_2 29 rfl
theorem d_M_init_231 : decode prog_6_method_1_code 231 = .ok (.iastore, 1) := dr_dd nD_M_init_2 30 rfl
theorem d_M_init_232 : decode prog_6_method_1_code 232 = .ok (.iinc 1 1, 3) := dr_dd nD_M_init_2 31 rfl
theorem d_M_init_235 : decode prog_6_method_1_code 235 = .ok (.goto (-16), 3) := dr_dd nD_M_init_2 32 rfl
theorem d_M_init_238 : decode prog_6_method_1_code 238 = .ok (.return_, 1) := dr_dd nD_M_init_2 33 rfl
abbrev nL_M_thrown_0 : List (Nat × Instr × Nat) := [(0, .aload_n 0, 1), (1, .getfield 87, 3), (4, .ireturn, 1)]
theorem nD_M_thrown_0 : ∀ q ∈ nL_M_thrown_0, decode prog_6_method_2_code q.1 = .ok (q.2.1, q.2.2) := by decide +kernel
theorem d_M_thrown_0 : decode prog_6_method_2_code 0 = .ok (.aload_n 0, 1) := dr_dd nD_M_thrown_0 0 rfl
theorem d_M_thrown_1 : decode prog_6_method_2_code 1 = .ok (.getfield 87, 3) := dr_dd nD_M_thrown_0 1 rfl
theorem d_M_thrown_4 : decode prog_6_method_2_code 4 = .ok (.ireturn, 1) := dr_dd nD_M_thrown_0 2 rfl
abbrev nL_M_in_0 : List (Nat × Instr × Nat) := [(0, .iload_n 0, 1), (1, .iload_n 1, 1), (2, .if_icmp .lt 12, 3), (5, .iload_n 0, 1), (6, .iload_n 2, 1), (7, .if_icmp .gt 7, 3), (10, .iconst 1, 1), (11, .goto 4, 3), (14, .iconst 0, 1), (15, .ireturn, 1)]
theorem nD_M_in_0 : ∀ q ∈ nL_M_in_0, decode prog_6_method_3_code q.1 = .ok (q.2.1, q.2.2) := by decide +kernel
theorem d_M_in_0 : decode prog_6_method_3_code 0 = .ok (.iload_n 0, 1) := dr_dd nD_M_in_0 0 rfl
theorem d_M_in_1 : decode prog_6_method_3_code 1 = .ok (.iload_n 1, 1) := dr_dd nD_M_in_0 1 rfl
theorem d_M_in_2 : decode prog_6_method_3_code 2 = .ok (.if_icmp .lt 12, 3) := dr_dd nD_M_in_0 2 rfl
theorem d_M_in_5 : decode prog_6_method_3_code 5 = .ok (.iload_n 0, 1) := dr_dd nD_M_in_0 3 rfl
theorem d_M_in_6 : decode prog_6_method_3_code 6 = .ok (.iload_n 2, 1) := dr_dd nD_M_in_0 4 rfl
theorem d_M_in_7 : decode prog_6_method_3_code 7 = .ok (.if_icmp .gt 7, 3) := dr_dd nD_M_in_0 5 rfl
theorem d_M_in_10 : decode prog_6_method_3_code 10 = .ok (.iconst 1, 1) := dr_dd nD_M_in_0 6 rfl
theorem d_M_in_11 : decode prog_6_method_3_code 11 = .ok (.goto 4, 3) := dr_dd nD_M_in_0 7 rfl
theorem d_M_in_14 : decode prog_6_method_3_code 14 = .ok (.iconst 0, 1) := dr_dd nD_M_in_0 8 rfl
theorem d_M_in_15 : decode prog_6_method_3_code 15 = .ok (.ireturn, 1) := dr_dd nD_M_in_0 9 rfl
abbrev nL_M_goes_0 : List (Nat × Instr × Nat) := [(0, .aload_n 0, 1), (1, .iload_n 1, 1), (2, .ifCond .ne 7, 3), (5, .iconst 1, 1), (6, .goto 20, 3), (9, .iload_n 2, 1), (10, .ifCond .ne 7, 3), (13, .iconst 2, 1), (14, .goto 12, 3), (17, .iload_n 3, 1), (18, .ifCond .ne 7, 3), (21, .iconst 3, 1), (22, .goto 4, 3), (25, .iconst 0, 1), (26, .putfield 87, 3), (29, .aload_n 0, 1), (30, .getfield 87, 3), (33, .ifCond .ne 7, 3), (36, .iconst 1, 1), (37, .goto 4, 3), (40, .iconst 0, 1), (41, .ireturn, 1)]
theorem nD_M_goes_0 : ∀ q ∈ nL_M_goes_0, decode prog_6_method_4_code q.1 = .ok (q.2.1, q.2.2) := by decide +kernel
theorem d_M_goes_0 : decode prog_6_method_4_code 0 = .ok (.aload_n 0, 1) := dr_dd nD_M_goes_0 0 rfl
theorem d_M_goes_1 : decode prog_6_method_4_code 1 = .ok (.iload_n 1, 1) := dr_dd nD_M_goes_0 1 rfl
theorem d_M_goes_2 : decode prog_6_method_4_code 2 = .ok (.ifCond .ne 7, 3) := dr_dd nD_M_goes_0 2 rfl
theorem d_M_goes_5 : decode prog_6_method_4_code 5 = .ok (.iconst 1, 1) := dr_dd nD_M_goes_0 3 rfl
theorem d_M_goes_6 : decode prog_6_method_4_code 6 = .ok (.goto 20, 3) := dr_dd nD_M_goes_0 4 rfl
theorem d_M_goes_9 : decode prog_6_method_4_code 9 = .ok (.iload_n 2, 1) := dr_dd nD_M_goes_0 5 rfl
theorem d_M_goes_10 : decode prog_6_method_4_code 10 = .ok (.ifCond .ne 7, 3) := dr_dd nD_M_goes_0 6 rfl
theorem d_M_goes_13 : decode prog_6_method_4_code 13 = .ok (.iconst 2, 1) := dr_dd nD_M_goes_0 7 rfl
theorem d_M_goes_14 : decode prog_6_method_4_code 14 = .ok (.goto 12, 3) := dr_dd nD_M_goes_0 8 rfl
theorem d_M_goes_17 : decode prog_6_method_4_code 17 = .ok (.iload_n 3, 1) := dr_dd nD_M_goes_0 9 rfl
theorem d_M_goes_18 : decode prog_6_method_4_code 18 = .ok (.ifCond .ne 7, 3) := dr_dd nD_M_goes_0 10 rfl
theorem d_M_goes_21 : decode prog_6_method_4_code 21 = .ok (.iconst 3, 1) := dr_dd nD_M_goes_0 11 rfl
theorem d_M_goes_22 : decode prog_6_method_4_code 22 = .ok (.goto 4, 3) := dr_dd nD_M_goes_0 12 rfl
theorem d_M_goes_25 : decode prog_6_method_4_code 25 = .ok (.iconst 0, 1) := dr_dd nD_M_goes_0 13 rfl
theorem d_M_goes_26 : decode prog_6_method_4_code 26 = .ok (.putfield 87, 3) := dr_dd nD_M_goes_0 14 rfl
theorem d_M_goes_29 : decode prog_6_method_4_code 29 = .ok (.aload_n 0, 1) := dr_dd nD_M_goes_0 15 rfl
theorem d_M_goes_30 : decode prog_6_method_4_code 30 = .ok (.getfield 87, 3) := dr_dd nD_M_goes_0 16 rfl
theorem d_M_goes_33 : decode prog_6_method_4_code 33 = .ok (.ifCond .ne 7, 3) := dr_dd nD_M_goes_0 17 rfl
theorem d_M_goes_36 : decode prog_6_method_4_code 36 = .ok (.iconst 1, 1) := dr_dd nD_M_goes_0 18 rfl
theorem d_M_goes_37 : decode prog_6_method_4_code 37 = .ok (.goto 4, 3) := dr_dd nD_M_goes_0 19 rfl
theorem d_M_goes_40 : decode prog_6_method_4_code 40 = .ok (.iconst 0, 1) := dr_dd nD_M_goes_0 20 rfl
theorem d_M_goes_41 : decode prog_6_method_4_code 41 = .ok (.ireturn, 1) := dr_dd nD_M_goes_0 21 rfl
abbrev nL_M_sign_0 : List (Nat × Instr × Nat) := [(0, .aload_n 0, 1), (1, .iload_n 3, 1), (2, .iconst 1, 1), (3, .bipush 8, 2), (5, .invokestatic 90, 3), (8, .aload_n 0, 1), (9, .getfield 94, 3), (12, .iload_n 3, 1), (13, .iadd, 1), (14, .sipush 300, 3), (17, .if_icmp .gt 7, 3), (20, .iconst 1, 1), (21, .goto 4, 3), (24, .iconst 0, 1), (25, .iconst 1, 1), (26, .invokevirtual 97, 3), (29, .ifCond .ne 5, 3), (32, .iconst 0, 1), (33, .ireturn, 1), (34, .iload_n 3, 1), (35, .iconst 1, 1), (36, .isub, 1), (37, .istore 4, 2), (39, .iload 4, 2), (41, .ifCond .lt 40, 3), (44, .aload_n 0, 1), (45, .getfield 7, 3), (48, .aload_n 0, 1), (49, .getfield 94, 3), (52, .lload_n 1, 1), (53, .bipush 8, 2), (55, .iload 4, 2), (57, .imul, 1), (58, .lshr, 1), (59, .l2i, 1), (60, .sipush 255, 3), (63, .iand, 1), (64, .iastore, 1), (65, .aload_n 0, 1), (66, .dup, 1)]
theorem nD_M_sign_0 : ∀ q ∈ nL_M_sign_0, decode prog_6_method_5_code q.1 = .ok (q.2.1, q.2.2) := by decide +kernel
theorem d_M_sign_0 : decode prog_6_method_5_code 0 = .ok (.aload_n 0, 1) := dr_dd nD_M_sign_0 0 rfl
theorem d_M_sign_1 : decode prog_6_method_5_code 1 = .ok (.iload_n 3, 1) := dr_dd nD_M_sign_0 1 rfl
theorem d_M_sign_2 : decode prog_6_method_5_code 2 = .ok (.iconst 1, 1) := dr_dd nD_M_sign_0 2 rfl
theorem d_M_sign_3 : decode prog_6_method_5_code 3 = .ok (.bipush 8, 2) := dr_dd nD_M_sign_0 3 rfl
theorem d_M_sign_5 : decode prog_6_method_5_code 5 = .ok (.invokestatic 90, 3) := dr_dd nD_M_sign_0 4 rfl
theorem d_M_sign_8 : decode prog_6_method_5_code 8 = .ok (.aload_n 0, 1) := dr_dd nD_M_sign_0 5 rfl
theorem d_M_sign_9 : decode prog_6_method_5_code 9 = .ok (.getfield 94, 3) := dr_dd nD_M_sign_0 6 rfl
theorem d_M_sign_12 : decode prog_6_method_5_code 12 = .ok (.iload_n 3, 1) := dr_dd nD_M_sign_0 7 rfl
theorem d_M_sign_13 : decode prog_6_method_5_code 13 = .ok (.iadd, 1) := dr_dd nD_M_sign_0 8 rfl
theorem d_M_sign_14 : decode prog_6_method_5_code 14 = .ok (.sipush 300, 3) := dr_dd nD_M_sign_0 9 rfl
theorem d_M_sign_17 : decode prog_6_method_5_code 17 = .ok (.if_icmp .gt 7, 3) := dr_dd nD_M_sign_0 10 rfl
theorem d_M_sign_20 : decode prog_6_method_5_code 20 = .ok (.iconst 1, 1) := dr_dd nD_M_sign_0 11 rfl
theorem d_M_sign_21 : decode prog_6_method_5_code 21 = .ok (.goto 4, 3) := dr_dd nD_M_sign_0 12 rfl
theorem d_M_sign_24 : decode prog_6_method_5_code 24 = .ok (.iconst 0, 1) := dr_dd nD_M_sign_0 13 rfl
theorem d_M_sign_25 : decode prog_6_method_5_code 25 = .ok (.iconst 1, 1) := dr_dd nD_M_sign_0 14 rfl
theorem d_M_sign_26 : decode prog_6_method_5_code 26 = .ok (.invokevirtual 97, 3) := dr_dd nD_M_sign_0 15 rfl
theorem d_M_sign_29 : decode prog_6_method_5_code 29 = .ok (.ifCond .ne 5, 3) := dr_dd nD_M_sign_0 16 rfl
theorem d_M_sign_32 : decode prog_6_method_5_code 32 = .ok (.iconst 0, 1) := dr_dd nD_M_sign_0 17 rfl
theorem d_M_sign_33 : decode prog_6_method_5_code 33 = .ok (.ireturn, 1) := dr_dd nD_M_sign_0 18 rfl
theorem d_M_sign_34 : decode prog_6_method_5_code 34 = .ok (.iload_n 3, 1) := dr_dd nD_M_sign_0 19 rfl
theorem d_M_sign_35 : decode prog_6_method_5_code 35 = .ok (.iconst 1, 1) := dr_dd nD_M_sign_0 20 rfl
theorem d_M_sign_36 : decode prog_6_method_5_code 36 = .ok (.isub, 1) := dr_dd nD_M_sign_0 21 rfl
theorem d_M_sign_37 : decode prog_6_method_5_code 37 = .ok (.istore 4, 2) := dr_dd nD_M_sign_0 22 rfl
theorem d_M_sign_39 : decode prog_6_method_5_code 39 = .ok (.iload 4, 2) := dr_dd nD_M_sign_0 23 rfl
theorem d_M_sign_41 : decode prog_6_method_5_code 41 = .ok (.ifCond .lt 40, 3) := dr_dd nD_M_sign_0 24 rfl
theorem d_M_sign_44 : decode prog_6_method_5_code 44 = .ok (.aload_n 0, 1) := dr_dd nD_M_sign_0 25 rfl
theorem d_M_sign_45 : decode prog_6_method_5_code 45 = .ok (.getfield 7, 3) := dr_dd nD_M_sign_0 26 rfl
theorem d_M_sign_48 : decode prog_6_method_5_code 48 = .ok (.aload_n 0, 1) := dr_dd nD_M_sign_0 27 rfl
theorem d_M_sign_49 : decode prog_6_method_5_code 49 = .ok (.getfield 94, 3) := dr_dd nD_M_sign_0 28 rfl
theorem d_M_sign_52 : decode prog_6_method_5_code 52 = .ok (.lload_n 1, 1) := dr_dd nD_M_sign_0 29 rfl
theorem d_M_sign_53 : decode prog_6_method_5_code 53 = .ok (.bipush 8, 2) := dr_dd nD_M_sign_0 30 rfl
theorem d_M_sign_55 : decode prog_6_method_5_code 55 = .ok (.iload 4, 2) := dr_dd nD_M_sign_0 31 rfl
theorem d_M_sign_57 : decode prog_6_method_5_code 57 = .ok (.imul, 1) := dr_dd nD_M_sign_0 32 rfl
theorem d_M_sign_58 : decode prog_6_method_5_code 58 = .ok (.lshr, 1) := dr_dd nD_M_sign_0 33 rfl
theorem d_M_sign_59 : decode prog_6_method_5_code 59 = .ok (.l2i, 1) := dr_dd nD_M_sign_0 34 rfl
theorem d_M_sign_60 : decode prog_6_method_5_code 60 = .ok (.sipush 255, 3) := dr_dd nD_M_sign_0 35 rfl
theorem d_M_sign_63 : decode prog_6_method_5_code 63 = .ok (.iand, 1) := dr_dd nD_M_sign_0 36 rfl
theorem d_M_sign_64 : decode prog_6_method_5_code 64 = .ok (.iastore, 1) := dr_dd nD_M_sign_0 37 rfl
theorem d_M_sign_65 : decode prog_6_method_5_code 65 = .ok (.aload_n 0, 1) := dr_dd nD_M_sign_0 38 rfl
theorem d_M_sign_66 : decode prog_6_method_5_code 66 = .ok (.dup, 1) := dr_dd nD_M_sign_0 39 rfl
abbrev nL_M_sign_1 : List (Nat × Instr × Nat) := [(67, .getfield 94, 3), (70, .iconst 1, 1), (71, .iadd, 1), (72, .putfield 94, 3), (75, .iinc 4 (-1), 3), (78, .goto (-39), 3), (81, .aload_n 0, 1), (82, .getfield 94, 3), (85, .ireturn, 1)]
theorem nD_M_sign_1 : ∀ q ∈ nL_M_sign_1, decode prog_6_method_5_code q.1 = .ok (q.2.1, q.2.2) := by decide +kernel
theorem d_M_sign_67 : decode prog_6_method_5_code 67 = .ok (.getfield 94, 3) := dr_dd nD_M_sign_1 0 rfl
theorem d_M_sign_70 : decode prog_6_method_5_code 70 = .ok (.iconst 1, 1) := dr_dd nD_M_sign_1 1 rfl
theorem d_M_sign_71 : decode prog_6_method_5_code 71 = .ok (.iadd, 1) := dr_dd nD_M_sign_1 2 rfl
theorem d_M_sign_72 : decode prog_6_method_5_code 72 = .ok (.putfield 94, 3) := dr_dd nD_M_sign_1 3 rfl
theorem d_M_sign_75 : decode prog_6_method_5_code 75 = .ok (.iinc 4 (-1), 3) := dr_dd nD_M_sign_1 4 rfl
theorem d_M_sign_78 : decode prog_6_method_5_code 78 = .ok (.goto (-39), 3) := dr_dd nD_M_sign_1 5 rfl
theorem d_M_sign_81 : decode prog_6_method_5_code 81 = .ok (.aload_n 0, 1) := dr_dd nD_M_sign_1 6 rfl
theorem d_M_sign_82 : decode prog_6_method_5_code 82 = .ok (.getfield 94, 3) := dr_dd nD_M_sign_1 7 rfl
theorem d_M_sign_85 : decode prog_6_method_5_code 85 = .ok (.ireturn, 1) := dr_dd nD_M_sign_1 8 rfl
abbrev nL_M_here_0 : List (Nat × Instr × Nat) := [(0, .aload_n 0, 1), (1, .getfield 101, 3), (4, .aload_n 0, 1), (5, .getfield 94, 3), (8, .if_icmp .ge 15, 3), (11, .aload_n 0, 1), (12, .getfield 7, 3), (15, .aload_n 0, 1), (16, .getfield 101, 3), (19, .iaload, 1), (20, .goto 4, 3), (23, .iconst (-1), 1), (24, .ireturn, 1)]
theorem nD_M_here_0 : ∀ q ∈ nL_M_here_0, decode prog_6_method_6_code q.1 = .ok (q.2.1, q.2.2) := by decide +kernel
theorem d_M_here_0 : decode prog_6_method_6_code 0 = .ok (.aload_n 0, 1) := dr_dd nD_M_here_0 0 rfl
theorem d_M_here_1 : decode prog_6_method_6_code 1 = .ok (.getfield 101, 3) := dr_dd nD_M_here_0 1 rfl
theorem d_M_here_4 : decode prog_6_method_6_code 4 = .ok (.aload_n 0, 1) := dr_dd nD_M_here_0 2 rfl
theorem d_M_here_5 : decode prog_6_method_6_code 5 = .ok (.getfield 94, 3) := dr_dd nD_M_here_0 3 rfl
theorem d_M_here_8 : decode prog_6_method_6_code 8 = .ok (.if_icmp .ge 15, 3) := dr_dd nD_M_here_0 4 rfl
theorem d_M_here_11 : decode prog_6_method_6_code 11 = .ok (.aload_n 0, 1) := dr_dd nD_M_here_0 5 rfl
theorem d_M_here_12 : decode prog_6_method_6_code 12 = .ok (.getfield 7, 3) := dr_dd nD_M_here_0 6 rfl
theorem d_M_here_15 : decode prog_6_method_6_code 15 = .ok (.aload_n 0, 1) := dr_dd nD_M_here_0 7 rfl
theorem d_M_here_16 : decode prog_6_method_6_code 16 = .ok (.getfield 101, 3) := dr_dd nD_M_here_0 8 rfl
theorem d_M_here_19 : decode prog_6_method_6_code 19 = .ok (.iaload, 1) := dr_dd nD_M_here_0 9 rfl
theorem d_M_here_20 : decode prog_6_method_6_code 20 = .ok (.goto 4, 3) := dr_dd nD_M_here_0 10 rfl
theorem d_M_here_23 : decode prog_6_method_6_code 23 = .ok (.iconst (-1), 1) := dr_dd nD_M_here_0 11 rfl
theorem d_M_here_24 : decode prog_6_method_6_code 24 = .ok (.ireturn, 1) := dr_dd nD_M_here_0 12 rfl
abbrev nL_M_see_0 : List (Nat × Instr × Nat) := [(0, .aload_n 0, 1), (1, .invokevirtual 104, 3), (4, .bipush 32, 2), (6, .if_icmp .ne 16, 3), (9, .aload_n 0, 1), (10, .dup, 1), (11, .getfield 101, 3), (14, .iconst 1, 1), (15, .iadd, 1), (16, .putfield 101, 3), (19, .goto (-19), 3), (22, .aload_n 0, 1), (23, .invokevirtual 104, 3), (26, .ireturn, 1)]
theorem nD_M_see_0 : ∀ q ∈ nL_M_see_0, decode prog_6_method_7_code q.1 = .ok (q.2.1, q.2.2) := by decide +kernel
theorem d_M_see_0 : decode prog_6_method_7_code 0 = .ok (.aload_n 0, 1) := dr_dd nD_M_see_0 0 rfl
theorem d_M_see_1 : decode prog_6_method_7_code 1 = .ok (.invokevirtual 104, 3) := dr_dd nD_M_see_0 1 rfl
theorem d_M_see_4 : decode prog_6_method_7_code 4 = .ok (.bipush 32, 2) := dr_dd nD_M_see_0 2 rfl
theorem d_M_see_6 : decode prog_6_method_7_code 6 = .ok (.if_icmp .ne 16, 3) := dr_dd nD_M_see_0 3 rfl
theorem d_M_see_9 : decode prog_6_method_7_code 9 = .ok (.aload_n 0, 1) := dr_dd nD_M_see_0 4 rfl
theorem d_M_see_10 : decode prog_6_method_7_code 10 = .ok (.dup, 1) := dr_dd nD_M_see_0 5 rfl
theorem d_M_see_11 : decode prog_6_method_7_code 11 = .ok (.getfield 101, 3) := dr_dd nD_M_see_0 6 rfl
theorem d_M_see_14 : decode prog_6_method_7_code 14 = .ok (.iconst 1, 1) := dr_dd nD_M_see_0 7 rfl
theorem d_M_see_15 : decode prog_6_method_7_code 15 = .ok (.iadd, 1) := dr_dd nD_M_see_0 8 rfl
theorem d_M_see_16 : decode prog_6_method_7_code 16 = .ok (.putfield 101, 3) := dr_dd nD_M_see_0 9 rfl
theorem d_M_see_19 : decode prog_6_method_7_code 19 = .ok (.goto (-19), 3) := dr_dd nD_M_see_0 10 rfl
theorem d_M_see_22 : decode prog_6_method_7_code 22 = .ok (.aload_n 0, 1) := dr_dd nD_M_see_0 11 rfl
theorem d_M_see_23 : decode prog_6_method_7_code 23 = .ok (.invokevirtual 104, 3) := dr_dd nD_M_see_0 12 rfl
theorem d_M_see_26 : decode prog_6_method_7_code 26 = .ok (.ireturn, 1) := dr_dd nD_M_see_0 13 rfl
abbrev nL_M_fail_0 : List (Nat × Instr × Nat) := [(0, .aload_n 0, 1), (1, .getfield 108, 3), (4, .ifCond .ge 8, 3), (7, .aload_n 0, 1), (8, .iload_n 1, 1), (9, .putfield 108, 3), (12, .return_, 1)]
theorem nD_M_fail_0 : ∀ q ∈ nL_M_fail_0, decode prog_6_method_8_code q.1 = .ok (q.2.1, q.2.2) := by decide +kernel
theorem d_M_fail_0 : decode prog_6_method_8_code 0 = .ok (.aload_n 0, 1) := dr_dd nD_M_fail_0 0 rfl
theorem d_M_fail_1 : decode prog_6_method_8_code 1 = .ok (.getfield 108, 3) := dr_dd nD_M_fail_0 1 rfl
theorem d_M_fail_4 : decode prog_6_method_8_code 4 = .ok (.ifCond .ge 8, 3) := dr_dd nD_M_fail_0 2 rfl
theorem d_M_fail_7 : decode prog_6_method_8_code 7 = .ok (.aload_n 0, 1) := dr_dd nD_M_fail_0 3 rfl
theorem d_M_fail_8 : decode prog_6_method_8_code 8 = .ok (.iload_n 1, 1) := dr_dd nD_M_fail_0 4 rfl
theorem d_M_fail_9 : decode prog_6_method_8_code 9 = .ok (.putfield 108, 3) := dr_dd nD_M_fail_0 5 rfl
theorem d_M_fail_12 : decode prog_6_method_8_code 12 = .ok (.return_, 1) := dr_dd nD_M_fail_0 6 rfl
abbrev nL_M_take_0 : List (Nat × Instr × Nat) := [(0, .aload_n 0, 1), (1, .getfield 108, 3), (4, .ifCond .lt 4, 3), (7, .return_, 1), (8, .aload_n 0, 1), (9, .invokevirtual 111, 3), (12, .iload_n 1, 1), (13, .if_icmp .eq 14, 3), (16, .aload_n 0, 1), (17, .aload_n 0, 1), (18, .getfield 101, 3), (21, .invokevirtual 114, 3), (24, .goto 13, 3), (27, .aload_n 0, 1), (28, .dup, 1), (29, .getfield 101, 3), (32, .iconst 1, 1), (33, .iadd, 1), (34, .putfield 101, 3), (37, .return_, 1)]
theorem nD_M_take_0 : ∀ q ∈ nL_M_take_0, decode prog_6_method_9_code q.1 = .ok (q.2.1, q.2.2) := by decide +kernel
theorem d_M_take_0 : decode prog_6_method_9_code 0 = .ok (.aload_n 0, 1) := dr_dd nD_M_take_0 0 rfl
theorem d_M_take_1 : decode prog_6_method_9_code 1 = .ok (.getfield 108, 3) := dr_dd nD_M_take_0 1 rfl
theorem d_M_take_4 : decode prog_6_method_9_code 4 = .ok (.ifCond .lt 4, 3) := dr_dd nD_M_take_0 2 rfl
theorem d_M_take_7 : decode prog_6_method_9_code 7 = .ok (.return_, 1) := dr_dd nD_M_take_0 3 rfl
theorem d_M_take_8 : decode prog_6_method_9_code 8 = .ok (.aload_n 0, 1) := dr_dd nD_M_take_0 4 rfl
theorem d_M_take_9 : decode prog_6_method_9_code 9 = .ok (.invokevirtual 111, 3) := dr_dd nD_M_take_0 5 rfl
theorem d_M_take_12 : decode prog_6_method_9_code 12 = .ok (.iload_n 1, 1) := dr_dd nD_M_take_0 6 rfl
theorem d_M_take_13 : decode prog_6_method_9_code 13 = .ok (.if_icmp .eq 14, 3) := dr_dd nD_M_take_0 7 rfl
theorem d_M_take_16 : decode prog_6_method_9_code 16 = .ok (.aload_n 0, 1) := dr_dd nD_M_take_0 8 rfl
theorem d_M_take_17 : decode prog_6_method_9_code 17 = .ok (.aload_n 0, 1) := dr_dd nD_M_take_0 9 rfl
theorem d_M_take_18 : decode prog_6_method_9_code 18 = .ok (.getfield 101, 3) := dr_dd nD_M_take_0 10 rfl
theorem d_M_take_21 : decode prog_6_method_9_code 21 = .ok (.invokevirtual 114, 3) := dr_dd nD_M_take_0 11 rfl
theorem d_M_take_24 : decode prog_6_method_9_code 24 = .ok (.goto 13, 3) := dr_dd nD_M_take_0 12 rfl
theorem d_M_take_27 : decode prog_6_method_9_code 27 = .ok (.aload_n 0, 1) := dr_dd nD_M_take_0 13 rfl
theorem d_M_take_28 : decode prog_6_method_9_code 28 = .ok (.dup, 1) := dr_dd nD_M_take_0 14 rfl
theorem d_M_take_29 : decode prog_6_method_9_code 29 = .ok (.getfield 101, 3) := dr_dd nD_M_take_0 15 rfl
theorem d_M_take_32 : decode prog_6_method_9_code 32 = .ok (.iconst 1, 1) := dr_dd nD_M_take_0 16 rfl
theorem d_M_take_33 : decode prog_6_method_9_code 33 = .ok (.iadd, 1) := dr_dd nD_M_take_0 17 rfl
theorem d_M_take_34 : decode prog_6_method_9_code 34 = .ok (.putfield 101, 3) := dr_dd nD_M_take_0 18 rfl
theorem d_M_take_37 : decode prog_6_method_9_code 37 = .ok (.return_, 1) := dr_dd nD_M_take_0 19 rfl
abbrev nL_M_takes_0 : List (Nat × Instr × Nat) := [(0, .aload_n 0, 1), (1, .getfield 108, 3), (4, .ifCond .ge 11, 3), (7, .aload_n 0, 1), (8, .invokevirtual 111, 3), (11, .iload_n 1, 1), (12, .if_icmp .eq 5, 3), (15, .iconst 0, 1), (16, .ireturn, 1), (17, .aload_n 0, 1), (18, .dup, 1), (19, .getfield 101, 3), (22, .iconst 1, 1), (23, .iadd, 1), (24, .putfield 101, 3), (27, .iconst 1, 1), (28, .ireturn, 1)]
theorem nD_M_takes_0 : ∀ q ∈ nL_M_takes_0, decode prog_6_method_10_code q.1 = .ok (q.2.1, q.2.2) := by decide +kernel
theorem d_M_takes_0 : decode prog_6_method_10_code 0 = .ok (.aload_n 0, 1) := dr_dd nD_M_takes_0 0 rfl
theorem d_M_takes_1 : decode prog_6_method_10_code 1 = .ok (.getfield 108, 3) := dr_dd nD_M_takes_0 1 rfl
theorem d_M_takes_4 : decode prog_6_method_10_code 4 = .ok (.ifCond .ge 11, 3) := dr_dd nD_M_takes_0 2 rfl
theorem d_M_takes_7 : decode prog_6_method_10_code 7 = .ok (.aload_n 0, 1) := dr_dd nD_M_takes_0 3 rfl
theorem d_M_takes_8 : decode prog_6_method_10_code 8 = .ok (.invokevirtual 111, 3) := dr_dd nD_M_takes_0 4 rfl
theorem d_M_takes_11 : decode prog_6_method_10_code 11 = .ok (.iload_n 1, 1) := dr_dd nD_M_takes_0 5 rfl
theorem d_M_takes_12 : decode prog_6_method_10_code 12 = .ok (.if_icmp .eq 5, 3) := dr_dd nD_M_takes_0 6 rfl
theorem d_M_takes_15 : decode prog_6_method_10_code 15 = .ok (.iconst 0, 1) := dr_dd nD_M_takes_0 7 rfl
theorem d_M_takes_16 : decode prog_6_method_10_code 16 = .ok (.ireturn, 1) := dr_dd nD_M_takes_0 8 rfl
theorem d_M_takes_17 : decode prog_6_method_10_code 17 = .ok (.aload_n 0, 1) := dr_dd nD_M_takes_0 9 rfl
theorem d_M_takes_18 : decode prog_6_method_10_code 18 = .ok (.dup, 1) := dr_dd nD_M_takes_0 10 rfl
theorem d_M_takes_19 : decode prog_6_method_10_code 19 = .ok (.getfield 101, 3) := dr_dd nD_M_takes_0 11 rfl
theorem d_M_takes_22 : decode prog_6_method_10_code 22 = .ok (.iconst 1, 1) := dr_dd nD_M_takes_0 12 rfl
theorem d_M_takes_23 : decode prog_6_method_10_code 23 = .ok (.iadd, 1) := dr_dd nD_M_takes_0 13 rfl
theorem d_M_takes_24 : decode prog_6_method_10_code 24 = .ok (.putfield 101, 3) := dr_dd nD_M_takes_0 14 rfl
theorem d_M_takes_27 : decode prog_6_method_10_code 27 = .ok (.iconst 1, 1) := dr_dd nD_M_takes_0 15 rfl
theorem d_M_takes_28 : decode prog_6_method_10_code 28 = .ok (.ireturn, 1) := dr_dd nD_M_takes_0 16 rfl
abbrev nL_M_isDigit_0 : List (Nat × Instr × Nat) := [(0, .aload_n 0, 1), (1, .invokevirtual 104, 3), (4, .bipush 48, 2), (6, .bipush 57, 2), (8, .invokestatic 90, 3), (11, .ireturn, 1)]
theorem nD_M_isDigit_0 : ∀ q ∈ nL_M_isDigit_0, decode prog_6_method_11_code q.1 = .ok (q.2.1, q.2.2) := by decide +kernel
theorem d_M_isDigit_0 : decode prog_6_method_11_code 0 = .ok (.aload_n 0, 1) := dr_dd nD_M_isDigit_0 0 rfl
theorem d_M_isDigit_1 : decode prog_6_method_11_code 1 = .ok (.invokevirtual 104, 3) := dr_dd nD_M_isDigit_0 1 rfl
theorem d_M_isDigit_4 : decode prog_6_method_11_code 4 = .ok (.bipush 48, 2) := dr_dd nD_M_isDigit_0 2 rfl
theorem d_M_isDigit_6 : decode prog_6_method_11_code 6 = .ok (.bipush 57, 2) := dr_dd nD_M_isDigit_0 3 rfl
theorem d_M_isDigit_8 : decode prog_6_method_11_code 8 = .ok (.invokestatic 90, 3) := dr_dd nD_M_isDigit_0 4 rfl
theorem d_M_isDigit_11 : decode prog_6_method_11_code 11 = .ok (.ireturn, 1) := dr_dd nD_M_isDigit_0 5 rfl
abbrev nL_M_number_0 : List (Nat × Instr × Nat) := [(0, .aload_n 0, 1), (1, .getfield 108, 3), (4, .ifCond .lt 5, 3), (7, .iload_n 1, 1), (8, .ireturn, 1), (9, .aload_n 0, 1), (10, .invokevirtual 111, 3), (13, .pop, 1), (14, .aload_n 0, 1), (15, .invokevirtual 118, 3), (18, .ifCond .ne 11, 3), (21, .aload_n 0, 1), (22, .aload_n 0, 1), (23, .getfield 101, 3), (26, .invokevirtual 114, 3), (29, .iconst 0, 1), (30, .istore_n 3, 1), (31, .iconst 0, 1), (32, .istore 4, 2), (34, .aload_n 0, 1), (35, .getfield 108, 3), (38, .ifCond .ge 54, 3), (41, .aload_n 0, 1), (42, .invokevirtual 118, 3), (45, .ifCond .eq 47, 3), (48, .iload 4, 2), (50, .iconst 4, 1), (51, .if_icmp .ge 41, 3), (54, .iload 4, 2), (56, .ifCond .eq 7, 3), (59, .iload_n 3, 1), (60, .ifCond .le 32, 3), (63, .bipush 10, 2), (65, .iload_n 3, 1), (66, .imul, 1), (67, .aload_n 0, 1), (68, .invokevirtual 104, 3), (71, .iadd, 1), (72, .bipush 48, 2), (74, .isub, 1)]
theorem nD_M_number_0 : ∀ q ∈ nL_M_number_0, decode prog_6_method_12_code q.1 = .ok (q.2.1, q.2.2) := by decide +kernel
theorem d_M_number_0 : decode prog_6_method_12_code 0 = .ok (.aload_n 0, 1) := dr_dd nD_M_number_0 0 rfl
theorem d_M_number_1 : decode prog_6_method_12_code 1 = .ok (.getfield 108, 3) := dr_dd nD_M_number_0 1 rfl
theorem d_M_number_4 : decode prog_6_method_12_code 4 = .ok (.ifCond .lt 5, 3) := dr_dd nD_M_number_0 2 rfl
theorem d_M_number_7 : decode prog_6_method_12_code 7 = .ok (.iload_n 1, 1) := dr_dd nD_M_number_0 3 rfl
theorem d_M_number_8 : decode prog_6_method_12_code 8 = .ok (.ireturn, 1) := dr_dd nD_M_number_0 4 rfl
theorem d_M_number_9 : decode prog_6_method_12_code 9 = .ok (.aload_n 0, 1) := dr_dd nD_M_number_0 5 rfl
theorem d_M_number_10 : decode prog_6_method_12_code 10 = .ok (.invokevirtual 111, 3) := dr_dd nD_M_number_0 6 rfl
theorem d_M_number_13 : decode prog_6_method_12_code 13 = .ok (.pop, 1) := dr_dd nD_M_number_0 7 rfl
theorem d_M_number_14 : decode prog_6_method_12_code 14 = .ok (.aload_n 0, 1) := dr_dd nD_M_number_0 8 rfl
theorem d_M_number_15 : decode prog_6_method_12_code 15 = .ok (.invokevirtual 118, 3) := dr_dd nD_M_number_0 9 rfl
theorem d_M_number_18 : decode prog_6_method_12_code 18 = .ok (.ifCond .ne 11, 3) := dr_dd nD_M_number_0 10 rfl
theorem d_M_number_21 : decode prog_6_method_12_code 21 = .ok (.aload_n 0, 1) := dr_dd nD_M_number_0 11 rfl
theorem d_M_number_22 : decode prog_6_method_12_code 22 = .ok (.aload_n 0, 1) := dr_dd nD_M_number_0 12 rfl
theorem d_M_number_23 : decode prog_6_method_12_code 23 = .ok (.getfield 101, 3) := dr_dd nD_M_number_0 13 rfl
theorem d_M_number_26 : decode prog_6_method_12_code 26 = .ok (.invokevirtual 114, 3) := dr_dd nD_M_number_0 14 rfl
theorem d_M_number_29 : decode prog_6_method_12_code 29 = .ok (.iconst 0, 1) := dr_dd nD_M_number_0 15 rfl
theorem d_M_number_30 : decode prog_6_method_12_code 30 = .ok (.istore_n 3, 1) := dr_dd nD_M_number_0 16 rfl
theorem d_M_number_31 : decode prog_6_method_12_code 31 = .ok (.iconst 0, 1) := dr_dd nD_M_number_0 17 rfl
theorem d_M_number_32 : decode prog_6_method_12_code 32 = .ok (.istore 4, 2) := dr_dd nD_M_number_0 18 rfl
theorem d_M_number_34 : decode prog_6_method_12_code 34 = .ok (.aload_n 0, 1) := dr_dd nD_M_number_0 19 rfl
theorem d_M_number_35 : decode prog_6_method_12_code 35 = .ok (.getfield 108, 3) := dr_dd nD_M_number_0 20 rfl
theorem d_M_number_38 : decode prog_6_method_12_code 38 = .ok (.ifCond .ge 54, 3) := dr_dd nD_M_number_0 21 rfl
theorem d_M_number_41 : decode prog_6_method_12_code 41 = .ok (.aload_n 0, 1) := dr_dd nD_M_number_0 22 rfl
theorem d_M_number_42 : decode prog_6_method_12_code 42 = .ok (.invokevirtual 118, 3) := dr_dd nD_M_number_0 23 rfl
theorem d_M_number_45 : decode prog_6_method_12_code 45 = .ok (.ifCond .eq 47, 3) := dr_dd nD_M_number_0 24 rfl
theorem d_M_number_48 : decode prog_6_method_12_code 48 = .ok (.iload 4, 2) := dr_dd nD_M_number_0 25 rfl
theorem d_M_number_50 : decode prog_6_method_12_code 50 = .ok (.iconst 4, 1) := dr_dd nD_M_number_0 26 rfl
theorem d_M_number_51 : decode prog_6_method_12_code 51 = .ok (.if_icmp .ge 41, 3) := dr_dd nD_M_number_0 27 rfl
theorem d_M_number_54 : decode prog_6_method_12_code 54 = .ok (.iload 4, 2) := dr_dd nD_M_number_0 28 rfl
theorem d_M_number_56 : decode prog_6_method_12_code 56 = .ok (.ifCond .eq 7, 3) := dr_dd nD_M_number_0 29 rfl
theorem d_M_number_59 : decode prog_6_method_12_code 59 = .ok (.iload_n 3, 1) := dr_dd nD_M_number_0 30 rfl
theorem d_M_number_60 : decode prog_6_method_12_code 60 = .ok (.ifCond .le 32, 3) := dr_dd nD_M_number_0 31 rfl
theorem d_M_number_63 : decode prog_6_method_12_code 63 = .ok (.bipush 10, 2) := dr_dd nD_M_number_0 32 rfl
theorem d_M_number_65 : decode prog_6_method_12_code 65 = .ok (.iload_n 3, 1) := dr_dd nD_M_number_0 33 rfl
theorem d_M_number_66 : decode prog_6_method_12_code 66 = .ok (.imul, 1) := dr_dd nD_M_number_0 34 rfl
theorem d_M_number_67 : decode prog_6_method_12_code 67 = .ok (.aload_n 0, 1) := dr_dd nD_M_number_0 35 rfl
theorem d_M_number_68 : decode prog_6_method_12_code 68 = .ok (.invokevirtual 104, 3) := dr_dd nD_M_number_0 36 rfl
theorem d_M_number_71 : decode prog_6_method_12_code 71 = .ok (.iadd, 1) := dr_dd nD_M_number_0 37 rfl
theorem d_M_number_72 : decode prog_6_method_12_code 72 = .ok (.bipush 48, 2) := dr_dd nD_M_number_0 38 rfl
theorem d_M_number_74 : decode prog_6_method_12_code 74 = .ok (.isub, 1) := dr_dd nD_M_number_0 39 rfl
abbrev nL_M_number_1 : List (Nat × Instr × Nat) := [(75, .istore_n 3, 1), (76, .iinc 4 1, 3), (79, .aload_n 0, 1), (80, .dup, 1), (81, .getfield 101, 3), (84, .iconst 1, 1), (85, .iadd, 1), (86, .putfield 101, 3), (89, .goto (-55), 3), (92, .iload_n 3, 1), (93, .iload_n 1, 1), (94, .iload_n 2, 1), (95, .invokestatic 90, 3), (98, .ifCond .ne 13, 3), (101, .aload_n 0, 1), (102, .aload_n 0, 1), (103, .getfield 101, 3), (106, .iconst 1, 1), (107, .isub, 1), (108, .invokevirtual 114, 3), (111, .iload 4, 2), (113, .iconst 4, 1), (114, .if_icmp .ne 18, 3), (117, .aload_n 0, 1), (118, .invokevirtual 118, 3), (121, .ifCond .eq 11, 3), (124, .aload_n 0, 1), (125, .aload_n 0, 1), (126, .getfield 101, 3), (129, .invokevirtual 114, 3), (132, .aload_n 0, 1), (133, .getfield 108, 3), (136, .ifCond .ge 7, 3), (139, .iload_n 3, 1), (140, .goto 4, 3), (143, .iload_n 1, 1), (144, .ireturn, 1)]
theorem nD_M_number_1 : ∀ q ∈ nL_M_number_1, decode prog_6_method_12_code q.1 = .ok (q.2.1, q.2.2) := by decide +kernel
theorem d_M_number_75 : decode prog_6_method_12_code 75 = .ok (.istore_n 3, 1) := dr_dd nD_M_number_1 0 rfl
theorem d_M_number_76 : decode prog_6_method_12_code 76 = .ok (.iinc 4 1, 3) := dr_dd nD_M_number_1 1 rfl
theorem d_M_number_79 : decode prog_6_method_12_code 79 = .ok (.aload_n 0, 1) := dr_dd nD_M_number_1 2 rfl
theorem d_M_number_80 : decode prog_6_method_12_code 80 = .ok (.dup, 1) := dr_dd nD_M_number_1 3 rfl
theorem d_M_number_81 : decode prog_6_method_12_code 81 = .ok (.getfield 101, 3) := dr_dd nD_M_number_1 4 rfl
theorem d_M_number_84 : decode prog_6_method_12_code 84 = .ok (.iconst 1, 1) := dr_dd nD_M_number_1 5 rfl
theorem d_M_number_85 : decode prog_6_method_12_code 85 = .ok (.iadd, 1) := dr_dd nD_M_number_1 6 rfl
theorem d_M_number_86 : decode prog_6_method_12_code 86 = .ok (.putfield 101, 3) := dr_dd nD_M_number_1 7 rfl
theorem d_M_number_89 : decode prog_6_method_12_code 89 = .ok (.goto (-55), 3) := dr_dd nD_M_number_1 8 rfl
theorem d_M_number_92 : decode prog_6_method_12_code 92 = .ok (.iload_n 3, 1) := dr_dd nD_M_number_1 9 rfl
theorem d_M_number_93 : decode prog_6_method_12_code 93 = .ok (.iload_n 1, 1) := dr_dd nD_M_number_1 10 rfl
theorem d_M_number_94 : decode prog_6_method_12_code 94 = .ok (.iload_n 2, 1) := dr_dd nD_M_number_1 11 rfl
theorem d_M_number_95 : decode prog_6_method_12_code 95 = .ok (.invokestatic 90, 3) := dr_dd nD_M_number_1 12 rfl
theorem d_M_number_98 : decode prog_6_method_12_code 98 = .ok (.ifCond .ne 13, 3) := dr_dd nD_M_number_1 13 rfl
theorem d_M_number_101 : decode prog_6_method_12_code 101 = .ok (.aload_n 0, 1) := dr_dd nD_M_number_1 14 rfl
theorem d_M_number_102 : decode prog_6_method_12_code 102 = .ok (.aload_n 0, 1) := dr_dd nD_M_number_1 15 rfl
theorem d_M_number_103 : decode prog_6_method_12_code 103 = .ok (.getfield 101, 3) := dr_dd nD_M_number_1 16 rfl
theorem d_M_number_106 : decode prog_6_method_12_code 106 = .ok (.iconst 1, 1) := dr_dd nD_M_number_1 17 rfl
theorem d_M_number_107 : decode prog_6_method_12_code 107 = .ok (.isub, 1) := dr_dd nD_M_number_1 18 rfl
theorem d_M_number_108 : decode prog_6_method_12_code 108 = .ok (.invokevirtual 114, 3) := dr_dd nD_M_number_1 19 rfl
theorem d_M_number_111 : decode prog_6_method_12_code 111 = .ok (.iload 4, 2) := dr_dd nD_M_number_1 20 rfl
theorem d_M_number_113 : decode prog_6_method_12_code 113 = .ok (.iconst 4, 1) := dr_dd nD_M_number_1 21 rfl
theorem d_M_number_114 : decode prog_6_method_12_code 114 = .ok (.if_icmp .ne 18, 3) := dr_dd nD_M_number_1 22 rfl
theorem d_M_number_117 : decode prog_6_method_12_code 117 = .ok (.aload_n 0, 1) := dr_dd nD_M_number_1 23 rfl
theorem d_M_number_118 : decode prog_6_method_12_code 118 = .ok (.invokevirtual 118, 3) := dr_dd nD_M_number_1 24 rfl
theorem d_M_number_121 : decode prog_6_method_12_code 121 = .ok (.ifCond .eq 11, 3) := dr_dd nD_M_number_1 25 rfl
theorem d_M_number_124 : decode prog_6_method_12_code 124 = .ok (.aload_n 0, 1) := dr_dd nD_M_number_1 26 rfl
theorem d_M_number_125 : decode prog_6_method_12_code 125 = .ok (.aload_n 0, 1) := dr_dd nD_M_number_1 27 rfl
theorem d_M_number_126 : decode prog_6_method_12_code 126 = .ok (.getfield 101, 3) := dr_dd nD_M_number_1 28 rfl
theorem d_M_number_129 : decode prog_6_method_12_code 129 = .ok (.invokevirtual 114, 3) := dr_dd nD_M_number_1 29 rfl
theorem d_M_number_132 : decode prog_6_method_12_code 132 = .ok (.aload_n 0, 1) := dr_dd nD_M_number_1 30 rfl
theorem d_M_number_133 : decode prog_6_method_12_code 133 = .ok (.getfield 108, 3) := dr_dd nD_M_number_1 31 rfl
theorem d_M_number_136 : decode prog_6_method_12_code 136 = .ok (.ifCond .ge 7, 3) := dr_dd nD_M_number_1 32 rfl
theorem d_M_number_139 : decode prog_6_method_12_code 139 = .ok (.iload_n 3, 1) := dr_dd nD_M_number_1 33 rfl
theorem d_M_number_140 : decode prog_6_method_12_code 140 = .ok (.goto 4, 3) := dr_dd nD_M_number_1 34 rfl
theorem d_M_number_143 : decode prog_6_method_12_code 143 = .ok (.iload_n 1, 1) := dr_dd nD_M_number_1 35 rfl
theorem d_M_number_144 : decode prog_6_method_12_code 144 = .ok (.ireturn, 1) := dr_dd nD_M_number_1 36 rfl
abbrev nL_M_eventRow_0 : List (Nat × Instr × Nat) := [(0, .aload_n 0, 1), (1, .iconst 1, 1), (2, .bipush 40, 2), (4, .invokevirtual 122, 3), (7, .istore_n 1, 1), (8, .sipush 369, 3), (11, .iload_n 1, 1), (12, .iadd, 1), (13, .istore_n 2, 1), (14, .aload_n 0, 1), (15, .getfield 108, 3), (18, .ifCond .ge 22, 3), (21, .aload_n 0, 1), (22, .getfield 17, 3), (25, .iload_n 2, 1), (26, .baload, 1), (27, .ifCond .eq 13, 3), (30, .aload_n 0, 1), (31, .aload_n 0, 1), (32, .getfield 101, 3), (35, .iconst 1, 1), (36, .isub, 1), (37, .invokevirtual 114, 3), (40, .aload_n 0, 1), (41, .getfield 108, 3), (44, .ifCond .lt 4, 3), (47, .return_, 1), (48, .aload_n 0, 1), (49, .getfield 24, 3), (52, .iload_n 2, 1), (53, .iconst (-1), 1), (54, .iastore, 1), (55, .aload_n 0, 1), (56, .getfield 27, 3), (59, .iload_n 2, 1), (60, .iconst 0, 1), (61, .iastore, 1), (62, .aload_n 0, 1), (63, .bipush 62, 2), (65, .invokevirtual 126, 3)]
theorem nD_M_eventRow_0 : ∀ q ∈ nL_M_eventRow_0, decode prog_6_method_13_code q.1 = .ok (q.2.1, q.2.2) := by decide +kernel
theorem d_M_eventRow_0 : decode prog_6_method_13_code 0 = .ok (.aload_n 0, 1) := dr_dd nD_M_eventRow_0 0 rfl
theorem d_M_eventRow_1 : decode prog_6_method_13_code 1 = .ok (.iconst 1, 1) := dr_dd nD_M_eventRow_0 1 rfl
theorem d_M_eventRow_2 : decode prog_6_method_13_code 2 = .ok (.bipush 40, 2) := dr_dd nD_M_eventRow_0 2 rfl
theorem d_M_eventRow_4 : decode prog_6_method_13_code 4 = .ok (.invokevirtual 122, 3) := dr_dd nD_M_eventRow_0 3 rfl
theorem d_M_eventRow_7 : decode prog_6_method_13_code 7 = .ok (.istore_n 1, 1) := dr_dd nD_M_eventRow_0 4 rfl
theorem d_M_eventRow_8 : decode prog_6_method_13_code 8 = .ok (.sipush 369, 3) := dr_dd nD_M_eventRow_0 5 rfl
theorem d_M_eventRow_11 : decode prog_6_method_13_code 11 = .ok (.iload_n 1, 1) := dr_dd nD_M_eventRow_0 6 rfl
theorem d_M_eventRow_12 : decode prog_6_method_13_code 12 = .ok (.iadd, 1) := dr_dd nD_M_eventRow_0 7 rfl
theorem d_M_eventRow_13 : decode prog_6_method_13_code 13 = .ok (.istore_n 2, 1) := dr_dd nD_M_eventRow_0 8 rfl
theorem d_M_eventRow_14 : decode prog_6_method_13_code 14 = .ok (.aload_n 0, 1) := dr_dd nD_M_eventRow_0 9 rfl
theorem d_M_eventRow_15 : decode prog_6_method_13_code 15 = .ok (.getfield 108, 3) := dr_dd nD_M_eventRow_0 10 rfl
theorem d_M_eventRow_18 : decode prog_6_method_13_code 18 = .ok (.ifCond .ge 22, 3) := dr_dd nD_M_eventRow_0 11 rfl
theorem d_M_eventRow_21 : decode prog_6_method_13_code 21 = .ok (.aload_n 0, 1) := dr_dd nD_M_eventRow_0 12 rfl
theorem d_M_eventRow_22 : decode prog_6_method_13_code 22 = .ok (.getfield 17, 3) := dr_dd nD_M_eventRow_0 13 rfl
theorem d_M_eventRow_25 : decode prog_6_method_13_code 25 = .ok (.iload_n 2, 1) := dr_dd nD_M_eventRow_0 14 rfl
theorem d_M_eventRow_26 : decode prog_6_method_13_code 26 = .ok (.baload, 1) := dr_dd nD_M_eventRow_0 15 rfl
theorem d_M_eventRow_27 : decode prog_6_method_13_code 27 = .ok (.ifCond .eq 13, 3) := dr_dd nD_M_eventRow_0 16 rfl
theorem d_M_eventRow_30 : decode prog_6_method_13_code 30 = .ok (.aload_n 0, 1) := dr_dd nD_M_eventRow_0 17 rfl
theorem d_M_eventRow_31 : decode prog_6_method_13_code 31 = .ok (.aload_n 0, 1) := dr_dd nD_M_eventRow_0 18 rfl
theorem d_M_eventRow_32 : decode prog_6_method_13_code 32 = .ok (.getfield 101, 3) := dr_dd nD_M_eventRow_0 19 rfl
theorem d_M_eventRow_35 : decode prog_6_method_13_code 35 = .ok (.iconst 1, 1) := dr_dd nD_M_eventRow_0 20 rfl
theorem d_M_eventRow_36 : decode prog_6_method_13_code 36 = .ok (.isub, 1) := dr_dd nD_M_eventRow_0 21 rfl
theorem d_M_eventRow_37 : decode prog_6_method_13_code 37 = .ok (.invokevirtual 114, 3) := dr_dd nD_M_eventRow_0 22 rfl
theorem d_M_eventRow_40 : decode prog_6_method_13_code 40 = .ok (.aload_n 0, 1) := dr_dd nD_M_eventRow_0 23 rfl
theorem d_M_eventRow_41 : decode prog_6_method_13_code 41 = .ok (.getfield 108, 3) := dr_dd nD_M_eventRow_0 24 rfl
theorem d_M_eventRow_44 : decode prog_6_method_13_code 44 = .ok (.ifCond .lt 4, 3) := dr_dd nD_M_eventRow_0 25 rfl
theorem d_M_eventRow_47 : decode prog_6_method_13_code 47 = .ok (.return_, 1) := dr_dd nD_M_eventRow_0 26 rfl
theorem d_M_eventRow_48 : decode prog_6_method_13_code 48 = .ok (.aload_n 0, 1) := dr_dd nD_M_eventRow_0 27 rfl
theorem d_M_eventRow_49 : decode prog_6_method_13_code 49 = .ok (.getfield 24, 3) := dr_dd nD_M_eventRow_0 28 rfl
theorem d_M_eventRow_52 : decode prog_6_method_13_code 52 = .ok (.iload_n 2, 1) := dr_dd nD_M_eventRow_0 29 rfl
theorem d_M_eventRow_53 : decode prog_6_method_13_code 53 = .ok (.iconst (-1), 1) := dr_dd nD_M_eventRow_0 30 rfl
theorem d_M_eventRow_54 : decode prog_6_method_13_code 54 = .ok (.iastore, 1) := dr_dd nD_M_eventRow_0 31 rfl
theorem d_M_eventRow_55 : decode prog_6_method_13_code 55 = .ok (.aload_n 0, 1) := dr_dd nD_M_eventRow_0 32 rfl
theorem d_M_eventRow_56 : decode prog_6_method_13_code 56 = .ok (.getfield 27, 3) := dr_dd nD_M_eventRow_0 33 rfl
theorem d_M_eventRow_59 : decode prog_6_method_13_code 59 = .ok (.iload_n 2, 1) := dr_dd nD_M_eventRow_0 34 rfl
theorem d_M_eventRow_60 : decode prog_6_method_13_code 60 = .ok (.iconst 0, 1) := dr_dd nD_M_eventRow_0 35 rfl
theorem d_M_eventRow_61 : decode prog_6_method_13_code 61 = .ok (.iastore, 1) := dr_dd nD_M_eventRow_0 36 rfl
theorem d_M_eventRow_62 : decode prog_6_method_13_code 62 = .ok (.aload_n 0, 1) := dr_dd nD_M_eventRow_0 37 rfl
theorem d_M_eventRow_63 : decode prog_6_method_13_code 63 = .ok (.bipush 62, 2) := dr_dd nD_M_eventRow_0 38 rfl
theorem d_M_eventRow_65 : decode prog_6_method_13_code 65 = .ok (.invokevirtual 126, 3) := dr_dd nD_M_eventRow_0 39 rfl
abbrev nL_M_eventRow_1 : List (Nat × Instr × Nat) := [(68, .ifCond .eq 45, 3), (71, .aload_n 0, 1), (72, .getfield 24, 3), (75, .iload_n 2, 1), (76, .aload_n 0, 1), (77, .iconst 0, 1), (78, .bipush 19, 2), (80, .invokevirtual 122, 3), (83, .iastore, 1), (84, .aload_n 0, 1), (85, .bipush 43, 2), (87, .invokevirtual 130, 3), (90, .aload_n 0, 1), (91, .getfield 27, 3), (94, .iload_n 2, 1), (95, .aload_n 0, 1), (96, .iconst 0, 1), (97, .sipush 999, 3), (100, .invokevirtual 122, 3), (103, .iastore, 1), (104, .aload_n 0, 1), (105, .bipush 126, 2), (107, .invokevirtual 130, 3), (110, .goto 9, 3), (113, .aload_n 0, 1), (114, .bipush 64, 2), (116, .invokevirtual 130, 3), (119, .aload_n 0, 1), (120, .getfield 21, 3), (123, .iload_n 2, 1), (124, .aload_n 0, 1), (125, .iconst 0, 1), (126, .sipush 9999, 3), (129, .invokevirtual 122, 3), (132, .iastore, 1), (133, .aload_n 0, 1), (134, .bipush 112, 2), (136, .invokevirtual 130, 3), (139, .aload_n 0, 1), (140, .getfield 30, 3)]
theorem nD_M_eventRow_1 : ∀ q ∈ nL_M_eventRow_1, decode prog_6_method_13_code q.1 = .ok (q.2.1, q.2.2) := by decide +kernel
theorem d_M_eventRow_68 : decode prog_6_method_13_code 68 = .ok (.ifCond .eq 45, 3) := dr_dd nD_M_eventRow_1 0 rfl
theorem d_M_eventRow_71 : decode prog_6_method_13_code 71 = .ok (.aload_n 0, 1) := dr_dd nD_M_eventRow_1 1 rfl
theorem d_M_eventRow_72 : decode prog_6_method_13_code 72 = .ok (.getfield 24, 3) := dr_dd nD_M_eventRow_1 2 rfl
theorem d_M_eventRow_75 : decode prog_6_method_13_code 75 = .ok (.iload_n 2, 1) := dr_dd nD_M_eventRow_1 3 rfl
theorem d_M_eventRow_76 : decode prog_6_method_13_code 76 = .ok (.aload_n 0, 1) := dr_dd nD_M_eventRow_1 4 rfl
theorem d_M_eventRow_77 : decode prog_6_method_13_code 77 = .ok (.iconst 0, 1) := dr_dd nD_M_eventRow_1 5 rfl
theorem d_M_eventRow_78 : decode prog_6_method_13_code 78 = .ok (.bipush 19, 2) := dr_dd nD_M_eventRow_1 6 rfl
theorem d_M_eventRow_80 : decode prog_6_method_13_code 80 = .ok (.invokevirtual 122, 3) := dr_dd nD_M_eventRow_1 7 rfl
theorem d_M_eventRow_83 : decode prog_6_method_13_code 83 = .ok (.iastore, 1) := dr_dd nD_M_eventRow_1 8 rfl
theorem d_M_eventRow_84 : decode prog_6_method_13_code 84 = .ok (.aload_n 0, 1) := dr_dd nD_M_eventRow_1 9 rfl
theorem d_M_eventRow_85 : decode prog_6_method_13_code 85 = .ok (.bipush 43, 2) := dr_dd nD_M_eventRow_1 10 rfl
theorem d_M_eventRow_87 : decode prog_6_method_13_code 87 = .ok (.invokevirtual 130, 3) := dr_dd nD_M_eventRow_1 11 rfl
theorem d_M_eventRow_90 : decode prog_6_method_13_code 90 = .ok (.aload_n 0, 1) := dr_dd nD_M_eventRow_1 12 rfl
theorem d_M_eventRow_91 : decode prog_6_method_13_code 91 = .ok (.getfield 27, 3) := dr_dd nD_M_eventRow_1 13 rfl
theorem d_M_eventRow_94 : decode prog_6_method_13_code 94 = .ok (.iload_n 2, 1) := dr_dd nD_M_eventRow_1 14 rfl
theorem d_M_eventRow_95 : decode prog_6_method_13_code 95 = .ok (.aload_n 0, 1) := dr_dd nD_M_eventRow_1 15 rfl
theorem d_M_eventRow_96 : decode prog_6_method_13_code 96 = .ok (.iconst 0, 1) := dr_dd nD_M_eventRow_1 16 rfl
theorem d_M_eventRow_97 : decode prog_6_method_13_code 97 = .ok (.sipush 999, 3) := dr_dd nD_M_eventRow_1 17 rfl
theorem d_M_eventRow_100 : decode prog_6_method_13_code 100 = .ok (.invokevirtual 122, 3) := dr_dd nD_M_eventRow_1 18 rfl
theorem d_M_eventRow_103 : decode prog_6_method_13_code 103 = .ok (.iastore, 1) := dr_dd nD_M_eventRow_1 19 rfl
theorem d_M_eventRow_104 : decode prog_6_method_13_code 104 = .ok (.aload_n 0, 1) := dr_dd nD_M_eventRow_1 20 rfl
theorem d_M_eventRow_105 : decode prog_6_method_13_code 105 = .ok (.bipush 126, 2) := dr_dd nD_M_eventRow_1 21 rfl
theorem d_M_eventRow_107 : decode prog_6_method_13_code 107 = .ok (.invokevirtual 130, 3) := dr_dd nD_M_eventRow_1 22 rfl
theorem d_M_eventRow_110 : decode prog_6_method_13_code 110 = .ok (.goto 9, 3) := dr_dd nD_M_eventRow_1 23 rfl
theorem d_M_eventRow_113 : decode prog_6_method_13_code 113 = .ok (.aload_n 0, 1) := dr_dd nD_M_eventRow_1 24 rfl
theorem d_M_eventRow_114 : decode prog_6_method_13_code 114 = .ok (.bipush 64, 2) := dr_dd nD_M_eventRow_1 25 rfl
theorem d_M_eventRow_116 : decode prog_6_method_13_code 116 = .ok (.invokevirtual 130, 3) := dr_dd nD_M_eventRow_1 26 rfl
theorem d_M_eventRow_119 : decode prog_6_method_13_code 119 = .ok (.aload_n 0, 1) := dr_dd nD_M_eventRow_1 27 rfl
theorem d_M_eventRow_120 : decode prog_6_method_13_code 120 = .ok (.getfield 21, 3) := dr_dd nD_M_eventRow_1 28 rfl
theorem d_M_eventRow_123 : decode prog_6_method_13_code 123 = .ok (.iload_n 2, 1) := dr_dd nD_M_eventRow_1 29 rfl
theorem d_M_eventRow_124 : decode prog_6_method_13_code 124 = .ok (.aload_n 0, 1) := dr_dd nD_M_eventRow_1 30 rfl
theorem d_M_eventRow_125 : decode prog_6_method_13_code 125 = .ok (.iconst 0, 1) := dr_dd nD_M_eventRow_1 31 rfl
theorem d_M_eventRow_126 : decode prog_6_method_13_code 126 = .ok (.sipush 9999, 3) := dr_dd nD_M_eventRow_1 32 rfl
theorem d_M_eventRow_129 : decode prog_6_method_13_code 129 = .ok (.invokevirtual 122, 3) := dr_dd nD_M_eventRow_1 33 rfl
theorem d_M_eventRow_132 : decode prog_6_method_13_code 132 = .ok (.iastore, 1) := dr_dd nD_M_eventRow_1 34 rfl
theorem d_M_eventRow_133 : decode prog_6_method_13_code 133 = .ok (.aload_n 0, 1) := dr_dd nD_M_eventRow_1 35 rfl
theorem d_M_eventRow_134 : decode prog_6_method_13_code 134 = .ok (.bipush 112, 2) := dr_dd nD_M_eventRow_1 36 rfl
theorem d_M_eventRow_136 : decode prog_6_method_13_code 136 = .ok (.invokevirtual 130, 3) := dr_dd nD_M_eventRow_1 37 rfl
theorem d_M_eventRow_139 : decode prog_6_method_13_code 139 = .ok (.aload_n 0, 1) := dr_dd nD_M_eventRow_1 38 rfl
theorem d_M_eventRow_140 : decode prog_6_method_13_code 140 = .ok (.getfield 30, 3) := dr_dd nD_M_eventRow_1 39 rfl
abbrev nL_M_eventRow_2 : List (Nat × Instr × Nat) := [(143, .iload_n 2, 1), (144, .aload_n 0, 1), (145, .iconst 0, 1), (146, .bipush 9, 2), (148, .invokevirtual 122, 3), (151, .iastore, 1), (152, .aload_n 0, 1), (153, .getfield 33, 3), (156, .iload_n 2, 1), (157, .aload_n 0, 1), (158, .bipush 33, 2), (160, .invokevirtual 126, 3), (163, .bastore, 1), (164, .aload_n 0, 1), (165, .getfield 36, 3), (168, .iload_n 2, 1), (169, .aload_n 0, 1), (170, .bipush 102, 2), (172, .invokevirtual 126, 3), (175, .ifCond .eq 13, 3), (178, .aload_n 0, 1), (179, .iconst 1, 1), (180, .bipush 9, 2), (182, .invokevirtual 122, 3), (185, .goto 4, 3), (188, .iconst 0, 1), (189, .iastore, 1), (190, .aload_n 0, 1), (191, .bipush 59, 2), (193, .invokevirtual 130, 3), (196, .aload_n 0, 1), (197, .getfield 17, 3), (200, .iload_n 2, 1), (201, .iconst 1, 1), (202, .bastore, 1), (203, .return_, 1)]
theorem nD_M_eventRow_2 : ∀ q ∈ nL_M_eventRow_2, decode prog_6_method_13_code q.1 = .ok (q.2.1, q.2.2) := by decide +kernel
theorem d_M_eventRow_143 : decode prog_6_method_13_code 143 = .ok (.iload_n 2, 1) := dr_dd nD_M_eventRow_2 0 rfl
theorem d_M_eventRow_144 : decode prog_6_method_13_code 144 = .ok (.aload_n 0, 1) := dr_dd nD_M_eventRow_2 1 rfl
theorem d_M_eventRow_145 : decode prog_6_method_13_code 145 = .ok (.iconst 0, 1) := dr_dd nD_M_eventRow_2 2 rfl
theorem d_M_eventRow_146 : decode prog_6_method_13_code 146 = .ok (.bipush 9, 2) := dr_dd nD_M_eventRow_2 3 rfl
theorem d_M_eventRow_148 : decode prog_6_method_13_code 148 = .ok (.invokevirtual 122, 3) := dr_dd nD_M_eventRow_2 4 rfl
theorem d_M_eventRow_151 : decode prog_6_method_13_code 151 = .ok (.iastore, 1) := dr_dd nD_M_eventRow_2 5 rfl
theorem d_M_eventRow_152 : decode prog_6_method_13_code 152 = .ok (.aload_n 0, 1) := dr_dd nD_M_eventRow_2 6 rfl
theorem d_M_eventRow_153 : decode prog_6_method_13_code 153 = .ok (.getfield 33, 3) := dr_dd nD_M_eventRow_2 7 rfl
theorem d_M_eventRow_156 : decode prog_6_method_13_code 156 = .ok (.iload_n 2, 1) := dr_dd nD_M_eventRow_2 8 rfl
theorem d_M_eventRow_157 : decode prog_6_method_13_code 157 = .ok (.aload_n 0, 1) := dr_dd nD_M_eventRow_2 9 rfl
theorem d_M_eventRow_158 : decode prog_6_method_13_code 158 = .ok (.bipush 33, 2) := dr_dd nD_M_eventRow_2 10 rfl
theorem d_M_eventRow_160 : decode prog_6_method_13_code 160 = .ok (.invokevirtual 126, 3) := dr_dd nD_M_eventRow_2 11 rfl
theorem d_M_eventRow_163 : decode prog_6_method_13_code 163 = .ok (.bastore, 1) := dr_dd nD_M_eventRow_2 12 rfl
theorem d_M_eventRow_164 : decode prog_6_method_13_code 164 = .ok (.aload_n 0, 1) := dr_dd nD_M_eventRow_2 13 rfl
theorem d_M_eventRow_165 : decode prog_6_method_13_code 165 = .ok (.getfield 36, 3) := dr_dd nD_M_eventRow_2 14 rfl
theorem d_M_eventRow_168 : decode prog_6_method_13_code 168 = .ok (.iload_n 2, 1) := dr_dd nD_M_eventRow_2 15 rfl
theorem d_M_eventRow_169 : decode prog_6_method_13_code 169 = .ok (.aload_n 0, 1) := dr_dd nD_M_eventRow_2 16 rfl
theorem d_M_eventRow_170 : decode prog_6_method_13_code 170 = .ok (.bipush 102, 2) := dr_dd nD_M_eventRow_2 17 rfl
theorem d_M_eventRow_172 : decode prog_6_method_13_code 172 = .ok (.invokevirtual 126, 3) := dr_dd nD_M_eventRow_2 18 rfl
theorem d_M_eventRow_175 : decode prog_6_method_13_code 175 = .ok (.ifCond .eq 13, 3) := dr_dd nD_M_eventRow_2 19 rfl
theorem d_M_eventRow_178 : decode prog_6_method_13_code 178 = .ok (.aload_n 0, 1) := dr_dd nD_M_eventRow_2 20 rfl
theorem d_M_eventRow_179 : decode prog_6_method_13_code 179 = .ok (.iconst 1, 1) := dr_dd nD_M_eventRow_2 21 rfl
theorem d_M_eventRow_180 : decode prog_6_method_13_code 180 = .ok (.bipush 9, 2) := dr_dd nD_M_eventRow_2 22 rfl
theorem d_M_eventRow_182 : decode prog_6_method_13_code 182 = .ok (.invokevirtual 122, 3) := dr_dd nD_M_eventRow_2 23 rfl
theorem d_M_eventRow_185 : decode prog_6_method_13_code 185 = .ok (.goto 4, 3) := dr_dd nD_M_eventRow_2 24 rfl
theorem d_M_eventRow_188 : decode prog_6_method_13_code 188 = .ok (.iconst 0, 1) := dr_dd nD_M_eventRow_2 25 rfl
theorem d_M_eventRow_189 : decode prog_6_method_13_code 189 = .ok (.iastore, 1) := dr_dd nD_M_eventRow_2 26 rfl
theorem d_M_eventRow_190 : decode prog_6_method_13_code 190 = .ok (.aload_n 0, 1) := dr_dd nD_M_eventRow_2 27 rfl
theorem d_M_eventRow_191 : decode prog_6_method_13_code 191 = .ok (.bipush 59, 2) := dr_dd nD_M_eventRow_2 28 rfl
theorem d_M_eventRow_193 : decode prog_6_method_13_code 193 = .ok (.invokevirtual 130, 3) := dr_dd nD_M_eventRow_2 29 rfl
theorem d_M_eventRow_196 : decode prog_6_method_13_code 196 = .ok (.aload_n 0, 1) := dr_dd nD_M_eventRow_2 30 rfl
theorem d_M_eventRow_197 : decode prog_6_method_13_code 197 = .ok (.getfield 17, 3) := dr_dd nD_M_eventRow_2 31 rfl
theorem d_M_eventRow_200 : decode prog_6_method_13_code 200 = .ok (.iload_n 2, 1) := dr_dd nD_M_eventRow_2 32 rfl
theorem d_M_eventRow_201 : decode prog_6_method_13_code 201 = .ok (.iconst 1, 1) := dr_dd nD_M_eventRow_2 33 rfl
theorem d_M_eventRow_202 : decode prog_6_method_13_code 202 = .ok (.bastore, 1) := dr_dd nD_M_eventRow_2 34 rfl
theorem d_M_eventRow_203 : decode prog_6_method_13_code 203 = .ok (.return_, 1) := dr_dd nD_M_eventRow_2 35 rfl
abbrev nL_M_aimRow_0 : List (Nat × Instr × Nat) := [(0, .aload_n 0, 1), (1, .iconst 1, 1), (2, .bipush 20, 2), (4, .invokevirtual 122, 3), (7, .istore_n 1, 1), (8, .sipush 189, 3), (11, .iload_n 1, 1), (12, .iadd, 1), (13, .istore_n 2, 1), (14, .aload_n 0, 1), (15, .getfield 108, 3), (18, .ifCond .ge 22, 3), (21, .aload_n 0, 1), (22, .getfield 39, 3), (25, .iload_n 2, 1), (26, .baload, 1), (27, .ifCond .eq 13, 3), (30, .aload_n 0, 1), (31, .aload_n 0, 1), (32, .getfield 101, 3), (35, .iconst 1, 1), (36, .isub, 1), (37, .invokevirtual 114, 3), (40, .aload_n 0, 1), (41, .bipush 101, 2), (43, .invokevirtual 130, 3), (46, .aload_n 0, 1), (47, .getfield 42, 3), (50, .iload_n 2, 1), (51, .aload_n 0, 1), (52, .iconst 1, 1), (53, .bipush 40, 2), (55, .invokevirtual 122, 3), (58, .iastore, 1), (59, .aload_n 0, 1), (60, .getfield 108, 3), (63, .ifCond .ge 31, 3), (66, .aload_n 0, 1), (67, .getfield 17, 3), (70, .sipush 369, 3)]
theorem nD_M_aimRow_0 : ∀ q ∈ nL_M_aimRow_0, decode prog_6_method_14_code q.1 = .ok (q.2.1, q.2.2) := by decide +kernel
theorem d_M_aimRow_0 : decode prog_6_method_14_code 0 = .ok (.aload_n 0, 1) := dr_dd nD_M_aimRow_0 0 rfl
theorem d_M_aimRow_1 : decode prog_6_method_14_code 1 = .ok (.iconst 1, 1) := dr_dd nD_M_aimRow_0 1 rfl
theorem d_M_aimRow_2 : decode prog_6_method_14_code 2 = .ok (.bipush 20, 2) := dr_dd nD_M_aimRow_0 2 rfl
theorem d_M_aimRow_4 : decode prog_6_method_14_code 4 = .ok (.invokevirtual 122, 3) := dr_dd nD_M_aimRow_0 3 rfl
theorem d_M_aimRow_7 : decode prog_6_method_14_code 7 = .ok (.istore_n 1, 1) := dr_dd nD_M_aimRow_0 4 rfl
theorem d_M_aimRow_8 : decode prog_6_method_14_code 8 = .ok (.sipush 189, 3) := dr_dd nD_M_aimRow_0 5 rfl
theorem d_M_aimRow_11 : decode prog_6_method_14_code 11 = .ok (.iload_n 1, 1) := dr_dd nD_M_aimRow_0 6 rfl
theorem d_M_aimRow_12 : decode prog_6_method_14_code 12 = .ok (.iadd, 1) := dr_dd nD_M_aimRow_0 7 rfl
theorem d_M_aimRow_13 : decode prog_6_method_14_code 13 = .ok (.istore_n 2, 1) := dr_dd nD_M_aimRow_0 8 rfl
theorem d_M_aimRow_14 : decode prog_6_method_14_code 14 = .ok (.aload_n 0, 1) := dr_dd nD_M_aimRow_0 9 rfl
theorem d_M_aimRow_15 : decode prog_6_method_14_code 15 = .ok (.getfield 108, 3) := dr_dd nD_M_aimRow_0 10 rfl
theorem d_M_aimRow_18 : decode prog_6_method_14_code 18 = .ok (.ifCond .ge 22, 3) := dr_dd nD_M_aimRow_0 11 rfl
theorem d_M_aimRow_21 : decode prog_6_method_14_code 21 = .ok (.aload_n 0, 1) := dr_dd nD_M_aimRow_0 12 rfl
theorem d_M_aimRow_22 : decode prog_6_method_14_code 22 = .ok (.getfield 39, 3) := dr_dd nD_M_aimRow_0 13 rfl
theorem d_M_aimRow_25 : decode prog_6_method_14_code 25 = .ok (.iload_n 2, 1) := dr_dd nD_M_aimRow_0 14 rfl
theorem d_M_aimRow_26 : decode prog_6_method_14_code 26 = .ok (.baload, 1) := dr_dd nD_M_aimRow_0 15 rfl
theorem d_M_aimRow_27 : decode prog_6_method_14_code 27 = .ok (.ifCond .eq 13, 3) := dr_dd nD_M_aimRow_0 16 rfl
theorem d_M_aimRow_30 : decode prog_6_method_14_code 30 = .ok (.aload_n 0, 1) := dr_dd nD_M_aimRow_0 17 rfl
theorem d_M_aimRow_31 : decode prog_6_method_14_code 31 = .ok (.aload_n 0, 1) := dr_dd nD_M_aimRow_0 18 rfl
theorem d_M_aimRow_32 : decode prog_6_method_14_code 32 = .ok (.getfield 101, 3) := dr_dd nD_M_aimRow_0 19 rfl
theorem d_M_aimRow_35 : decode prog_6_method_14_code 35 = .ok (.iconst 1, 1) := dr_dd nD_M_aimRow_0 20 rfl
theorem d_M_aimRow_36 : decode prog_6_method_14_code 36 = .ok (.isub, 1) := dr_dd nD_M_aimRow_0 21 rfl
theorem d_M_aimRow_37 : decode prog_6_method_14_code 37 = .ok (.invokevirtual 114, 3) := dr_dd nD_M_aimRow_0 22 rfl
theorem d_M_aimRow_40 : decode prog_6_method_14_code 40 = .ok (.aload_n 0, 1) := dr_dd nD_M_aimRow_0 23 rfl
theorem d_M_aimRow_41 : decode prog_6_method_14_code 41 = .ok (.bipush 101, 2) := dr_dd nD_M_aimRow_0 24 rfl
theorem d_M_aimRow_43 : decode prog_6_method_14_code 43 = .ok (.invokevirtual 130, 3) := dr_dd nD_M_aimRow_0 25 rfl
theorem d_M_aimRow_46 : decode prog_6_method_14_code 46 = .ok (.aload_n 0, 1) := dr_dd nD_M_aimRow_0 26 rfl
theorem d_M_aimRow_47 : decode prog_6_method_14_code 47 = .ok (.getfield 42, 3) := dr_dd nD_M_aimRow_0 27 rfl
theorem d_M_aimRow_50 : decode prog_6_method_14_code 50 = .ok (.iload_n 2, 1) := dr_dd nD_M_aimRow_0 28 rfl
theorem d_M_aimRow_51 : decode prog_6_method_14_code 51 = .ok (.aload_n 0, 1) := dr_dd nD_M_aimRow_0 29 rfl
theorem d_M_aimRow_52 : decode prog_6_method_14_code 52 = .ok (.iconst 1, 1) := dr_dd nD_M_aimRow_0 30 rfl
theorem d_M_aimRow_53 : decode prog_6_method_14_code 53 = .ok (.bipush 40, 2) := dr_dd nD_M_aimRow_0 31 rfl
theorem d_M_aimRow_55 : decode prog_6_method_14_code 55 = .ok (.invokevirtual 122, 3) := dr_dd nD_M_aimRow_0 32 rfl
theorem d_M_aimRow_58 : decode prog_6_method_14_code 58 = .ok (.iastore, 1) := dr_dd nD_M_aimRow_0 33 rfl
theorem d_M_aimRow_59 : decode prog_6_method_14_code 59 = .ok (.aload_n 0, 1) := dr_dd nD_M_aimRow_0 34 rfl
theorem d_M_aimRow_60 : decode prog_6_method_14_code 60 = .ok (.getfield 108, 3) := dr_dd nD_M_aimRow_0 35 rfl
theorem d_M_aimRow_63 : decode prog_6_method_14_code 63 = .ok (.ifCond .ge 31, 3) := dr_dd nD_M_aimRow_0 36 rfl
theorem d_M_aimRow_66 : decode prog_6_method_14_code 66 = .ok (.aload_n 0, 1) := dr_dd nD_M_aimRow_0 37 rfl
theorem d_M_aimRow_67 : decode prog_6_method_14_code 67 = .ok (.getfield 17, 3) := dr_dd nD_M_aimRow_0 38 rfl
theorem d_M_aimRow_70 : decode prog_6_method_14_code 70 = .ok (.sipush 369, 3) := dr_dd nD_M_aimRow_0 39 rfl
abbrev nL_M_aimRow_1 : List (Nat × Instr × Nat) := [(73, .aload_n 0, 1), (74, .getfield 42, 3), (77, .iload_n 2, 1), (78, .iaload, 1), (79, .iadd, 1), (80, .baload, 1), (81, .ifCond .ne 13, 3), (84, .aload_n 0, 1), (85, .aload_n 0, 1), (86, .getfield 101, 3), (89, .iconst 1, 1), (90, .isub, 1), (91, .invokevirtual 114, 3), (94, .aload_n 0, 1), (95, .bipush 62, 2), (97, .invokevirtual 130, 3), (100, .aload_n 0, 1), (101, .getfield 45, 3), (104, .iload_n 2, 1), (105, .aload_n 0, 1), (106, .iconst 0, 1), (107, .bipush 19, 2), (109, .invokevirtual 122, 3), (112, .iastore, 1), (113, .aload_n 0, 1), (114, .bipush 60, 2), (116, .invokevirtual 130, 3), (119, .aload_n 0, 1), (120, .getfield 48, 3), (123, .iload_n 2, 1), (124, .aload_n 0, 1), (125, .iconst 1, 1), (126, .sipush 999, 3), (129, .invokevirtual 122, 3), (132, .iastore, 1), (133, .aload_n 0, 1), (134, .bipush 119, 2), (136, .invokevirtual 130, 3), (139, .aload_n 0, 1), (140, .getfield 51, 3)]
theorem nD_M_aimRow_1 : ∀ q ∈ nL_M_aimRow_1, decode prog_6_method_14_code q.1 = .ok (q.2.1, q.2.2) := by decide +kernel
theorem d_M_aimRow_73 : decode prog_6_method_14_code 73 = .ok (.aload_n 0, 1) := dr_dd nD_M_aimRow_1 0 rfl
theorem d_M_aimRow_74 : decode prog_6_method_14_code 74 = .ok (.getfield 42, 3) := dr_dd nD_M_aimRow_1 1 rfl
theorem d_M_aimRow_77 : decode prog_6_method_14_code 77 = .ok (.iload_n 2, 1) := dr_dd nD_M_aimRow_1 2 rfl
theorem d_M_aimRow_78 : decode prog_6_method_14_code 78 = .ok (.iaload, 1) := dr_dd nD_M_aimRow_1 3 rfl
theorem d_M_aimRow_79 : decode prog_6_method_14_code 79 = .ok (.iadd, 1) := dr_dd nD_M_aimRow_1 4 rfl
theorem d_M_aimRow_80 : decode prog_6_method_14_code 80 = .ok (.baload, 1) := dr_dd nD_M_aimRow_1 5 rfl
theorem d_M_aimRow_81 : decode prog_6_method_14_code 81 = .ok (.ifCond .ne 13, 3) := dr_dd nD_M_aimRow_1 6 rfl
theorem d_M_aimRow_84 : decode prog_6_method_14_code 84 = .ok (.aload_n 0, 1) := dr_dd nD_M_aimRow_1 7 rfl
theorem d_M_aimRow_85 : decode prog_6_method_14_code 85 = .ok (.aload_n 0, 1) := dr_dd nD_M_aimRow_1 8 rfl
theorem d_M_aimRow_86 : decode prog_6_method_14_code 86 = .ok (.getfield 101, 3) := dr_dd nD_M_aimRow_1 9 rfl
theorem d_M_aimRow_89 : decode prog_6_method_14_code 89 = .ok (.iconst 1, 1) := dr_dd nD_M_aimRow_1 10 rfl
theorem d_M_aimRow_90 : decode prog_6_method_14_code 90 = .ok (.isub, 1) := dr_dd nD_M_aimRow_1 11 rfl
theorem d_M_aimRow_91 : decode prog_6_method_14_code 91 = .ok (.invokevirtual 114, 3) := dr_dd nD_M_aimRow_1 12 rfl
theorem d_M_aimRow_94 : decode prog_6_method_14_code 94 = .ok (.aload_n 0, 1) := dr_dd nD_M_aimRow_1 13 rfl
theorem d_M_aimRow_95 : decode prog_6_method_14_code 95 = .ok (.bipush 62, 2) := dr_dd nD_M_aimRow_1 14 rfl
theorem d_M_aimRow_97 : decode prog_6_method_14_code 97 = .ok (.invokevirtual 130, 3) := dr_dd nD_M_aimRow_1 15 rfl
theorem d_M_aimRow_100 : decode prog_6_method_14_code 100 = .ok (.aload_n 0, 1) := dr_dd nD_M_aimRow_1 16 rfl
theorem d_M_aimRow_101 : decode prog_6_method_14_code 101 = .ok (.getfield 45, 3) := dr_dd nD_M_aimRow_1 17 rfl
theorem d_M_aimRow_104 : decode prog_6_method_14_code 104 = .ok (.iload_n 2, 1) := dr_dd nD_M_aimRow_1 18 rfl
theorem d_M_aimRow_105 : decode prog_6_method_14_code 105 = .ok (.aload_n 0, 1) := dr_dd nD_M_aimRow_1 19 rfl
theorem d_M_aimRow_106 : decode prog_6_method_14_code 106 = .ok (.iconst 0, 1) := dr_dd nD_M_aimRow_1 20 rfl
theorem d_M_aimRow_107 : decode prog_6_method_14_code 107 = .ok (.bipush 19, 2) := dr_dd nD_M_aimRow_1 21 rfl
theorem d_M_aimRow_109 : decode prog_6_method_14_code 109 = .ok (.invokevirtual 122, 3) := dr_dd nD_M_aimRow_1 22 rfl
theorem d_M_aimRow_112 : decode prog_6_method_14_code 112 = .ok (.iastore, 1) := dr_dd nD_M_aimRow_1 23 rfl
theorem d_M_aimRow_113 : decode prog_6_method_14_code 113 = .ok (.aload_n 0, 1) := dr_dd nD_M_aimRow_1 24 rfl
theorem d_M_aimRow_114 : decode prog_6_method_14_code 114 = .ok (.bipush 60, 2) := dr_dd nD_M_aimRow_1 25 rfl
theorem d_M_aimRow_116 : decode prog_6_method_14_code 116 = .ok (.invokevirtual 130, 3) := dr_dd nD_M_aimRow_1 26 rfl
theorem d_M_aimRow_119 : decode prog_6_method_14_code 119 = .ok (.aload_n 0, 1) := dr_dd nD_M_aimRow_1 27 rfl
theorem d_M_aimRow_120 : decode prog_6_method_14_code 120 = .ok (.getfield 48, 3) := dr_dd nD_M_aimRow_1 28 rfl
theorem d_M_aimRow_123 : decode prog_6_method_14_code 123 = .ok (.iload_n 2, 1) := dr_dd nD_M_aimRow_1 29 rfl
theorem d_M_aimRow_124 : decode prog_6_method_14_code 124 = .ok (.aload_n 0, 1) := dr_dd nD_M_aimRow_1 30 rfl
theorem d_M_aimRow_125 : decode prog_6_method_14_code 125 = .ok (.iconst 1, 1) := dr_dd nD_M_aimRow_1 31 rfl
theorem d_M_aimRow_126 : decode prog_6_method_14_code 126 = .ok (.sipush 999, 3) := dr_dd nD_M_aimRow_1 32 rfl
theorem d_M_aimRow_129 : decode prog_6_method_14_code 129 = .ok (.invokevirtual 122, 3) := dr_dd nD_M_aimRow_1 33 rfl
theorem d_M_aimRow_132 : decode prog_6_method_14_code 132 = .ok (.iastore, 1) := dr_dd nD_M_aimRow_1 34 rfl
theorem d_M_aimRow_133 : decode prog_6_method_14_code 133 = .ok (.aload_n 0, 1) := dr_dd nD_M_aimRow_1 35 rfl
theorem d_M_aimRow_134 : decode prog_6_method_14_code 134 = .ok (.bipush 119, 2) := dr_dd nD_M_aimRow_1 36 rfl
theorem d_M_aimRow_136 : decode prog_6_method_14_code 136 = .ok (.invokevirtual 130, 3) := dr_dd nD_M_aimRow_1 37 rfl
theorem d_M_aimRow_139 : decode prog_6_method_14_code 139 = .ok (.aload_n 0, 1) := dr_dd nD_M_aimRow_1 38 rfl
theorem d_M_aimRow_140 : decode prog_6_method_14_code 140 = .ok (.getfield 51, 3) := dr_dd nD_M_aimRow_1 39 rfl
abbrev nL_M_aimRow_2 : List (Nat × Instr × Nat) := [(143, .iload_n 2, 1), (144, .aload_n 0, 1), (145, .iconst 1, 1), (146, .bipush 9, 2), (148, .invokevirtual 122, 3), (151, .iastore, 1), (152, .aload_n 0, 1), (153, .bipush 59, 2), (155, .invokevirtual 130, 3), (158, .aload_n 0, 1), (159, .getfield 39, 3), (162, .iload_n 2, 1), (163, .iconst 1, 1), (164, .bastore, 1), (165, .return_, 1)]
theorem nD_M_aimRow_2 : ∀ q ∈ nL_M_aimRow_2, decode prog_6_method_14_code q.1 = .ok (q.2.1, q.2.2) := by decide +kernel
theorem d_M_aimRow_143 : decode prog_6_method_14_code 143 = .ok (.iload_n 2, 1) := dr_dd nD_M_aimRow_2 0 rfl
theorem d_M_aimRow_144 : decode prog_6_method_14_code 144 = .ok (.aload_n 0, 1) := dr_dd nD_M_aimRow_2 1 rfl
theorem d_M_aimRow_145 : decode prog_6_method_14_code 145 = .ok (.iconst 1, 1) := dr_dd nD_M_aimRow_2 2 rfl
theorem d_M_aimRow_146 : decode prog_6_method_14_code 146 = .ok (.bipush 9, 2) := dr_dd nD_M_aimRow_2 3 rfl
theorem d_M_aimRow_148 : decode prog_6_method_14_code 148 = .ok (.invokevirtual 122, 3) := dr_dd nD_M_aimRow_2 4 rfl
theorem d_M_aimRow_151 : decode prog_6_method_14_code 151 = .ok (.iastore, 1) := dr_dd nD_M_aimRow_2 5 rfl
theorem d_M_aimRow_152 : decode prog_6_method_14_code 152 = .ok (.aload_n 0, 1) := dr_dd nD_M_aimRow_2 6 rfl
theorem d_M_aimRow_153 : decode prog_6_method_14_code 153 = .ok (.bipush 59, 2) := dr_dd nD_M_aimRow_2 7 rfl
theorem d_M_aimRow_155 : decode prog_6_method_14_code 155 = .ok (.invokevirtual 130, 3) := dr_dd nD_M_aimRow_2 8 rfl
theorem d_M_aimRow_158 : decode prog_6_method_14_code 158 = .ok (.aload_n 0, 1) := dr_dd nD_M_aimRow_2 9 rfl
theorem d_M_aimRow_159 : decode prog_6_method_14_code 159 = .ok (.getfield 39, 3) := dr_dd nD_M_aimRow_2 10 rfl
theorem d_M_aimRow_162 : decode prog_6_method_14_code 162 = .ok (.iload_n 2, 1) := dr_dd nD_M_aimRow_2 11 rfl
theorem d_M_aimRow_163 : decode prog_6_method_14_code 163 = .ok (.iconst 1, 1) := dr_dd nD_M_aimRow_2 12 rfl
theorem d_M_aimRow_164 : decode prog_6_method_14_code 164 = .ok (.bastore, 1) := dr_dd nD_M_aimRow_2 13 rfl
theorem d_M_aimRow_165 : decode prog_6_method_14_code 165 = .ok (.return_, 1) := dr_dd nD_M_aimRow_2 14 rfl
abbrev nL_M_copy_0 : List (Nat × Instr × Nat) := [(0, .iconst 0, 1), (1, .istore_n 3, 1), (2, .iload_n 3, 1), (3, .bipush 41, 2), (5, .if_icmp .ge 123, 3), (8, .iload_n 1, 1), (9, .bipush 41, 2), (11, .imul, 1), (12, .iload_n 3, 1), (13, .iadd, 1), (14, .istore 4, 2), (16, .iload_n 2, 1), (17, .bipush 41, 2), (19, .imul, 1), (20, .iload_n 3, 1), (21, .iadd, 1), (22, .istore 5, 2), (24, .aload_n 0, 1), (25, .getfield 17, 3), (28, .iload 5, 2), (30, .aload_n 0, 1), (31, .getfield 17, 3), (34, .iload 4, 2), (36, .baload, 1), (37, .bastore, 1), (38, .aload_n 0, 1), (39, .getfield 21, 3), (42, .iload 5, 2), (44, .aload_n 0, 1), (45, .getfield 21, 3), (48, .iload 4, 2), (50, .iaload, 1), (51, .iastore, 1), (52, .aload_n 0, 1), (53, .getfield 24, 3), (56, .iload 5, 2), (58, .aload_n 0, 1), (59, .getfield 24, 3), (62, .iload 4, 2), (64, .iaload, 1)]
theorem nD_M_copy_0 : ∀ q ∈ nL_M_copy_0, decode prog_6_method_15_code q.1 = .ok (q.2.1, q.2.2) := by decide +kernel
theorem d_M_copy_0 : decode prog_6_method_15_code 0 = .ok (.iconst 0, 1) := dr_dd nD_M_copy_0 0 rfl
theorem d_M_copy_1 : decode prog_6_method_15_code 1 = .ok (.istore_n 3, 1) := dr_dd nD_M_copy_0 1 rfl
theorem d_M_copy_2 : decode prog_6_method_15_code 2 = .ok (.iload_n 3, 1) := dr_dd nD_M_copy_0 2 rfl
theorem d_M_copy_3 : decode prog_6_method_15_code 3 = .ok (.bipush 41, 2) := dr_dd nD_M_copy_0 3 rfl
theorem d_M_copy_5 : decode prog_6_method_15_code 5 = .ok (.if_icmp .ge 123, 3) := dr_dd nD_M_copy_0 4 rfl
theorem d_M_copy_8 : decode prog_6_method_15_code 8 = .ok (.iload_n 1, 1) := dr_dd nD_M_copy_0 5 rfl
theorem d_M_copy_9 : decode prog_6_method_15_code 9 = .ok (.bipush 41, 2) := dr_dd nD_M_copy_0 6 rfl
theorem d_M_copy_11 : decode prog_6_method_15_code 11 = .ok (.imul, 1) := dr_dd nD_M_copy_0 7 rfl
theorem d_M_copy_12 : decode prog_6_method_15_code 12 = .ok (.iload_n 3, 1) := dr_dd nD_M_copy_0 8 rfl
theorem d_M_copy_13 : decode prog_6_method_15_code 13 = .ok (.iadd, 1) := dr_dd nD_M_copy_0 9 rfl
theorem d_M_copy_14 : decode prog_6_method_15_code 14 = .ok (.istore 4, 2) := dr_dd nD_M_copy_0 10 rfl
theorem d_M_copy_16 : decode prog_6_method_15_code 16 = .ok (.iload_n 2, 1) := dr_dd nD_M_copy_0 11 rfl
theorem d_M_copy_17 : decode prog_6_method_15_code 17 = .ok (.bipush 41, 2) := dr_dd nD_M_copy_0 12 rfl
theorem d_M_copy_19 : decode prog_6_method_15_code 19 = .ok (.imul, 1) := dr_dd nD_M_copy_0 13 rfl
theorem d_M_copy_20 : decode prog_6_method_15_code 20 = .ok (.iload_n 3, 1) := dr_dd nD_M_copy_0 14 rfl
theorem d_M_copy_21 : decode prog_6_method_15_code 21 = .ok (.iadd, 1) := dr_dd nD_M_copy_0 15 rfl
theorem d_M_copy_22 : decode prog_6_method_15_code 22 = .ok (.istore 5, 2) := dr_dd nD_M_copy_0 16 rfl
theorem d_M_copy_24 : decode prog_6_method_15_code 24 = .ok (.aload_n 0, 1) := dr_dd nD_M_copy_0 17 rfl
theorem d_M_copy_25 : decode prog_6_method_15_code 25 = .ok (.getfield 17, 3) := dr_dd nD_M_copy_0 18 rfl
theorem d_M_copy_28 : decode prog_6_method_15_code 28 = .ok (.iload 5, 2) := dr_dd nD_M_copy_0 19 rfl
theorem d_M_copy_30 : decode prog_6_method_15_code 30 = .ok (.aload_n 0, 1) := dr_dd nD_M_copy_0 20 rfl
theorem d_M_copy_31 : decode prog_6_method_15_code 31 = .ok (.getfield 17, 3) := dr_dd nD_M_copy_0 21 rfl
theorem d_M_copy_34 : decode prog_6_method_15_code 34 = .ok (.iload 4, 2) := dr_dd nD_M_copy_0 22 rfl
theorem d_M_copy_36 : decode prog_6_method_15_code 36 = .ok (.baload, 1) := dr_dd nD_M_copy_0 23 rfl
theorem d_M_copy_37 : decode prog_6_method_15_code 37 = .ok (.bastore, 1) := dr_dd nD_M_copy_0 24 rfl
theorem d_M_copy_38 : decode prog_6_method_15_code 38 = .ok (.aload_n 0, 1) := dr_dd nD_M_copy_0 25 rfl
theorem d_M_copy_39 : decode prog_6_method_15_code 39 = .ok (.getfield 21, 3) := dr_dd nD_M_copy_0 26 rfl
theorem d_M_copy_42 : decode prog_6_method_15_code 42 = .ok (.iload 5, 2) := dr_dd nD_M_copy_0 27 rfl
theorem d_M_copy_44 : decode prog_6_method_15_code 44 = .ok (.aload_n 0, 1) := dr_dd nD_M_copy_0 28 rfl
theorem d_M_copy_45 : decode prog_6_method_15_code 45 = .ok (.getfield 21, 3) := dr_dd nD_M_copy_0 29 rfl
theorem d_M_copy_48 : decode prog_6_method_15_code 48 = .ok (.iload 4, 2) := dr_dd nD_M_copy_0 30 rfl
theorem d_M_copy_50 : decode prog_6_method_15_code 50 = .ok (.iaload, 1) := dr_dd nD_M_copy_0 31 rfl
theorem d_M_copy_51 : decode prog_6_method_15_code 51 = .ok (.iastore, 1) := dr_dd nD_M_copy_0 32 rfl
theorem d_M_copy_52 : decode prog_6_method_15_code 52 = .ok (.aload_n 0, 1) := dr_dd nD_M_copy_0 33 rfl
theorem d_M_copy_53 : decode prog_6_method_15_code 53 = .ok (.getfield 24, 3) := dr_dd nD_M_copy_0 34 rfl
theorem d_M_copy_56 : decode prog_6_method_15_code 56 = .ok (.iload 5, 2) := dr_dd nD_M_copy_0 35 rfl
theorem d_M_copy_58 : decode prog_6_method_15_code 58 = .ok (.aload_n 0, 1) := dr_dd nD_M_copy_0 36 rfl
theorem d_M_copy_59 : decode prog_6_method_15_code 59 = .ok (.getfield 24, 3) := dr_dd nD_M_copy_0 37 rfl
theorem d_M_copy_62 : decode prog_6_method_15_code 62 = .ok (.iload 4, 2) := dr_dd nD_M_copy_0 38 rfl
theorem d_M_copy_64 : decode prog_6_method_15_code 64 = .ok (.iaload, 1) := dr_dd nD_M_copy_0 39 rfl
abbrev nL_M_copy_1 : List (Nat × Instr × Nat) := [(65, .iastore, 1), (66, .aload_n 0, 1), (67, .getfield 27, 3), (70, .iload 5, 2), (72, .aload_n 0, 1), (73, .getfield 27, 3), (76, .iload 4, 2), (78, .iaload, 1), (79, .iastore, 1), (80, .aload_n 0, 1), (81, .getfield 30, 3), (84, .iload 5, 2), (86, .aload_n 0, 1), (87, .getfield 30, 3), (90, .iload 4, 2), (92, .iaload, 1), (93, .iastore, 1), (94, .aload_n 0, 1), (95, .getfield 33, 3), (98, .iload 5, 2), (100, .aload_n 0, 1), (101, .getfield 33, 3), (104, .iload 4, 2), (106, .baload, 1), (107, .bastore, 1), (108, .aload_n 0, 1), (109, .getfield 36, 3), (112, .iload 5, 2), (114, .aload_n 0, 1), (115, .getfield 36, 3), (118, .iload 4, 2), (120, .iaload, 1), (121, .iastore, 1), (122, .iinc 3 1, 3), (125, .goto (-123), 3), (128, .iconst 0, 1), (129, .istore_n 3, 1), (130, .iload_n 3, 1), (131, .bipush 21, 2), (133, .if_icmp .ge 95, 3)]
theorem nD_M_copy_1 : ∀ q ∈ nL_M_copy_1, decode prog_6_method_15_code q.1 = .ok (q.2.1, q.2.2) := by decide +kernel
theorem d_M_copy_65 : decode prog_6_method_15_code 65 = .ok (.iastore, 1) := dr_dd nD_M_copy_1 0 rfl
theorem d_M_copy_66 : decode prog_6_method_15_code 66 = .ok (.aload_n 0, 1) := dr_dd nD_M_copy_1 1 rfl
theorem d_M_copy_67 : decode prog_6_method_15_code 67 = .ok (.getfield 27, 3) := dr_dd nD_M_copy_1 2 rfl
theorem d_M_copy_70 : decode prog_6_method_15_code 70 = .ok (.iload 5, 2) := dr_dd nD_M_copy_1 3 rfl
theorem d_M_copy_72 : decode prog_6_method_15_code 72 = .ok (.aload_n 0, 1) := dr_dd nD_M_copy_1 4 rfl
theorem d_M_copy_73 : decode prog_6_method_15_code 73 = .ok (.getfield 27, 3) := dr_dd nD_M_copy_1 5 rfl
theorem d_M_copy_76 : decode prog_6_method_15_code 76 = .ok (.iload 4, 2) := dr_dd nD_M_copy_1 6 rfl
theorem d_M_copy_78 : decode prog_6_method_15_code 78 = .ok (.iaload, 1) := dr_dd nD_M_copy_1 7 rfl
theorem d_M_copy_79 : decode prog_6_method_15_code 79 = .ok (.iastore, 1) := dr_dd nD_M_copy_1 8 rfl
theorem d_M_copy_80 : decode prog_6_method_15_code 80 = .ok (.aload_n 0, 1) := dr_dd nD_M_copy_1 9 rfl
theorem d_M_copy_81 : decode prog_6_method_15_code 81 = .ok (.getfield 30, 3) := dr_dd nD_M_copy_1 10 rfl
theorem d_M_copy_84 : decode prog_6_method_15_code 84 = .ok (.iload 5, 2) := dr_dd nD_M_copy_1 11 rfl
theorem d_M_copy_86 : decode prog_6_method_15_code 86 = .ok (.aload_n 0, 1) := dr_dd nD_M_copy_1 12 rfl
theorem d_M_copy_87 : decode prog_6_method_15_code 87 = .ok (.getfield 30, 3) := dr_dd nD_M_copy_1 13 rfl
theorem d_M_copy_90 : decode prog_6_method_15_code 90 = .ok (.iload 4, 2) := dr_dd nD_M_copy_1 14 rfl
theorem d_M_copy_92 : decode prog_6_method_15_code 92 = .ok (.iaload, 1) := dr_dd nD_M_copy_1 15 rfl
theorem d_M_copy_93 : decode prog_6_method_15_code 93 = .ok (.iastore, 1) := dr_dd nD_M_copy_1 16 rfl
theorem d_M_copy_94 : decode prog_6_method_15_code 94 = .ok (.aload_n 0, 1) := dr_dd nD_M_copy_1 17 rfl
theorem d_M_copy_95 : decode prog_6_method_15_code 95 = .ok (.getfield 33, 3) := dr_dd nD_M_copy_1 18 rfl
theorem d_M_copy_98 : decode prog_6_method_15_code 98 = .ok (.iload 5, 2) := dr_dd nD_M_copy_1 19 rfl
theorem d_M_copy_100 : decode prog_6_method_15_code 100 = .ok (.aload_n 0, 1) := dr_dd nD_M_copy_1 20 rfl
theorem d_M_copy_101 : decode prog_6_method_15_code 101 = .ok (.getfield 33, 3) := dr_dd nD_M_copy_1 21 rfl
theorem d_M_copy_104 : decode prog_6_method_15_code 104 = .ok (.iload 4, 2) := dr_dd nD_M_copy_1 22 rfl
theorem d_M_copy_106 : decode prog_6_method_15_code 106 = .ok (.baload, 1) := dr_dd nD_M_copy_1 23 rfl
theorem d_M_copy_107 : decode prog_6_method_15_code 107 = .ok (.bastore, 1) := dr_dd nD_M_copy_1 24 rfl
theorem d_M_copy_108 : decode prog_6_method_15_code 108 = .ok (.aload_n 0, 1) := dr_dd nD_M_copy_1 25 rfl
theorem d_M_copy_109 : decode prog_6_method_15_code 109 = .ok (.getfield 36, 3) := dr_dd nD_M_copy_1 26 rfl
theorem d_M_copy_112 : decode prog_6_method_15_code 112 = .ok (.iload 5, 2) := dr_dd nD_M_copy_1 27 rfl
theorem d_M_copy_114 : decode prog_6_method_15_code 114 = .ok (.aload_n 0, 1) := dr_dd nD_M_copy_1 28 rfl
theorem d_M_copy_115 : decode prog_6_method_15_code 115 = .ok (.getfield 36, 3) := dr_dd nD_M_copy_1 29 rfl
theorem d_M_copy_118 : decode prog_6_method_15_code 118 = .ok (.iload 4, 2) := dr_dd nD_M_copy_1 30 rfl
theorem d_M_copy_120 : decode prog_6_method_15_code 120 = .ok (.iaload, 1) := dr_dd nD_M_copy_1 31 rfl
theorem d_M_copy_121 : decode prog_6_method_15_code 121 = .ok (.iastore, 1) := dr_dd nD_M_copy_1 32 rfl
theorem d_M_copy_122 : decode prog_6_method_15_code 122 = .ok (.iinc 3 1, 3) := dr_dd nD_M_copy_1 33 rfl
theorem d_M_copy_125 : decode prog_6_method_15_code 125 = .ok (.goto (-123), 3) := dr_dd nD_M_copy_1 34 rfl
theorem d_M_copy_128 : decode prog_6_method_15_code 128 = .ok (.iconst 0, 1) := dr_dd nD_M_copy_1 35 rfl
theorem d_M_copy_129 : decode prog_6_method_15_code 129 = .ok (.istore_n 3, 1) := dr_dd nD_M_copy_1 36 rfl
theorem d_M_copy_130 : decode prog_6_method_15_code 130 = .ok (.iload_n 3, 1) := dr_dd nD_M_copy_1 37 rfl
theorem d_M_copy_131 : decode prog_6_method_15_code 131 = .ok (.bipush 21, 2) := dr_dd nD_M_copy_1 38 rfl
theorem d_M_copy_133 : decode prog_6_method_15_code 133 = .ok (.if_icmp .ge 95, 3) := dr_dd nD_M_copy_1 39 rfl
abbrev nL_M_copy_2 : List (Nat × Instr × Nat) := [(136, .iload_n 1, 1), (137, .bipush 21, 2), (139, .imul, 1), (140, .iload_n 3, 1), (141, .iadd, 1), (142, .istore 4, 2), (144, .iload_n 2, 1), (145, .bipush 21, 2), (147, .imul, 1), (148, .iload_n 3, 1), (149, .iadd, 1), (150, .istore 5, 2), (152, .aload_n 0, 1), (153, .getfield 39, 3), (156, .iload 5, 2), (158, .aload_n 0, 1), (159, .getfield 39, 3), (162, .iload 4, 2), (164, .baload, 1), (165, .bastore, 1), (166, .aload_n 0, 1), (167, .getfield 42, 3), (170, .iload 5, 2), (172, .aload_n 0, 1), (173, .getfield 42, 3), (176, .iload 4, 2), (178, .iaload, 1), (179, .iastore, 1), (180, .aload_n 0, 1), (181, .getfield 45, 3), (184, .iload 5, 2), (186, .aload_n 0, 1), (187, .getfield 45, 3), (190, .iload 4, 2), (192, .iaload, 1), (193, .iastore, 1), (194, .aload_n 0, 1), (195, .getfield 48, 3), (198, .iload 5, 2), (200, .aload_n 0, 1)]
theorem nD_M_copy_2 : ∀ q ∈ nL_M_copy_2, decode prog_6_method_15_code q.1 = .ok (q.2.1, q.2.2) := by decide +kernel
theorem d_M_copy_136 : decode prog_6_method_15_code 136 = .ok (.iload_n 1, 1) := dr_dd nD_M_copy_2 0 rfl
theorem d_M_copy_137 : decode prog_6_method_15_code 137 = .ok (.bipush 21, 2) := dr_dd nD_M_copy_2 1 rfl
theorem d_M_copy_139 : decode prog_6_method_15_code 139 = .ok (.imul, 1) := dr_dd nD_M_copy_2 2 rfl
theorem d_M_copy_140 : decode prog_6_method_15_code 140 = .ok (.iload_n 3, 1) := dr_dd nD_M_copy_2 3 rfl
theorem d_M_copy_141 : decode prog_6_method_15_code 141 = .ok (.iadd, 1) := dr_dd nD_M_copy_2 4 rfl
theorem d_M_copy_142 : decode prog_6_method_15_code 142 = .ok (.istore 4, 2) := dr_dd nD_M_copy_2 5 rfl
theorem d_M_copy_144 : decode prog_6_method_15_code 144 = .ok (.iload_n 2, 1) := dr_dd nD_M_copy_2 6 rfl
theorem d_M_copy_145 : decode prog_6_method_15_code 145 = .ok (.bipush 21, 2) := dr_dd nD_M_copy_2 7 rfl
theorem d_M_copy_147 : decode prog_6_method_15_code 147 = .ok (.imul, 1) := dr_dd nD_M_copy_2 8 rfl
theorem d_M_copy_148 : decode prog_6_method_15_code 148 = .ok (.iload_n 3, 1) := dr_dd nD_M_copy_2 9 rfl
theorem d_M_copy_149 : decode prog_6_method_15_code 149 = .ok (.iadd, 1) := dr_dd nD_M_copy_2 10 rfl
theorem d_M_copy_150 : decode prog_6_method_15_code 150 = .ok (.istore 5, 2) := dr_dd nD_M_copy_2 11 rfl
theorem d_M_copy_152 : decode prog_6_method_15_code 152 = .ok (.aload_n 0, 1) := dr_dd nD_M_copy_2 12 rfl
theorem d_M_copy_153 : decode prog_6_method_15_code 153 = .ok (.getfield 39, 3) := dr_dd nD_M_copy_2 13 rfl
theorem d_M_copy_156 : decode prog_6_method_15_code 156 = .ok (.iload 5, 2) := dr_dd nD_M_copy_2 14 rfl
theorem d_M_copy_158 : decode prog_6_method_15_code 158 = .ok (.aload_n 0, 1) := dr_dd nD_M_copy_2 15 rfl
theorem d_M_copy_159 : decode prog_6_method_15_code 159 = .ok (.getfield 39, 3) := dr_dd nD_M_copy_2 16 rfl
theorem d_M_copy_162 : decode prog_6_method_15_code 162 = .ok (.iload 4, 2) := dr_dd nD_M_copy_2 17 rfl
theorem d_M_copy_164 : decode prog_6_method_15_code 164 = .ok (.baload, 1) := dr_dd nD_M_copy_2 18 rfl
theorem d_M_copy_165 : decode prog_6_method_15_code 165 = .ok (.bastore, 1) := dr_dd nD_M_copy_2 19 rfl
theorem d_M_copy_166 : decode prog_6_method_15_code 166 = .ok (.aload_n 0, 1) := dr_dd nD_M_copy_2 20 rfl
theorem d_M_copy_167 : decode prog_6_method_15_code 167 = .ok (.getfield 42, 3) := dr_dd nD_M_copy_2 21 rfl
theorem d_M_copy_170 : decode prog_6_method_15_code 170 = .ok (.iload 5, 2) := dr_dd nD_M_copy_2 22 rfl
theorem d_M_copy_172 : decode prog_6_method_15_code 172 = .ok (.aload_n 0, 1) := dr_dd nD_M_copy_2 23 rfl
theorem d_M_copy_173 : decode prog_6_method_15_code 173 = .ok (.getfield 42, 3) := dr_dd nD_M_copy_2 24 rfl
theorem d_M_copy_176 : decode prog_6_method_15_code 176 = .ok (.iload 4, 2) := dr_dd nD_M_copy_2 25 rfl
theorem d_M_copy_178 : decode prog_6_method_15_code 178 = .ok (.iaload, 1) := dr_dd nD_M_copy_2 26 rfl
theorem d_M_copy_179 : decode prog_6_method_15_code 179 = .ok (.iastore, 1) := dr_dd nD_M_copy_2 27 rfl
theorem d_M_copy_180 : decode prog_6_method_15_code 180 = .ok (.aload_n 0, 1) := dr_dd nD_M_copy_2 28 rfl
theorem d_M_copy_181 : decode prog_6_method_15_code 181 = .ok (.getfield 45, 3) := dr_dd nD_M_copy_2 29 rfl
theorem d_M_copy_184 : decode prog_6_method_15_code 184 = .ok (.iload 5, 2) := dr_dd nD_M_copy_2 30 rfl
theorem d_M_copy_186 : decode prog_6_method_15_code 186 = .ok (.aload_n 0, 1) := dr_dd nD_M_copy_2 31 rfl
theorem d_M_copy_187 : decode prog_6_method_15_code 187 = .ok (.getfield 45, 3) := dr_dd nD_M_copy_2 32 rfl
theorem d_M_copy_190 : decode prog_6_method_15_code 190 = .ok (.iload 4, 2) := dr_dd nD_M_copy_2 33 rfl
theorem d_M_copy_192 : decode prog_6_method_15_code 192 = .ok (.iaload, 1) := dr_dd nD_M_copy_2 34 rfl
theorem d_M_copy_193 : decode prog_6_method_15_code 193 = .ok (.iastore, 1) := dr_dd nD_M_copy_2 35 rfl
theorem d_M_copy_194 : decode prog_6_method_15_code 194 = .ok (.aload_n 0, 1) := dr_dd nD_M_copy_2 36 rfl
theorem d_M_copy_195 : decode prog_6_method_15_code 195 = .ok (.getfield 48, 3) := dr_dd nD_M_copy_2 37 rfl
theorem d_M_copy_198 : decode prog_6_method_15_code 198 = .ok (.iload 5, 2) := dr_dd nD_M_copy_2 38 rfl
theorem d_M_copy_200 : decode prog_6_method_15_code 200 = .ok (.aload_n 0, 1) := dr_dd nD_M_copy_2 39 rfl
abbrev nL_M_copy_3 : List (Nat × Instr × Nat) := [(201, .getfield 48, 3), (204, .iload 4, 2), (206, .iaload, 1), (207, .iastore, 1), (208, .aload_n 0, 1), (209, .getfield 51, 3), (212, .iload 5, 2), (214, .aload_n 0, 1), (215, .getfield 51, 3), (218, .iload 4, 2), (220, .iaload, 1), (221, .iastore, 1), (222, .iinc 3 1, 3), (225, .goto (-95), 3), (228, .return_, 1)]
theorem nD_M_copy_3 : ∀ q ∈ nL_M_copy_3, decode prog_6_method_15_code q.1 = .ok (q.2.1, q.2.2) := by decide +kernel
theorem d_M_copy_201 : decode prog_6_method_15_code 201 = .ok (.getfield 48, 3) := dr_dd nD_M_copy_3 0 rfl
theorem d_M_copy_204 : decode prog_6_method_15_code 204 = .ok (.iload 4, 2) := dr_dd nD_M_copy_3 1 rfl
theorem d_M_copy_206 : decode prog_6_method_15_code 206 = .ok (.iaload, 1) := dr_dd nD_M_copy_3 2 rfl
theorem d_M_copy_207 : decode prog_6_method_15_code 207 = .ok (.iastore, 1) := dr_dd nD_M_copy_3 3 rfl
theorem d_M_copy_208 : decode prog_6_method_15_code 208 = .ok (.aload_n 0, 1) := dr_dd nD_M_copy_3 4 rfl
theorem d_M_copy_209 : decode prog_6_method_15_code 209 = .ok (.getfield 51, 3) := dr_dd nD_M_copy_3 5 rfl
theorem d_M_copy_212 : decode prog_6_method_15_code 212 = .ok (.iload 5, 2) := dr_dd nD_M_copy_3 6 rfl
theorem d_M_copy_214 : decode prog_6_method_15_code 214 = .ok (.aload_n 0, 1) := dr_dd nD_M_copy_3 7 rfl
theorem d_M_copy_215 : decode prog_6_method_15_code 215 = .ok (.getfield 51, 3) := dr_dd nD_M_copy_3 8 rfl
theorem d_M_copy_218 : decode prog_6_method_15_code 218 = .ok (.iload 4, 2) := dr_dd nD_M_copy_3 9 rfl
theorem d_M_copy_220 : decode prog_6_method_15_code 220 = .ok (.iaload, 1) := dr_dd nD_M_copy_3 10 rfl
theorem d_M_copy_221 : decode prog_6_method_15_code 221 = .ok (.iastore, 1) := dr_dd nD_M_copy_3 11 rfl
theorem d_M_copy_222 : decode prog_6_method_15_code 222 = .ok (.iinc 3 1, 3) := dr_dd nD_M_copy_3 12 rfl
theorem d_M_copy_225 : decode prog_6_method_15_code 225 = .ok (.goto (-95), 3) := dr_dd nD_M_copy_3 13 rfl
theorem d_M_copy_228 : decode prog_6_method_15_code 228 = .ok (.return_, 1) := dr_dd nD_M_copy_3 14 rfl
abbrev nL_M_size_0 : List (Nat × Instr × Nat) := [(0, .iconst 0, 1), (1, .istore_n 2, 1), (2, .iconst 1, 1), (3, .istore_n 3, 1), (4, .iload_n 3, 1), (5, .bipush 41, 2), (7, .if_icmp .ge 26, 3), (10, .aload_n 0, 1), (11, .getfield 17, 3), (14, .iload_n 1, 1), (15, .bipush 41, 2), (17, .imul, 1), (18, .iload_n 3, 1), (19, .iadd, 1), (20, .baload, 1), (21, .ifCond .eq 6, 3), (24, .iinc 2 1, 3), (27, .iinc 3 1, 3), (30, .goto (-26), 3), (33, .iload_n 2, 1), (34, .ireturn, 1)]
theorem nD_M_size_0 : ∀ q ∈ nL_M_size_0, decode prog_6_method_16_code q.1 = .ok (q.2.1, q.2.2) := by decide +kernel
theorem d_M_size_0 : decode prog_6_method_16_code 0 = .ok (.iconst 0, 1) := dr_dd nD_M_size_0 0 rfl
theorem d_M_size_1 : decode prog_6_method_16_code 1 = .ok (.istore_n 2, 1) := dr_dd nD_M_size_0 1 rfl
theorem d_M_size_2 : decode prog_6_method_16_code 2 = .ok (.iconst 1, 1) := dr_dd nD_M_size_0 2 rfl
theorem d_M_size_3 : decode prog_6_method_16_code 3 = .ok (.istore_n 3, 1) := dr_dd nD_M_size_0 3 rfl
theorem d_M_size_4 : decode prog_6_method_16_code 4 = .ok (.iload_n 3, 1) := dr_dd nD_M_size_0 4 rfl
theorem d_M_size_5 : decode prog_6_method_16_code 5 = .ok (.bipush 41, 2) := dr_dd nD_M_size_0 5 rfl
theorem d_M_size_7 : decode prog_6_method_16_code 7 = .ok (.if_icmp .ge 26, 3) := dr_dd nD_M_size_0 6 rfl
theorem d_M_size_10 : decode prog_6_method_16_code 10 = .ok (.aload_n 0, 1) := dr_dd nD_M_size_0 7 rfl
theorem d_M_size_11 : decode prog_6_method_16_code 11 = .ok (.getfield 17, 3) := dr_dd nD_M_size_0 8 rfl
theorem d_M_size_14 : decode prog_6_method_16_code 14 = .ok (.iload_n 1, 1) := dr_dd nD_M_size_0 9 rfl
theorem d_M_size_15 : decode prog_6_method_16_code 15 = .ok (.bipush 41, 2) := dr_dd nD_M_size_0 10 rfl
theorem d_M_size_17 : decode prog_6_method_16_code 17 = .ok (.imul, 1) := dr_dd nD_M_size_0 11 rfl
theorem d_M_size_18 : decode prog_6_method_16_code 18 = .ok (.iload_n 3, 1) := dr_dd nD_M_size_0 12 rfl
theorem d_M_size_19 : decode prog_6_method_16_code 19 = .ok (.iadd, 1) := dr_dd nD_M_size_0 13 rfl
theorem d_M_size_20 : decode prog_6_method_16_code 20 = .ok (.baload, 1) := dr_dd nD_M_size_0 14 rfl
theorem d_M_size_21 : decode prog_6_method_16_code 21 = .ok (.ifCond .eq 6, 3) := dr_dd nD_M_size_0 15 rfl
theorem d_M_size_24 : decode prog_6_method_16_code 24 = .ok (.iinc 2 1, 3) := dr_dd nD_M_size_0 16 rfl
theorem d_M_size_27 : decode prog_6_method_16_code 27 = .ok (.iinc 3 1, 3) := dr_dd nD_M_size_0 17 rfl
theorem d_M_size_30 : decode prog_6_method_16_code 30 = .ok (.goto (-26), 3) := dr_dd nD_M_size_0 18 rfl
theorem d_M_size_33 : decode prog_6_method_16_code 33 = .ok (.iload_n 2, 1) := dr_dd nD_M_size_0 19 rfl
theorem d_M_size_34 : decode prog_6_method_16_code 34 = .ok (.ireturn, 1) := dr_dd nD_M_size_0 20 rfl
abbrev nL_M_read_0 : List (Nat × Instr × Nat) := [(0, .iconst 0, 1), (1, .istore_n 1, 1), (2, .iload_n 1, 1), (3, .bipush 41, 2), (5, .if_icmp .ge 20, 3), (8, .aload_n 0, 1), (9, .getfield 17, 3), (12, .sipush 369, 3), (15, .iload_n 1, 1), (16, .iadd, 1), (17, .iconst 0, 1), (18, .bastore, 1), (19, .iinc 1 1, 3), (22, .goto (-20), 3), (25, .iconst 0, 1), (26, .istore_n 1, 1), (27, .iload_n 1, 1), (28, .bipush 21, 2), (30, .if_icmp .ge 20, 3), (33, .aload_n 0, 1), (34, .getfield 39, 3), (37, .sipush 189, 3), (40, .iload_n 1, 1), (41, .iadd, 1), (42, .iconst 0, 1), (43, .bastore, 1), (44, .iinc 1 1, 3), (47, .goto (-20), 3), (50, .aload_n 0, 1), (51, .iconst 0, 1), (52, .putfield 101, 3), (55, .aload_n 0, 1), (56, .iconst (-1), 1), (57, .putfield 108, 3), (60, .aload_n 0, 1), (61, .getfield 108, 3), (64, .ifCond .ge 53, 3), (67, .aload_n 0, 1), (68, .invokevirtual 111, 3), (71, .ifCond .lt 46, 3)]
theorem nD_M_read_0 : ∀ q ∈ nL_M_read_0, decode prog_6_method_17_code q.1 = .ok (q.2.1, q.2.2) := by decide +kernel
theorem d_M_read_0 : decode prog_6_method_17_code 0 = .ok (.iconst 0, 1) := dr_dd nD_M_read_0 0 rfl
theorem d_M_read_1 : decode prog_6_method_17_code 1 = .ok (.istore_n 1, 1) := dr_dd nD_M_read_0 1 rfl
theorem d_M_read_2 : decode prog_6_method_17_code 2 = .ok (.iload_n 1, 1) := dr_dd nD_M_read_0 2 rfl
theorem d_M_read_3 : decode prog_6_method_17_code 3 = .ok (.bipush 41, 2) := dr_dd nD_M_read_0 3 rfl
theorem d_M_read_5 : decode prog_6_method_17_code 5 = .ok (.if_icmp .ge 20, 3) := dr_dd nD_M_read_0 4 rfl
theorem d_M_read_8 : decode prog_6_method_17_code 8 = .ok (.aload_n 0, 1) := dr_dd nD_M_read_0 5 rfl
theorem d_M_read_9 : decode prog_6_method_17_code 9 = .ok (.getfield 17, 3) := dr_dd nD_M_read_0 6 rfl
theorem d_M_read_12 : decode prog_6_method_17_code 12 = .ok (.sipush 369, 3) := dr_dd nD_M_read_0 7 rfl
theorem d_M_read_15 : decode prog_6_method_17_code 15 = .ok (.iload_n 1, 1) := dr_dd nD_M_read_0 8 rfl
theorem d_M_read_16 : decode prog_6_method_17_code 16 = .ok (.iadd, 1) := dr_dd nD_M_read_0 9 rfl
theorem d_M_read_17 : decode prog_6_method_17_code 17 = .ok (.iconst 0, 1) := dr_dd nD_M_read_0 10 rfl
theorem d_M_read_18 : decode prog_6_method_17_code 18 = .ok (.bastore, 1) := dr_dd nD_M_read_0 11 rfl
theorem d_M_read_19 : decode prog_6_method_17_code 19 = .ok (.iinc 1 1, 3) := dr_dd nD_M_read_0 12 rfl
theorem d_M_read_22 : decode prog_6_method_17_code 22 = .ok (.goto (-20), 3) := dr_dd nD_M_read_0 13 rfl
theorem d_M_read_25 : decode prog_6_method_17_code 25 = .ok (.iconst 0, 1) := dr_dd nD_M_read_0 14 rfl
theorem d_M_read_26 : decode prog_6_method_17_code 26 = .ok (.istore_n 1, 1) := dr_dd nD_M_read_0 15 rfl
theorem d_M_read_27 : decode prog_6_method_17_code 27 = .ok (.iload_n 1, 1) := dr_dd nD_M_read_0 16 rfl
theorem d_M_read_28 : decode prog_6_method_17_code 28 = .ok (.bipush 21, 2) := dr_dd nD_M_read_0 17 rfl
theorem d_M_read_30 : decode prog_6_method_17_code 30 = .ok (.if_icmp .ge 20, 3) := dr_dd nD_M_read_0 18 rfl
theorem d_M_read_33 : decode prog_6_method_17_code 33 = .ok (.aload_n 0, 1) := dr_dd nD_M_read_0 19 rfl
theorem d_M_read_34 : decode prog_6_method_17_code 34 = .ok (.getfield 39, 3) := dr_dd nD_M_read_0 20 rfl
theorem d_M_read_37 : decode prog_6_method_17_code 37 = .ok (.sipush 189, 3) := dr_dd nD_M_read_0 21 rfl
theorem d_M_read_40 : decode prog_6_method_17_code 40 = .ok (.iload_n 1, 1) := dr_dd nD_M_read_0 22 rfl
theorem d_M_read_41 : decode prog_6_method_17_code 41 = .ok (.iadd, 1) := dr_dd nD_M_read_0 23 rfl
theorem d_M_read_42 : decode prog_6_method_17_code 42 = .ok (.iconst 0, 1) := dr_dd nD_M_read_0 24 rfl
theorem d_M_read_43 : decode prog_6_method_17_code 43 = .ok (.bastore, 1) := dr_dd nD_M_read_0 25 rfl
theorem d_M_read_44 : decode prog_6_method_17_code 44 = .ok (.iinc 1 1, 3) := dr_dd nD_M_read_0 26 rfl
theorem d_M_read_47 : decode prog_6_method_17_code 47 = .ok (.goto (-20), 3) := dr_dd nD_M_read_0 27 rfl
theorem d_M_read_50 : decode prog_6_method_17_code 50 = .ok (.aload_n 0, 1) := dr_dd nD_M_read_0 28 rfl
theorem d_M_read_51 : decode prog_6_method_17_code 51 = .ok (.iconst 0, 1) := dr_dd nD_M_read_0 29 rfl
theorem d_M_read_52 : decode prog_6_method_17_code 52 = .ok (.putfield 101, 3) := dr_dd nD_M_read_0 30 rfl
theorem d_M_read_55 : decode prog_6_method_17_code 55 = .ok (.aload_n 0, 1) := dr_dd nD_M_read_0 31 rfl
theorem d_M_read_56 : decode prog_6_method_17_code 56 = .ok (.iconst (-1), 1) := dr_dd nD_M_read_0 32 rfl
theorem d_M_read_57 : decode prog_6_method_17_code 57 = .ok (.putfield 108, 3) := dr_dd nD_M_read_0 33 rfl
theorem d_M_read_60 : decode prog_6_method_17_code 60 = .ok (.aload_n 0, 1) := dr_dd nD_M_read_0 34 rfl
theorem d_M_read_61 : decode prog_6_method_17_code 61 = .ok (.getfield 108, 3) := dr_dd nD_M_read_0 35 rfl
theorem d_M_read_64 : decode prog_6_method_17_code 64 = .ok (.ifCond .ge 53, 3) := dr_dd nD_M_read_0 36 rfl
theorem d_M_read_67 : decode prog_6_method_17_code 67 = .ok (.aload_n 0, 1) := dr_dd nD_M_read_0 37 rfl
theorem d_M_read_68 : decode prog_6_method_17_code 68 = .ok (.invokevirtual 111, 3) := dr_dd nD_M_read_0 38 rfl
theorem d_M_read_71 : decode prog_6_method_17_code 71 = .ok (.ifCond .lt 46, 3) := dr_dd nD_M_read_0 39 rfl
abbrev nL_M_read_1 : List (Nat × Instr × Nat) := [(74, .aload_n 0, 1), (75, .bipush 101, 2), (77, .invokevirtual 126, 3), (80, .ifCond .eq 10, 3), (83, .aload_n 0, 1), (84, .invokevirtual 133, 3), (87, .goto (-27), 3), (90, .aload_n 0, 1), (91, .bipush 97, 2), (93, .invokevirtual 126, 3), (96, .ifCond .eq 10, 3), (99, .aload_n 0, 1), (100, .invokevirtual 136, 3), (103, .goto (-43), 3), (106, .aload_n 0, 1), (107, .aload_n 0, 1), (108, .getfield 101, 3), (111, .invokevirtual 114, 3), (114, .goto (-54), 3), (117, .aload_n 0, 1), (118, .iconst 0, 1), (119, .putfield 94, 3), (122, .aload_n 0, 1), (123, .aload_n 0, 1), (124, .getfield 108, 3), (127, .putfield 13, 3), (130, .aload_n 0, 1), (131, .aload_n 0, 1), (132, .getfield 108, 3), (135, .ifCond .ge 7, 3), (138, .iconst 1, 1), (139, .goto 4, 3), (142, .iconst 0, 1), (143, .iconst 1, 1), (144, .iconst 1, 1), (145, .invokevirtual 97, 3), (148, .ifCond .ne 5, 3), (151, .iconst 0, 1), (152, .ireturn, 1), (153, .aload_n 0, 1)]
theorem nD_M_read_1 : ∀ q ∈ nL_M_read_1, decode prog_6_method_17_code q.1 = .ok (q.2.1, q.2.2) := by decide +kernel
theorem d_M_read_74 : decode prog_6_method_17_code 74 = .ok (.aload_n 0, 1) := dr_dd nD_M_read_1 0 rfl
theorem d_M_read_75 : decode prog_6_method_17_code 75 = .ok (.bipush 101, 2) := dr_dd nD_M_read_1 1 rfl
theorem d_M_read_77 : decode prog_6_method_17_code 77 = .ok (.invokevirtual 126, 3) := dr_dd nD_M_read_1 2 rfl
theorem d_M_read_80 : decode prog_6_method_17_code 80 = .ok (.ifCond .eq 10, 3) := dr_dd nD_M_read_1 3 rfl
theorem d_M_read_83 : decode prog_6_method_17_code 83 = .ok (.aload_n 0, 1) := dr_dd nD_M_read_1 4 rfl
theorem d_M_read_84 : decode prog_6_method_17_code 84 = .ok (.invokevirtual 133, 3) := dr_dd nD_M_read_1 5 rfl
theorem d_M_read_87 : decode prog_6_method_17_code 87 = .ok (.goto (-27), 3) := dr_dd nD_M_read_1 6 rfl
theorem d_M_read_90 : decode prog_6_method_17_code 90 = .ok (.aload_n 0, 1) := dr_dd nD_M_read_1 7 rfl
theorem d_M_read_91 : decode prog_6_method_17_code 91 = .ok (.bipush 97, 2) := dr_dd nD_M_read_1 8 rfl
theorem d_M_read_93 : decode prog_6_method_17_code 93 = .ok (.invokevirtual 126, 3) := dr_dd nD_M_read_1 9 rfl
theorem d_M_read_96 : decode prog_6_method_17_code 96 = .ok (.ifCond .eq 10, 3) := dr_dd nD_M_read_1 10 rfl
theorem d_M_read_99 : decode prog_6_method_17_code 99 = .ok (.aload_n 0, 1) := dr_dd nD_M_read_1 11 rfl
theorem d_M_read_100 : decode prog_6_method_17_code 100 = .ok (.invokevirtual 136, 3) := dr_dd nD_M_read_1 12 rfl
theorem d_M_read_103 : decode prog_6_method_17_code 103 = .ok (.goto (-43), 3) := dr_dd nD_M_read_1 13 rfl
theorem d_M_read_106 : decode prog_6_method_17_code 106 = .ok (.aload_n 0, 1) := dr_dd nD_M_read_1 14 rfl
theorem d_M_read_107 : decode prog_6_method_17_code 107 = .ok (.aload_n 0, 1) := dr_dd nD_M_read_1 15 rfl
theorem d_M_read_108 : decode prog_6_method_17_code 108 = .ok (.getfield 101, 3) := dr_dd nD_M_read_1 16 rfl
theorem d_M_read_111 : decode prog_6_method_17_code 111 = .ok (.invokevirtual 114, 3) := dr_dd nD_M_read_1 17 rfl
theorem d_M_read_114 : decode prog_6_method_17_code 114 = .ok (.goto (-54), 3) := dr_dd nD_M_read_1 18 rfl
theorem d_M_read_117 : decode prog_6_method_17_code 117 = .ok (.aload_n 0, 1) := dr_dd nD_M_read_1 19 rfl
theorem d_M_read_118 : decode prog_6_method_17_code 118 = .ok (.iconst 0, 1) := dr_dd nD_M_read_1 20 rfl
theorem d_M_read_119 : decode prog_6_method_17_code 119 = .ok (.putfield 94, 3) := dr_dd nD_M_read_1 21 rfl
theorem d_M_read_122 : decode prog_6_method_17_code 122 = .ok (.aload_n 0, 1) := dr_dd nD_M_read_1 22 rfl
theorem d_M_read_123 : decode prog_6_method_17_code 123 = .ok (.aload_n 0, 1) := dr_dd nD_M_read_1 23 rfl
theorem d_M_read_124 : decode prog_6_method_17_code 124 = .ok (.getfield 108, 3) := dr_dd nD_M_read_1 24 rfl
theorem d_M_read_127 : decode prog_6_method_17_code 127 = .ok (.putfield 13, 3) := dr_dd nD_M_read_1 25 rfl
theorem d_M_read_130 : decode prog_6_method_17_code 130 = .ok (.aload_n 0, 1) := dr_dd nD_M_read_1 26 rfl
theorem d_M_read_131 : decode prog_6_method_17_code 131 = .ok (.aload_n 0, 1) := dr_dd nD_M_read_1 27 rfl
theorem d_M_read_132 : decode prog_6_method_17_code 132 = .ok (.getfield 108, 3) := dr_dd nD_M_read_1 28 rfl
theorem d_M_read_135 : decode prog_6_method_17_code 135 = .ok (.ifCond .ge 7, 3) := dr_dd nD_M_read_1 29 rfl
theorem d_M_read_138 : decode prog_6_method_17_code 138 = .ok (.iconst 1, 1) := dr_dd nD_M_read_1 30 rfl
theorem d_M_read_139 : decode prog_6_method_17_code 139 = .ok (.goto 4, 3) := dr_dd nD_M_read_1 31 rfl
theorem d_M_read_142 : decode prog_6_method_17_code 142 = .ok (.iconst 0, 1) := dr_dd nD_M_read_1 32 rfl
theorem d_M_read_143 : decode prog_6_method_17_code 143 = .ok (.iconst 1, 1) := dr_dd nD_M_read_1 33 rfl
theorem d_M_read_144 : decode prog_6_method_17_code 144 = .ok (.iconst 1, 1) := dr_dd nD_M_read_1 34 rfl
theorem d_M_read_145 : decode prog_6_method_17_code 145 = .ok (.invokevirtual 97, 3) := dr_dd nD_M_read_1 35 rfl
theorem d_M_read_148 : decode prog_6_method_17_code 148 = .ok (.ifCond .ne 5, 3) := dr_dd nD_M_read_1 36 rfl
theorem d_M_read_151 : decode prog_6_method_17_code 151 = .ok (.iconst 0, 1) := dr_dd nD_M_read_1 37 rfl
theorem d_M_read_152 : decode prog_6_method_17_code 152 = .ok (.ireturn, 1) := dr_dd nD_M_read_1 38 rfl
theorem d_M_read_153 : decode prog_6_method_17_code 153 = .ok (.aload_n 0, 1) := dr_dd nD_M_read_1 39 rfl
abbrev nL_M_read_2 : List (Nat × Instr × Nat) := [(154, .bipush 9, 2), (156, .bipush 8, 2), (158, .invokevirtual 139, 3), (161, .aload_n 0, 1), (162, .bipush 8, 2), (164, .invokevirtual 143, 3), (167, .ireturn, 1)]
theorem nD_M_read_2 : ∀ q ∈ nL_M_read_2, decode prog_6_method_17_code q.1 = .ok (q.2.1, q.2.2) := by decide +kernel
theorem d_M_read_154 : decode prog_6_method_17_code 154 = .ok (.bipush 9, 2) := dr_dd nD_M_read_2 0 rfl
theorem d_M_read_156 : decode prog_6_method_17_code 156 = .ok (.bipush 8, 2) := dr_dd nD_M_read_2 1 rfl
theorem d_M_read_158 : decode prog_6_method_17_code 158 = .ok (.invokevirtual 139, 3) := dr_dd nD_M_read_2 2 rfl
theorem d_M_read_161 : decode prog_6_method_17_code 161 = .ok (.aload_n 0, 1) := dr_dd nD_M_read_2 3 rfl
theorem d_M_read_162 : decode prog_6_method_17_code 162 = .ok (.bipush 8, 2) := dr_dd nD_M_read_2 4 rfl
theorem d_M_read_164 : decode prog_6_method_17_code 164 = .ok (.invokevirtual 143, 3) := dr_dd nD_M_read_2 5 rfl
theorem d_M_read_167 : decode prog_6_method_17_code 167 = .ok (.ireturn, 1) := dr_dd nD_M_read_2 6 rfl
abbrev nL_M_place_0 : List (Nat × Instr × Nat) := [(0, .aload_n 0, 1), (1, .iconst 0, 1), (2, .putfield 87, 3), (5, .aload_n 0, 1), (6, .getfield 13, 3), (9, .ireturn, 1)]
theorem nD_M_place_0 : ∀ q ∈ nL_M_place_0, decode prog_6_method_18_code q.1 = .ok (q.2.1, q.2.2) := by decide +kernel
theorem d_M_place_0 : decode prog_6_method_18_code 0 = .ok (.aload_n 0, 1) := dr_dd nD_M_place_0 0 rfl
theorem d_M_place_1 : decode prog_6_method_18_code 1 = .ok (.iconst 0, 1) := dr_dd nD_M_place_0 1 rfl
theorem d_M_place_2 : decode prog_6_method_18_code 2 = .ok (.putfield 87, 3) := dr_dd nD_M_place_0 2 rfl
theorem d_M_place_5 : decode prog_6_method_18_code 5 = .ok (.aload_n 0, 1) := dr_dd nD_M_place_0 3 rfl
theorem d_M_place_6 : decode prog_6_method_18_code 6 = .ok (.getfield 13, 3) := dr_dd nD_M_place_0 4 rfl
theorem d_M_place_9 : decode prog_6_method_18_code 9 = .ok (.ireturn, 1) := dr_dd nD_M_place_0 5 rfl
abbrev nL_M_relative_0 : List (Nat × Instr × Nat) := [(0, .aload_n 0, 1), (1, .getfield 147, 3), (4, .aload_n 0, 1), (5, .getfield 54, 3), (8, .iload_n 1, 1), (9, .iaload, 1), (10, .isub, 1), (11, .ireturn, 1)]
theorem nD_M_relative_0 : ∀ q ∈ nL_M_relative_0, decode prog_6_method_19_code q.1 = .ok (q.2.1, q.2.2) := by decide +kernel
theorem d_M_relative_0 : decode prog_6_method_19_code 0 = .ok (.aload_n 0, 1) := dr_dd nD_M_relative_0 0 rfl
theorem d_M_relative_1 : decode prog_6_method_19_code 1 = .ok (.getfield 147, 3) := dr_dd nD_M_relative_0 1 rfl
theorem d_M_relative_4 : decode prog_6_method_19_code 4 = .ok (.aload_n 0, 1) := dr_dd nD_M_relative_0 2 rfl
theorem d_M_relative_5 : decode prog_6_method_19_code 5 = .ok (.getfield 54, 3) := dr_dd nD_M_relative_0 3 rfl
theorem d_M_relative_8 : decode prog_6_method_19_code 8 = .ok (.iload_n 1, 1) := dr_dd nD_M_relative_0 4 rfl
theorem d_M_relative_9 : decode prog_6_method_19_code 9 = .ok (.iaload, 1) := dr_dd nD_M_relative_0 5 rfl
theorem d_M_relative_10 : decode prog_6_method_19_code 10 = .ok (.isub, 1) := dr_dd nD_M_relative_0 6 rfl
theorem d_M_relative_11 : decode prog_6_method_19_code 11 = .ok (.ireturn, 1) := dr_dd nD_M_relative_0 7 rfl
abbrev nL_M_first_0 : List (Nat × Instr × Nat) := [(0, .iconst 0, 1), (1, .istore 4, 2), (3, .iload 4, 2), (5, .aload_n 0, 1), (6, .getfield 63, 3), (9, .iload_n 1, 1), (10, .iaload, 1), (11, .if_icmp .ge 54, 3), (14, .aload_n 0, 1), (15, .getfield 66, 3), (18, .iload_n 1, 1), (19, .bipush 60, 2), (21, .imul, 1), (22, .iload 4, 2), (24, .iadd, 1), (25, .iaload, 1), (26, .iload_n 2, 1), (27, .if_icmp .ne 32, 3), (30, .aload_n 0, 1), (31, .getfield 69, 3), (34, .iload_n 1, 1), (35, .bipush 60, 2), (37, .imul, 1), (38, .iload 4, 2), (40, .iadd, 1), (41, .iaload, 1), (42, .iload_n 3, 1), (43, .if_icmp .lt 16, 3), (46, .aload_n 0, 1), (47, .getfield 69, 3), (50, .iload_n 1, 1), (51, .bipush 60, 2), (53, .imul, 1), (54, .iload 4, 2), (56, .iadd, 1), (57, .iaload, 1), (58, .ireturn, 1), (59, .iinc 4 1, 3), (62, .goto (-59), 3), (65, .iconst (-1), 1)]
theorem nD_M_first_0 : ∀ q ∈ nL_M_first_0, decode prog_6_method_20_code q.1 = .ok (q.2.1, q.2.2) := by decide +kernel
theorem d_M_first_0 : decode prog_6_method_20_code 0 = .ok (.iconst 0, 1) := dr_dd nD_M_first_0 0 rfl
theorem d_M_first_1 : decode prog_6_method_20_code 1 = .ok (.istore 4, 2) := dr_dd nD_M_first_0 1 rfl
theorem d_M_first_3 : decode prog_6_method_20_code 3 = .ok (.iload 4, 2) := dr_dd nD_M_first_0 2 rfl
theorem d_M_first_5 : decode prog_6_method_20_code 5 = .ok (.aload_n 0, 1) := dr_dd nD_M_first_0 3 rfl
theorem d_M_first_6 : decode prog_6_method_20_code 6 = .ok (.getfield 63, 3) := dr_dd nD_M_first_0 4 rfl
theorem d_M_first_9 : decode prog_6_method_20_code 9 = .ok (.iload_n 1, 1) := dr_dd nD_M_first_0 5 rfl
theorem d_M_first_10 : decode prog_6_method_20_code 10 = .ok (.iaload, 1) := dr_dd nD_M_first_0 6 rfl
theorem d_M_first_11 : decode prog_6_method_20_code 11 = .ok (.if_icmp .ge 54, 3) := dr_dd nD_M_first_0 7 rfl
theorem d_M_first_14 : decode prog_6_method_20_code 14 = .ok (.aload_n 0, 1) := dr_dd nD_M_first_0 8 rfl
theorem d_M_first_15 : decode prog_6_method_20_code 15 = .ok (.getfield 66, 3) := dr_dd nD_M_first_0 9 rfl
theorem d_M_first_18 : decode prog_6_method_20_code 18 = .ok (.iload_n 1, 1) := dr_dd nD_M_first_0 10 rfl
theorem d_M_first_19 : decode prog_6_method_20_code 19 = .ok (.bipush 60, 2) := dr_dd nD_M_first_0 11 rfl
theorem d_M_first_21 : decode prog_6_method_20_code 21 = .ok (.imul, 1) := dr_dd nD_M_first_0 12 rfl
theorem d_M_first_22 : decode prog_6_method_20_code 22 = .ok (.iload 4, 2) := dr_dd nD_M_first_0 13 rfl
theorem d_M_first_24 : decode prog_6_method_20_code 24 = .ok (.iadd, 1) := dr_dd nD_M_first_0 14 rfl
theorem d_M_first_25 : decode prog_6_method_20_code 25 = .ok (.iaload, 1) := dr_dd nD_M_first_0 15 rfl
theorem d_M_first_26 : decode prog_6_method_20_code 26 = .ok (.iload_n 2, 1) := dr_dd nD_M_first_0 16 rfl
theorem d_M_first_27 : decode prog_6_method_20_code 27 = .ok (.if_icmp .ne 32, 3) := dr_dd nD_M_first_0 17 rfl
theorem d_M_first_30 : decode prog_6_method_20_code 30 = .ok (.aload_n 0, 1) := dr_dd nD_M_first_0 18 rfl
theorem d_M_first_31 : decode prog_6_method_20_code 31 = .ok (.getfield 69, 3) := dr_dd nD_M_first_0 19 rfl
theorem d_M_first_34 : decode prog_6_method_20_code 34 = .ok (.iload_n 1, 1) := dr_dd nD_M_first_0 20 rfl
theorem d_M_first_35 : decode prog_6_method_20_code 35 = .ok (.bipush 60, 2) := dr_dd nD_M_first_0 21 rfl
theorem d_M_first_37 : decode prog_6_method_20_code 37 = .ok (.imul, 1) := dr_dd nD_M_first_0 22 rfl
theorem d_M_first_38 : decode prog_6_method_20_code 38 = .ok (.iload 4, 2) := dr_dd nD_M_first_0 23 rfl
theorem d_M_first_40 : decode prog_6_method_20_code 40 = .ok (.iadd, 1) := dr_dd nD_M_first_0 24 rfl
theorem d_M_first_41 : decode prog_6_method_20_code 41 = .ok (.iaload, 1) := dr_dd nD_M_first_0 25 rfl
theorem d_M_first_42 : decode prog_6_method_20_code 42 = .ok (.iload_n 3, 1) := dr_dd nD_M_first_0 26 rfl
theorem d_M_first_43 : decode prog_6_method_20_code 43 = .ok (.if_icmp .lt 16, 3) := dr_dd nD_M_first_0 27 rfl
theorem d_M_first_46 : decode prog_6_method_20_code 46 = .ok (.aload_n 0, 1) := dr_dd nD_M_first_0 28 rfl
theorem d_M_first_47 : decode prog_6_method_20_code 47 = .ok (.getfield 69, 3) := dr_dd nD_M_first_0 29 rfl
theorem d_M_first_50 : decode prog_6_method_20_code 50 = .ok (.iload_n 1, 1) := dr_dd nD_M_first_0 30 rfl
theorem d_M_first_51 : decode prog_6_method_20_code 51 = .ok (.bipush 60, 2) := dr_dd nD_M_first_0 31 rfl
theorem d_M_first_53 : decode prog_6_method_20_code 53 = .ok (.imul, 1) := dr_dd nD_M_first_0 32 rfl
theorem d_M_first_54 : decode prog_6_method_20_code 54 = .ok (.iload 4, 2) := dr_dd nD_M_first_0 33 rfl
theorem d_M_first_56 : decode prog_6_method_20_code 56 = .ok (.iadd, 1) := dr_dd nD_M_first_0 34 rfl
theorem d_M_first_57 : decode prog_6_method_20_code 57 = .ok (.iaload, 1) := dr_dd nD_M_first_0 35 rfl
theorem d_M_first_58 : decode prog_6_method_20_code 58 = .ok (.ireturn, 1) := dr_dd nD_M_first_0 36 rfl
theorem d_M_first_59 : decode prog_6_method_20_code 59 = .ok (.iinc 4 1, 3) := dr_dd nD_M_first_0 37 rfl
theorem d_M_first_62 : decode prog_6_method_20_code 62 = .ok (.goto (-59), 3) := dr_dd nD_M_first_0 38 rfl
theorem d_M_first_65 : decode prog_6_method_20_code 65 = .ok (.iconst (-1), 1) := dr_dd nD_M_first_0 39 rfl
abbrev nL_M_first_1 : List (Nat × Instr × Nat) := [(66, .ireturn, 1)]
theorem nD_M_first_1 : ∀ q ∈ nL_M_first_1, decode prog_6_method_20_code q.1 = .ok (q.2.1, q.2.2) := by decide +kernel
theorem d_M_first_66 : decode prog_6_method_20_code 66 = .ok (.ireturn, 1) := dr_dd nD_M_first_1 0 rfl
abbrev nL_M_isDue_0 : List (Nat × Instr × Nat) := [(0, .iload_n 1, 1), (1, .bipush 41, 2), (3, .imul, 1), (4, .iload_n 2, 1), (5, .iadd, 1), (6, .istore_n 3, 1), (7, .aload_n 0, 1), (8, .iload_n 1, 1), (9, .invokevirtual 150, 3), (12, .aload_n 0, 1), (13, .getfield 21, 3), (16, .iload_n 3, 1), (17, .iaload, 1), (18, .if_icmp .lt 5, 3), (21, .iconst 1, 1), (22, .ireturn, 1), (23, .aload_n 0, 1), (24, .getfield 24, 3), (27, .iload_n 3, 1), (28, .iaload, 1), (29, .ifCond .ge 5, 3), (32, .iconst 0, 1), (33, .ireturn, 1), (34, .aload_n 0, 1), (35, .iload_n 1, 1), (36, .aload_n 0, 1), (37, .getfield 24, 3), (40, .iload_n 3, 1), (41, .iaload, 1), (42, .iconst 0, 1), (43, .invokevirtual 153, 3), (46, .istore 4, 2), (48, .iload 4, 2), (50, .ifCond .lt 24, 3), (53, .aload_n 0, 1), (54, .iload_n 1, 1), (55, .invokevirtual 150, 3), (58, .iload 4, 2), (60, .aload_n 0, 1), (61, .getfield 27, 3)]
theorem nD_M_isDue_0 : ∀ q ∈ nL_M_isDue_0, decode prog_6_method_21_code q.1 = .ok (q.2.1, q.2.2) := by decide +kernel
theorem d_M_isDue_0 : decode prog_6_method_21_code 0 = .ok (.iload_n 1, 1) := dr_dd nD_M_isDue_0 0 rfl
theorem d_M_isDue_1 : decode prog_6_method_21_code 1 = .ok (.bipush 41, 2) := dr_dd nD_M_isDue_0 1 rfl
theorem d_M_isDue_3 : decode prog_6_method_21_code 3 = .ok (.imul, 1) := dr_dd nD_M_isDue_0 2 rfl
theorem d_M_isDue_4 : decode prog_6_method_21_code 4 = .ok (.iload_n 2, 1) := dr_dd nD_M_isDue_0 3 rfl
theorem d_M_isDue_5 : decode prog_6_method_21_code 5 = .ok (.iadd, 1) := dr_dd nD_M_isDue_0 4 rfl
theorem d_M_isDue_6 : decode prog_6_method_21_code 6 = .ok (.istore_n 3, 1) := dr_dd nD_M_isDue_0 5 rfl
theorem d_M_isDue_7 : decode prog_6_method_21_code 7 = .ok (.aload_n 0, 1) := dr_dd nD_M_isDue_0 6 rfl
theorem d_M_isDue_8 : decode prog_6_method_21_code 8 = .ok (.iload_n 1, 1) := dr_dd nD_M_isDue_0 7 rfl
theorem d_M_isDue_9 : decode prog_6_method_21_code 9 = .ok (.invokevirtual 150, 3) := dr_dd nD_M_isDue_0 8 rfl
theorem d_M_isDue_12 : decode prog_6_method_21_code 12 = .ok (.aload_n 0, 1) := dr_dd nD_M_isDue_0 9 rfl
theorem d_M_isDue_13 : decode prog_6_method_21_code 13 = .ok (.getfield 21, 3) := dr_dd nD_M_isDue_0 10 rfl
theorem d_M_isDue_16 : decode prog_6_method_21_code 16 = .ok (.iload_n 3, 1) := dr_dd nD_M_isDue_0 11 rfl
theorem d_M_isDue_17 : decode prog_6_method_21_code 17 = .ok (.iaload, 1) := dr_dd nD_M_isDue_0 12 rfl
theorem d_M_isDue_18 : decode prog_6_method_21_code 18 = .ok (.if_icmp .lt 5, 3) := dr_dd nD_M_isDue_0 13 rfl
theorem d_M_isDue_21 : decode prog_6_method_21_code 21 = .ok (.iconst 1, 1) := dr_dd nD_M_isDue_0 14 rfl
theorem d_M_isDue_22 : decode prog_6_method_21_code 22 = .ok (.ireturn, 1) := dr_dd nD_M_isDue_0 15 rfl
theorem d_M_isDue_23 : decode prog_6_method_21_code 23 = .ok (.aload_n 0, 1) := dr_dd nD_M_isDue_0 16 rfl
theorem d_M_isDue_24 : decode prog_6_method_21_code 24 = .ok (.getfield 24, 3) := dr_dd nD_M_isDue_0 17 rfl
theorem d_M_isDue_27 : decode prog_6_method_21_code 27 = .ok (.iload_n 3, 1) := dr_dd nD_M_isDue_0 18 rfl
theorem d_M_isDue_28 : decode prog_6_method_21_code 28 = .ok (.iaload, 1) := dr_dd nD_M_isDue_0 19 rfl
theorem d_M_isDue_29 : decode prog_6_method_21_code 29 = .ok (.ifCond .ge 5, 3) := dr_dd nD_M_isDue_0 20 rfl
theorem d_M_isDue_32 : decode prog_6_method_21_code 32 = .ok (.iconst 0, 1) := dr_dd nD_M_isDue_0 21 rfl
theorem d_M_isDue_33 : decode prog_6_method_21_code 33 = .ok (.ireturn, 1) := dr_dd nD_M_isDue_0 22 rfl
theorem d_M_isDue_34 : decode prog_6_method_21_code 34 = .ok (.aload_n 0, 1) := dr_dd nD_M_isDue_0 23 rfl
theorem d_M_isDue_35 : decode prog_6_method_21_code 35 = .ok (.iload_n 1, 1) := dr_dd nD_M_isDue_0 24 rfl
theorem d_M_isDue_36 : decode prog_6_method_21_code 36 = .ok (.aload_n 0, 1) := dr_dd nD_M_isDue_0 25 rfl
theorem d_M_isDue_37 : decode prog_6_method_21_code 37 = .ok (.getfield 24, 3) := dr_dd nD_M_isDue_0 26 rfl
theorem d_M_isDue_40 : decode prog_6_method_21_code 40 = .ok (.iload_n 3, 1) := dr_dd nD_M_isDue_0 27 rfl
theorem d_M_isDue_41 : decode prog_6_method_21_code 41 = .ok (.iaload, 1) := dr_dd nD_M_isDue_0 28 rfl
theorem d_M_isDue_42 : decode prog_6_method_21_code 42 = .ok (.iconst 0, 1) := dr_dd nD_M_isDue_0 29 rfl
theorem d_M_isDue_43 : decode prog_6_method_21_code 43 = .ok (.invokevirtual 153, 3) := dr_dd nD_M_isDue_0 30 rfl
theorem d_M_isDue_46 : decode prog_6_method_21_code 46 = .ok (.istore 4, 2) := dr_dd nD_M_isDue_0 31 rfl
theorem d_M_isDue_48 : decode prog_6_method_21_code 48 = .ok (.iload 4, 2) := dr_dd nD_M_isDue_0 32 rfl
theorem d_M_isDue_50 : decode prog_6_method_21_code 50 = .ok (.ifCond .lt 24, 3) := dr_dd nD_M_isDue_0 33 rfl
theorem d_M_isDue_53 : decode prog_6_method_21_code 53 = .ok (.aload_n 0, 1) := dr_dd nD_M_isDue_0 34 rfl
theorem d_M_isDue_54 : decode prog_6_method_21_code 54 = .ok (.iload_n 1, 1) := dr_dd nD_M_isDue_0 35 rfl
theorem d_M_isDue_55 : decode prog_6_method_21_code 55 = .ok (.invokevirtual 150, 3) := dr_dd nD_M_isDue_0 36 rfl
theorem d_M_isDue_58 : decode prog_6_method_21_code 58 = .ok (.iload 4, 2) := dr_dd nD_M_isDue_0 37 rfl
theorem d_M_isDue_60 : decode prog_6_method_21_code 60 = .ok (.aload_n 0, 1) := dr_dd nD_M_isDue_0 38 rfl
theorem d_M_isDue_61 : decode prog_6_method_21_code 61 = .ok (.getfield 27, 3) := dr_dd nD_M_isDue_0 39 rfl
abbrev nL_M_isDue_1 : List (Nat × Instr × Nat) := [(64, .iload_n 3, 1), (65, .iaload, 1), (66, .iadd, 1), (67, .if_icmp .lt 7, 3), (70, .iconst 1, 1), (71, .goto 4, 3), (74, .iconst 0, 1), (75, .ireturn, 1)]
theorem nD_M_isDue_1 : ∀ q ∈ nL_M_isDue_1, decode prog_6_method_21_code q.1 = .ok (q.2.1, q.2.2) := by decide +kernel
theorem d_M_isDue_64 : decode prog_6_method_21_code 64 = .ok (.iload_n 3, 1) := dr_dd nD_M_isDue_1 0 rfl
theorem d_M_isDue_65 : decode prog_6_method_21_code 65 = .ok (.iaload, 1) := dr_dd nD_M_isDue_1 1 rfl
theorem d_M_isDue_66 : decode prog_6_method_21_code 66 = .ok (.iadd, 1) := dr_dd nD_M_isDue_1 2 rfl
theorem d_M_isDue_67 : decode prog_6_method_21_code 67 = .ok (.if_icmp .lt 7, 3) := dr_dd nD_M_isDue_1 3 rfl
theorem d_M_isDue_70 : decode prog_6_method_21_code 70 = .ok (.iconst 1, 1) := dr_dd nD_M_isDue_1 4 rfl
theorem d_M_isDue_71 : decode prog_6_method_21_code 71 = .ok (.goto 4, 3) := dr_dd nD_M_isDue_1 5 rfl
theorem d_M_isDue_74 : decode prog_6_method_21_code 74 = .ok (.iconst 0, 1) := dr_dd nD_M_isDue_1 6 rfl
theorem d_M_isDue_75 : decode prog_6_method_21_code 75 = .ok (.ireturn, 1) := dr_dd nD_M_isDue_1 7 rfl
abbrev nL_M_look_0 : List (Nat × Instr × Nat) := [(0, .iconst 0, 1), (1, .istore_n 2, 1), (2, .iconst 1, 1), (3, .istore_n 3, 1), (4, .iload_n 3, 1), (5, .bipush 41, 2), (7, .if_icmp .ge 64, 3), (10, .iload_n 1, 1), (11, .bipush 41, 2), (13, .imul, 1), (14, .iload_n 3, 1), (15, .iadd, 1), (16, .istore 4, 2), (18, .aload_n 0, 1), (19, .getfield 17, 3), (22, .iload 4, 2), (24, .baload, 1), (25, .ifCond .eq 40, 3), (28, .aload_n 0, 1), (29, .getfield 60, 3), (32, .iload 4, 2), (34, .iaload, 1), (35, .ifCond .ge 30, 3), (38, .aload_n 0, 1), (39, .iload_n 1, 1), (40, .iload_n 3, 1), (41, .invokevirtual 157, 3), (44, .ifCond .ne 6, 3), (47, .goto 18, 3), (50, .aload_n 0, 1), (51, .getfield 60, 3), (54, .iload 4, 2), (56, .aload_n 0, 1), (57, .iload_n 1, 1), (58, .invokevirtual 150, 3), (61, .iastore, 1), (62, .iinc 2 1, 3), (65, .iinc 3 1, 3), (68, .goto (-64), 3), (71, .iload_n 2, 1)]
theorem nD_M_look_0 : ∀ q ∈ nL_M_look_0, decode prog_6_method_22_code q.1 = .ok (q.2.1, q.2.2) := by decide +kernel
theorem d_M_look_0 : decode prog_6_method_22_code 0 = .ok (.iconst 0, 1) := dr_dd nD_M_look_0 0 rfl
theorem d_M_look_1 : decode prog_6_method_22_code 1 = .ok (.istore_n 2, 1) := dr_dd nD_M_look_0 1 rfl
theorem d_M_look_2 : decode prog_6_method_22_code 2 = .ok (.iconst 1, 1) := dr_dd nD_M_look_0 2 rfl
theorem d_M_look_3 : decode prog_6_method_22_code 3 = .ok (.istore_n 3, 1) := dr_dd nD_M_look_0 3 rfl
theorem d_M_look_4 : decode prog_6_method_22_code 4 = .ok (.iload_n 3, 1) := dr_dd nD_M_look_0 4 rfl
theorem d_M_look_5 : decode prog_6_method_22_code 5 = .ok (.bipush 41, 2) := dr_dd nD_M_look_0 5 rfl
theorem d_M_look_7 : decode prog_6_method_22_code 7 = .ok (.if_icmp .ge 64, 3) := dr_dd nD_M_look_0 6 rfl
theorem d_M_look_10 : decode prog_6_method_22_code 10 = .ok (.iload_n 1, 1) := dr_dd nD_M_look_0 7 rfl
theorem d_M_look_11 : decode prog_6_method_22_code 11 = .ok (.bipush 41, 2) := dr_dd nD_M_look_0 8 rfl
theorem d_M_look_13 : decode prog_6_method_22_code 13 = .ok (.imul, 1) := dr_dd nD_M_look_0 9 rfl
theorem d_M_look_14 : decode prog_6_method_22_code 14 = .ok (.iload_n 3, 1) := dr_dd nD_M_look_0 10 rfl
theorem d_M_look_15 : decode prog_6_method_22_code 15 = .ok (.iadd, 1) := dr_dd nD_M_look_0 11 rfl
theorem d_M_look_16 : decode prog_6_method_22_code 16 = .ok (.istore 4, 2) := dr_dd nD_M_look_0 12 rfl
theorem d_M_look_18 : decode prog_6_method_22_code 18 = .ok (.aload_n 0, 1) := dr_dd nD_M_look_0 13 rfl
theorem d_M_look_19 : decode prog_6_method_22_code 19 = .ok (.getfield 17, 3) := dr_dd nD_M_look_0 14 rfl
theorem d_M_look_22 : decode prog_6_method_22_code 22 = .ok (.iload 4, 2) := dr_dd nD_M_look_0 15 rfl
theorem d_M_look_24 : decode prog_6_method_22_code 24 = .ok (.baload, 1) := dr_dd nD_M_look_0 16 rfl
theorem d_M_look_25 : decode prog_6_method_22_code 25 = .ok (.ifCond .eq 40, 3) := dr_dd nD_M_look_0 17 rfl
theorem d_M_look_28 : decode prog_6_method_22_code 28 = .ok (.aload_n 0, 1) := dr_dd nD_M_look_0 18 rfl
theorem d_M_look_29 : decode prog_6_method_22_code 29 = .ok (.getfield 60, 3) := dr_dd nD_M_look_0 19 rfl
theorem d_M_look_32 : decode prog_6_method_22_code 32 = .ok (.iload 4, 2) := dr_dd nD_M_look_0 20 rfl
theorem d_M_look_34 : decode prog_6_method_22_code 34 = .ok (.iaload, 1) := dr_dd nD_M_look_0 21 rfl
theorem d_M_look_35 : decode prog_6_method_22_code 35 = .ok (.ifCond .ge 30, 3) := dr_dd nD_M_look_0 22 rfl
theorem d_M_look_38 : decode prog_6_method_22_code 38 = .ok (.aload_n 0, 1) := dr_dd nD_M_look_0 23 rfl
theorem d_M_look_39 : decode prog_6_method_22_code 39 = .ok (.iload_n 1, 1) := dr_dd nD_M_look_0 24 rfl
theorem d_M_look_40 : decode prog_6_method_22_code 40 = .ok (.iload_n 3, 1) := dr_dd nD_M_look_0 25 rfl
theorem d_M_look_41 : decode prog_6_method_22_code 41 = .ok (.invokevirtual 157, 3) := dr_dd nD_M_look_0 26 rfl
theorem d_M_look_44 : decode prog_6_method_22_code 44 = .ok (.ifCond .ne 6, 3) := dr_dd nD_M_look_0 27 rfl
theorem d_M_look_47 : decode prog_6_method_22_code 47 = .ok (.goto 18, 3) := dr_dd nD_M_look_0 28 rfl
theorem d_M_look_50 : decode prog_6_method_22_code 50 = .ok (.aload_n 0, 1) := dr_dd nD_M_look_0 29 rfl
theorem d_M_look_51 : decode prog_6_method_22_code 51 = .ok (.getfield 60, 3) := dr_dd nD_M_look_0 30 rfl
theorem d_M_look_54 : decode prog_6_method_22_code 54 = .ok (.iload 4, 2) := dr_dd nD_M_look_0 31 rfl
theorem d_M_look_56 : decode prog_6_method_22_code 56 = .ok (.aload_n 0, 1) := dr_dd nD_M_look_0 32 rfl
theorem d_M_look_57 : decode prog_6_method_22_code 57 = .ok (.iload_n 1, 1) := dr_dd nD_M_look_0 33 rfl
theorem d_M_look_58 : decode prog_6_method_22_code 58 = .ok (.invokevirtual 150, 3) := dr_dd nD_M_look_0 34 rfl
theorem d_M_look_61 : decode prog_6_method_22_code 61 = .ok (.iastore, 1) := dr_dd nD_M_look_0 35 rfl
theorem d_M_look_62 : decode prog_6_method_22_code 62 = .ok (.iinc 2 1, 3) := dr_dd nD_M_look_0 36 rfl
theorem d_M_look_65 : decode prog_6_method_22_code 65 = .ok (.iinc 3 1, 3) := dr_dd nD_M_look_0 37 rfl
theorem d_M_look_68 : decode prog_6_method_22_code 68 = .ok (.goto (-64), 3) := dr_dd nD_M_look_0 38 rfl
theorem d_M_look_71 : decode prog_6_method_22_code 71 = .ok (.iload_n 2, 1) := dr_dd nD_M_look_0 39 rfl
abbrev nL_M_look_1 : List (Nat × Instr × Nat) := [(72, .ireturn, 1)]
theorem nD_M_look_1 : ∀ q ∈ nL_M_look_1, decode prog_6_method_22_code q.1 = .ok (q.2.1, q.2.2) := by decide +kernel
theorem d_M_look_72 : decode prog_6_method_22_code 72 = .ok (.ireturn, 1) := dr_dd nD_M_look_1 0 rfl
abbrev nL_M_begin_0 : List (Nat × Instr × Nat) := [(0, .aload_n 0, 1), (1, .aload_n 0, 1), (2, .bipush 8, 2), (4, .invokevirtual 143, 3), (7, .ifCond .le 7, 3), (10, .iconst 1, 1), (11, .goto 4, 3), (14, .iconst 0, 1), (15, .aload_n 0, 1), (16, .getfield 161, 3), (19, .bipush 8, 2), (21, .if_icmp .ge 7, 3), (24, .iconst 1, 1), (25, .goto 4, 3), (28, .iconst 0, 1), (29, .iconst 1, 1), (30, .invokevirtual 97, 3), (33, .ifCond .ne 5, 3), (36, .iconst 0, 1), (37, .ireturn, 1), (38, .aload_n 0, 1), (39, .bipush 8, 2), (41, .aload_n 0, 1), (42, .getfield 161, 3), (45, .invokevirtual 139, 3), (48, .aload_n 0, 1), (49, .getfield 54, 3), (52, .aload_n 0, 1), (53, .getfield 161, 3), (56, .aload_n 0, 1), (57, .getfield 147, 3), (60, .iastore, 1), (61, .iconst 0, 1), (62, .istore_n 1, 1), (63, .iload_n 1, 1), (64, .bipush 41, 2), (66, .if_icmp .ge 24, 3), (69, .aload_n 0, 1), (70, .getfield 60, 3), (73, .aload_n 0, 1)]
theorem nD_M_begin_0 : ∀ q ∈ nL_M_begin_0, decode prog_6_method_23_code q.1 = .ok (q.2.1, q.2.2) := by decide +kernel
theorem d_M_begin_0 : decode prog_6_method_23_code 0 = .ok (.aload_n 0, 1) := dr_dd nD_M_begin_0 0 rfl
theorem d_M_begin_1 : decode prog_6_method_23_code 1 = .ok (.aload_n 0, 1) := dr_dd nD_M_begin_0 1 rfl
theorem d_M_begin_2 : decode prog_6_method_23_code 2 = .ok (.bipush 8, 2) := dr_dd nD_M_begin_0 2 rfl
theorem d_M_begin_4 : decode prog_6_method_23_code 4 = .ok (.invokevirtual 143, 3) := dr_dd nD_M_begin_0 3 rfl
theorem d_M_begin_7 : decode prog_6_method_23_code 7 = .ok (.ifCond .le 7, 3) := dr_dd nD_M_begin_0 4 rfl
theorem d_M_begin_10 : decode prog_6_method_23_code 10 = .ok (.iconst 1, 1) := dr_dd nD_M_begin_0 5 rfl
theorem d_M_begin_11 : decode prog_6_method_23_code 11 = .ok (.goto 4, 3) := dr_dd nD_M_begin_0 6 rfl
theorem d_M_begin_14 : decode prog_6_method_23_code 14 = .ok (.iconst 0, 1) := dr_dd nD_M_begin_0 7 rfl
theorem d_M_begin_15 : decode prog_6_method_23_code 15 = .ok (.aload_n 0, 1) := dr_dd nD_M_begin_0 8 rfl
theorem d_M_begin_16 : decode prog_6_method_23_code 16 = .ok (.getfield 161, 3) := dr_dd nD_M_begin_0 9 rfl
theorem d_M_begin_19 : decode prog_6_method_23_code 19 = .ok (.bipush 8, 2) := dr_dd nD_M_begin_0 10 rfl
theorem d_M_begin_21 : decode prog_6_method_23_code 21 = .ok (.if_icmp .ge 7, 3) := dr_dd nD_M_begin_0 11 rfl
theorem d_M_begin_24 : decode prog_6_method_23_code 24 = .ok (.iconst 1, 1) := dr_dd nD_M_begin_0 12 rfl
theorem d_M_begin_25 : decode prog_6_method_23_code 25 = .ok (.goto 4, 3) := dr_dd nD_M_begin_0 13 rfl
theorem d_M_begin_28 : decode prog_6_method_23_code 28 = .ok (.iconst 0, 1) := dr_dd nD_M_begin_0 14 rfl
theorem d_M_begin_29 : decode prog_6_method_23_code 29 = .ok (.iconst 1, 1) := dr_dd nD_M_begin_0 15 rfl
theorem d_M_begin_30 : decode prog_6_method_23_code 30 = .ok (.invokevirtual 97, 3) := dr_dd nD_M_begin_0 16 rfl
theorem d_M_begin_33 : decode prog_6_method_23_code 33 = .ok (.ifCond .ne 5, 3) := dr_dd nD_M_begin_0 17 rfl
theorem d_M_begin_36 : decode prog_6_method_23_code 36 = .ok (.iconst 0, 1) := dr_dd nD_M_begin_0 18 rfl
theorem d_M_begin_37 : decode prog_6_method_23_code 37 = .ok (.ireturn, 1) := dr_dd nD_M_begin_0 19 rfl
theorem d_M_begin_38 : decode prog_6_method_23_code 38 = .ok (.aload_n 0, 1) := dr_dd nD_M_begin_0 20 rfl
theorem d_M_begin_39 : decode prog_6_method_23_code 39 = .ok (.bipush 8, 2) := dr_dd nD_M_begin_0 21 rfl
theorem d_M_begin_41 : decode prog_6_method_23_code 41 = .ok (.aload_n 0, 1) := dr_dd nD_M_begin_0 22 rfl
theorem d_M_begin_42 : decode prog_6_method_23_code 42 = .ok (.getfield 161, 3) := dr_dd nD_M_begin_0 23 rfl
theorem d_M_begin_45 : decode prog_6_method_23_code 45 = .ok (.invokevirtual 139, 3) := dr_dd nD_M_begin_0 24 rfl
theorem d_M_begin_48 : decode prog_6_method_23_code 48 = .ok (.aload_n 0, 1) := dr_dd nD_M_begin_0 25 rfl
theorem d_M_begin_49 : decode prog_6_method_23_code 49 = .ok (.getfield 54, 3) := dr_dd nD_M_begin_0 26 rfl
theorem d_M_begin_52 : decode prog_6_method_23_code 52 = .ok (.aload_n 0, 1) := dr_dd nD_M_begin_0 27 rfl
theorem d_M_begin_53 : decode prog_6_method_23_code 53 = .ok (.getfield 161, 3) := dr_dd nD_M_begin_0 28 rfl
theorem d_M_begin_56 : decode prog_6_method_23_code 56 = .ok (.aload_n 0, 1) := dr_dd nD_M_begin_0 29 rfl
theorem d_M_begin_57 : decode prog_6_method_23_code 57 = .ok (.getfield 147, 3) := dr_dd nD_M_begin_0 30 rfl
theorem d_M_begin_60 : decode prog_6_method_23_code 60 = .ok (.iastore, 1) := dr_dd nD_M_begin_0 31 rfl
theorem d_M_begin_61 : decode prog_6_method_23_code 61 = .ok (.iconst 0, 1) := dr_dd nD_M_begin_0 32 rfl
theorem d_M_begin_62 : decode prog_6_method_23_code 62 = .ok (.istore_n 1, 1) := dr_dd nD_M_begin_0 33 rfl
theorem d_M_begin_63 : decode prog_6_method_23_code 63 = .ok (.iload_n 1, 1) := dr_dd nD_M_begin_0 34 rfl
theorem d_M_begin_64 : decode prog_6_method_23_code 64 = .ok (.bipush 41, 2) := dr_dd nD_M_begin_0 35 rfl
theorem d_M_begin_66 : decode prog_6_method_23_code 66 = .ok (.if_icmp .ge 24, 3) := dr_dd nD_M_begin_0 36 rfl
theorem d_M_begin_69 : decode prog_6_method_23_code 69 = .ok (.aload_n 0, 1) := dr_dd nD_M_begin_0 37 rfl
theorem d_M_begin_70 : decode prog_6_method_23_code 70 = .ok (.getfield 60, 3) := dr_dd nD_M_begin_0 38 rfl
theorem d_M_begin_73 : decode prog_6_method_23_code 73 = .ok (.aload_n 0, 1) := dr_dd nD_M_begin_0 39 rfl
abbrev nL_M_begin_1 : List (Nat × Instr × Nat) := [(74, .getfield 161, 3), (77, .bipush 41, 2), (79, .imul, 1), (80, .iload_n 1, 1), (81, .iadd, 1), (82, .iconst (-1), 1), (83, .iastore, 1), (84, .iinc 1 1, 3), (87, .goto (-24), 3), (90, .aload_n 0, 1), (91, .dup, 1), (92, .getfield 161, 3), (95, .iconst 1, 1), (96, .iadd, 1), (97, .putfield 161, 3), (100, .aload_n 0, 1), (101, .aload_n 0, 1), (102, .getfield 161, 3), (105, .iconst 1, 1), (106, .isub, 1), (107, .invokevirtual 164, 3), (110, .pop, 1), (111, .aload_n 0, 1), (112, .getfield 161, 3), (115, .iconst 1, 1), (116, .isub, 1), (117, .ireturn, 1)]
theorem nD_M_begin_1 : ∀ q ∈ nL_M_begin_1, decode prog_6_method_23_code q.1 = .ok (q.2.1, q.2.2) := by decide +kernel
theorem d_M_begin_74 : decode prog_6_method_23_code 74 = .ok (.getfield 161, 3) := dr_dd nD_M_begin_1 0 rfl
theorem d_M_begin_77 : decode prog_6_method_23_code 77 = .ok (.bipush 41, 2) := dr_dd nD_M_begin_1 1 rfl
theorem d_M_begin_79 : decode prog_6_method_23_code 79 = .ok (.imul, 1) := dr_dd nD_M_begin_1 2 rfl
theorem d_M_begin_80 : decode prog_6_method_23_code 80 = .ok (.iload_n 1, 1) := dr_dd nD_M_begin_1 3 rfl
theorem d_M_begin_81 : decode prog_6_method_23_code 81 = .ok (.iadd, 1) := dr_dd nD_M_begin_1 4 rfl
theorem d_M_begin_82 : decode prog_6_method_23_code 82 = .ok (.iconst (-1), 1) := dr_dd nD_M_begin_1 5 rfl
theorem d_M_begin_83 : decode prog_6_method_23_code 83 = .ok (.iastore, 1) := dr_dd nD_M_begin_1 6 rfl
theorem d_M_begin_84 : decode prog_6_method_23_code 84 = .ok (.iinc 1 1, 3) := dr_dd nD_M_begin_1 7 rfl
theorem d_M_begin_87 : decode prog_6_method_23_code 87 = .ok (.goto (-24), 3) := dr_dd nD_M_begin_1 8 rfl
theorem d_M_begin_90 : decode prog_6_method_23_code 90 = .ok (.aload_n 0, 1) := dr_dd nD_M_begin_1 9 rfl
theorem d_M_begin_91 : decode prog_6_method_23_code 91 = .ok (.dup, 1) := dr_dd nD_M_begin_1 10 rfl
theorem d_M_begin_92 : decode prog_6_method_23_code 92 = .ok (.getfield 161, 3) := dr_dd nD_M_begin_1 11 rfl
theorem d_M_begin_95 : decode prog_6_method_23_code 95 = .ok (.iconst 1, 1) := dr_dd nD_M_begin_1 12 rfl
theorem d_M_begin_96 : decode prog_6_method_23_code 96 = .ok (.iadd, 1) := dr_dd nD_M_begin_1 13 rfl
theorem d_M_begin_97 : decode prog_6_method_23_code 97 = .ok (.putfield 161, 3) := dr_dd nD_M_begin_1 14 rfl
theorem d_M_begin_100 : decode prog_6_method_23_code 100 = .ok (.aload_n 0, 1) := dr_dd nD_M_begin_1 15 rfl
theorem d_M_begin_101 : decode prog_6_method_23_code 101 = .ok (.aload_n 0, 1) := dr_dd nD_M_begin_1 16 rfl
theorem d_M_begin_102 : decode prog_6_method_23_code 102 = .ok (.getfield 161, 3) := dr_dd nD_M_begin_1 17 rfl
theorem d_M_begin_105 : decode prog_6_method_23_code 105 = .ok (.iconst 1, 1) := dr_dd nD_M_begin_1 18 rfl
theorem d_M_begin_106 : decode prog_6_method_23_code 106 = .ok (.isub, 1) := dr_dd nD_M_begin_1 19 rfl
theorem d_M_begin_107 : decode prog_6_method_23_code 107 = .ok (.invokevirtual 164, 3) := dr_dd nD_M_begin_1 20 rfl
theorem d_M_begin_110 : decode prog_6_method_23_code 110 = .ok (.pop, 1) := dr_dd nD_M_begin_1 21 rfl
theorem d_M_begin_111 : decode prog_6_method_23_code 111 = .ok (.aload_n 0, 1) := dr_dd nD_M_begin_1 22 rfl
theorem d_M_begin_112 : decode prog_6_method_23_code 112 = .ok (.getfield 161, 3) := dr_dd nD_M_begin_1 23 rfl
theorem d_M_begin_115 : decode prog_6_method_23_code 115 = .ok (.iconst 1, 1) := dr_dd nD_M_begin_1 24 rfl
theorem d_M_begin_116 : decode prog_6_method_23_code 116 = .ok (.isub, 1) := dr_dd nD_M_begin_1 25 rfl
theorem d_M_begin_117 : decode prog_6_method_23_code 117 = .ok (.ireturn, 1) := dr_dd nD_M_begin_1 26 rfl
abbrev nL_M_isDrill_0 : List (Nat × Instr × Nat) := [(0, .iload_n 1, 1), (1, .iconst 0, 1), (2, .aload_n 0, 1), (3, .getfield 161, 3), (6, .iconst 1, 1), (7, .isub, 1), (8, .invokestatic 90, 3), (11, .ireturn, 1)]
theorem nD_M_isDrill_0 : ∀ q ∈ nL_M_isDrill_0, decode prog_6_method_24_code q.1 = .ok (q.2.1, q.2.2) := by decide +kernel
theorem d_M_isDrill_0 : decode prog_6_method_24_code 0 = .ok (.iload_n 1, 1) := dr_dd nD_M_isDrill_0 0 rfl
theorem d_M_isDrill_1 : decode prog_6_method_24_code 1 = .ok (.iconst 0, 1) := dr_dd nD_M_isDrill_0 1 rfl
theorem d_M_isDrill_2 : decode prog_6_method_24_code 2 = .ok (.aload_n 0, 1) := dr_dd nD_M_isDrill_0 2 rfl
theorem d_M_isDrill_3 : decode prog_6_method_24_code 3 = .ok (.getfield 161, 3) := dr_dd nD_M_isDrill_0 3 rfl
theorem d_M_isDrill_6 : decode prog_6_method_24_code 6 = .ok (.iconst 1, 1) := dr_dd nD_M_isDrill_0 4 rfl
theorem d_M_isDrill_7 : decode prog_6_method_24_code 7 = .ok (.isub, 1) := dr_dd nD_M_isDrill_0 5 rfl
theorem d_M_isDrill_8 : decode prog_6_method_24_code 8 = .ok (.invokestatic 90, 3) := dr_dd nD_M_isDrill_0 6 rfl
theorem d_M_isDrill_11 : decode prog_6_method_24_code 11 = .ok (.ireturn, 1) := dr_dd nD_M_isDrill_0 7 rfl
abbrev nL_M_stop_0 : List (Nat × Instr × Nat) := [(0, .aload_n 0, 1), (1, .aload_n 0, 1), (2, .iload_n 1, 1), (3, .invokevirtual 167, 3), (6, .aload_n 0, 1), (7, .iload_n 1, 1), (8, .invokevirtual 167, 3), (11, .ifCond .eq 16, 3), (14, .aload_n 0, 1), (15, .getfield 57, 3), (18, .iload_n 1, 1), (19, .baload, 1), (20, .ifCond .ne 7, 3), (23, .iconst 1, 1), (24, .goto 4, 3), (27, .iconst 0, 1), (28, .iconst 1, 1), (29, .invokevirtual 97, 3), (32, .ifCond .ne 4, 3), (35, .return_, 1), (36, .aload_n 0, 1), (37, .getfield 57, 3), (40, .iload_n 1, 1), (41, .iconst 1, 1), (42, .bastore, 1), (43, .iconst 0, 1), (44, .istore_n 2, 1), (45, .iload_n 2, 1), (46, .bipush 20, 2), (48, .if_icmp .ge 26, 3), (51, .aload_n 0, 1), (52, .getfield 72, 3), (55, .iload_n 2, 1), (56, .iaload, 1), (57, .iload_n 1, 1), (58, .if_icmp .ne 10, 3), (61, .aload_n 0, 1), (62, .getfield 72, 3), (65, .iload_n 2, 1), (66, .iconst (-1), 1)]
theorem nD_M_stop_0 : ∀ q ∈ nL_M_stop_0, decode prog_6_method_25_code q.1 = .ok (q.2.1, q.2.2) := by decide +kernel
theorem d_M_stop_0 : decode prog_6_method_25_code 0 = .ok (.aload_n 0, 1) := dr_dd nD_M_stop_0 0 rfl
theorem d_M_stop_1 : decode prog_6_method_25_code 1 = .ok (.aload_n 0, 1) := dr_dd nD_M_stop_0 1 rfl
theorem d_M_stop_2 : decode prog_6_method_25_code 2 = .ok (.iload_n 1, 1) := dr_dd nD_M_stop_0 2 rfl
theorem d_M_stop_3 : decode prog_6_method_25_code 3 = .ok (.invokevirtual 167, 3) := dr_dd nD_M_stop_0 3 rfl
theorem d_M_stop_6 : decode prog_6_method_25_code 6 = .ok (.aload_n 0, 1) := dr_dd nD_M_stop_0 4 rfl
theorem d_M_stop_7 : decode prog_6_method_25_code 7 = .ok (.iload_n 1, 1) := dr_dd nD_M_stop_0 5 rfl
theorem d_M_stop_8 : decode prog_6_method_25_code 8 = .ok (.invokevirtual 167, 3) := dr_dd nD_M_stop_0 6 rfl
theorem d_M_stop_11 : decode prog_6_method_25_code 11 = .ok (.ifCond .eq 16, 3) := dr_dd nD_M_stop_0 7 rfl
theorem d_M_stop_14 : decode prog_6_method_25_code 14 = .ok (.aload_n 0, 1) := dr_dd nD_M_stop_0 8 rfl
theorem d_M_stop_15 : decode prog_6_method_25_code 15 = .ok (.getfield 57, 3) := dr_dd nD_M_stop_0 9 rfl
theorem d_M_stop_18 : decode prog_6_method_25_code 18 = .ok (.iload_n 1, 1) := dr_dd nD_M_stop_0 10 rfl
theorem d_M_stop_19 : decode prog_6_method_25_code 19 = .ok (.baload, 1) := dr_dd nD_M_stop_0 11 rfl
theorem d_M_stop_20 : decode prog_6_method_25_code 20 = .ok (.ifCond .ne 7, 3) := dr_dd nD_M_stop_0 12 rfl
theorem d_M_stop_23 : decode prog_6_method_25_code 23 = .ok (.iconst 1, 1) := dr_dd nD_M_stop_0 13 rfl
theorem d_M_stop_24 : decode prog_6_method_25_code 24 = .ok (.goto 4, 3) := dr_dd nD_M_stop_0 14 rfl
theorem d_M_stop_27 : decode prog_6_method_25_code 27 = .ok (.iconst 0, 1) := dr_dd nD_M_stop_0 15 rfl
theorem d_M_stop_28 : decode prog_6_method_25_code 28 = .ok (.iconst 1, 1) := dr_dd nD_M_stop_0 16 rfl
theorem d_M_stop_29 : decode prog_6_method_25_code 29 = .ok (.invokevirtual 97, 3) := dr_dd nD_M_stop_0 17 rfl
theorem d_M_stop_32 : decode prog_6_method_25_code 32 = .ok (.ifCond .ne 4, 3) := dr_dd nD_M_stop_0 18 rfl
theorem d_M_stop_35 : decode prog_6_method_25_code 35 = .ok (.return_, 1) := dr_dd nD_M_stop_0 19 rfl
theorem d_M_stop_36 : decode prog_6_method_25_code 36 = .ok (.aload_n 0, 1) := dr_dd nD_M_stop_0 20 rfl
theorem d_M_stop_37 : decode prog_6_method_25_code 37 = .ok (.getfield 57, 3) := dr_dd nD_M_stop_0 21 rfl
theorem d_M_stop_40 : decode prog_6_method_25_code 40 = .ok (.iload_n 1, 1) := dr_dd nD_M_stop_0 22 rfl
theorem d_M_stop_41 : decode prog_6_method_25_code 41 = .ok (.iconst 1, 1) := dr_dd nD_M_stop_0 23 rfl
theorem d_M_stop_42 : decode prog_6_method_25_code 42 = .ok (.bastore, 1) := dr_dd nD_M_stop_0 24 rfl
theorem d_M_stop_43 : decode prog_6_method_25_code 43 = .ok (.iconst 0, 1) := dr_dd nD_M_stop_0 25 rfl
theorem d_M_stop_44 : decode prog_6_method_25_code 44 = .ok (.istore_n 2, 1) := dr_dd nD_M_stop_0 26 rfl
theorem d_M_stop_45 : decode prog_6_method_25_code 45 = .ok (.iload_n 2, 1) := dr_dd nD_M_stop_0 27 rfl
theorem d_M_stop_46 : decode prog_6_method_25_code 46 = .ok (.bipush 20, 2) := dr_dd nD_M_stop_0 28 rfl
theorem d_M_stop_48 : decode prog_6_method_25_code 48 = .ok (.if_icmp .ge 26, 3) := dr_dd nD_M_stop_0 29 rfl
theorem d_M_stop_51 : decode prog_6_method_25_code 51 = .ok (.aload_n 0, 1) := dr_dd nD_M_stop_0 30 rfl
theorem d_M_stop_52 : decode prog_6_method_25_code 52 = .ok (.getfield 72, 3) := dr_dd nD_M_stop_0 31 rfl
theorem d_M_stop_55 : decode prog_6_method_25_code 55 = .ok (.iload_n 2, 1) := dr_dd nD_M_stop_0 32 rfl
theorem d_M_stop_56 : decode prog_6_method_25_code 56 = .ok (.iaload, 1) := dr_dd nD_M_stop_0 33 rfl
theorem d_M_stop_57 : decode prog_6_method_25_code 57 = .ok (.iload_n 1, 1) := dr_dd nD_M_stop_0 34 rfl
theorem d_M_stop_58 : decode prog_6_method_25_code 58 = .ok (.if_icmp .ne 10, 3) := dr_dd nD_M_stop_0 35 rfl
theorem d_M_stop_61 : decode prog_6_method_25_code 61 = .ok (.aload_n 0, 1) := dr_dd nD_M_stop_0 36 rfl
theorem d_M_stop_62 : decode prog_6_method_25_code 62 = .ok (.getfield 72, 3) := dr_dd nD_M_stop_0 37 rfl
theorem d_M_stop_65 : decode prog_6_method_25_code 65 = .ok (.iload_n 2, 1) := dr_dd nD_M_stop_0 38 rfl
theorem d_M_stop_66 : decode prog_6_method_25_code 66 = .ok (.iconst (-1), 1) := dr_dd nD_M_stop_0 39 rfl
abbrev nL_M_stop_1 : List (Nat × Instr × Nat) := [(67, .iastore, 1), (68, .iinc 2 1, 3), (71, .goto (-26), 3), (74, .return_, 1)]
theorem nD_M_stop_1 : ∀ q ∈ nL_M_stop_1, decode prog_6_method_25_code q.1 = .ok (q.2.1, q.2.2) := by decide +kernel
theorem d_M_stop_67 : decode prog_6_method_25_code 67 = .ok (.iastore, 1) := dr_dd nD_M_stop_1 0 rfl
theorem d_M_stop_68 : decode prog_6_method_25_code 68 = .ok (.iinc 2 1, 3) := dr_dd nD_M_stop_1 1 rfl
theorem d_M_stop_71 : decode prog_6_method_25_code 71 = .ok (.goto (-26), 3) := dr_dd nD_M_stop_1 2 rfl
theorem d_M_stop_74 : decode prog_6_method_25_code 74 = .ok (.return_, 1) := dr_dd nD_M_stop_1 3 rfl
abbrev nL_M_unit_0 : List (Nat × Instr × Nat) := [(0, .aload_n 0, 1), (1, .iload_n 1, 1), (2, .invokevirtual 167, 3), (5, .ifCond .eq 17, 3), (8, .iload_n 2, 1), (9, .iconst 0, 1), (10, .bipush 19, 2), (12, .invokestatic 90, 3), (15, .ifCond .eq 7, 3), (18, .iconst 1, 1), (19, .goto 4, 3), (22, .iconst 0, 1), (23, .istore_n 3, 1), (24, .aload_n 0, 1), (25, .iload_n 3, 1), (26, .iload_n 3, 1), (27, .ifCond .eq 25, 3), (30, .aload_n 0, 1), (31, .getfield 57, 3), (34, .iload_n 1, 1), (35, .baload, 1), (36, .ifCond .ne 16, 3), (39, .aload_n 0, 1), (40, .getfield 72, 3), (43, .iload_n 2, 1), (44, .iaload, 1), (45, .ifCond .ge 7, 3), (48, .iconst 1, 1), (49, .goto 4, 3), (52, .iconst 0, 1), (53, .iconst 1, 1), (54, .invokevirtual 97, 3), (57, .ifCond .eq 10, 3), (60, .aload_n 0, 1), (61, .getfield 72, 3), (64, .iload_n 2, 1), (65, .iload_n 1, 1), (66, .iastore, 1), (67, .return_, 1)]
theorem nD_M_unit_0 : ∀ q ∈ nL_M_unit_0, decode prog_6_method_26_code q.1 = .ok (q.2.1, q.2.2) := by decide +kernel
theorem d_M_unit_0 : decode prog_6_method_26_code 0 = .ok (.aload_n 0, 1) := dr_dd nD_M_unit_0 0 rfl
theorem d_M_unit_1 : decode prog_6_method_26_code 1 = .ok (.iload_n 1, 1) := dr_dd nD_M_unit_0 1 rfl
theorem d_M_unit_2 : decode prog_6_method_26_code 2 = .ok (.invokevirtual 167, 3) := dr_dd nD_M_unit_0 2 rfl
theorem d_M_unit_5 : decode prog_6_method_26_code 5 = .ok (.ifCond .eq 17, 3) := dr_dd nD_M_unit_0 3 rfl
theorem d_M_unit_8 : decode prog_6_method_26_code 8 = .ok (.iload_n 2, 1) := dr_dd nD_M_unit_0 4 rfl
theorem d_M_unit_9 : decode prog_6_method_26_code 9 = .ok (.iconst 0, 1) := dr_dd nD_M_unit_0 5 rfl
theorem d_M_unit_10 : decode prog_6_method_26_code 10 = .ok (.bipush 19, 2) := dr_dd nD_M_unit_0 6 rfl
theorem d_M_unit_12 : decode prog_6_method_26_code 12 = .ok (.invokestatic 90, 3) := dr_dd nD_M_unit_0 7 rfl
theorem d_M_unit_15 : decode prog_6_method_26_code 15 = .ok (.ifCond .eq 7, 3) := dr_dd nD_M_unit_0 8 rfl
theorem d_M_unit_18 : decode prog_6_method_26_code 18 = .ok (.iconst 1, 1) := dr_dd nD_M_unit_0 9 rfl
theorem d_M_unit_19 : decode prog_6_method_26_code 19 = .ok (.goto 4, 3) := dr_dd nD_M_unit_0 10 rfl
theorem d_M_unit_22 : decode prog_6_method_26_code 22 = .ok (.iconst 0, 1) := dr_dd nD_M_unit_0 11 rfl
theorem d_M_unit_23 : decode prog_6_method_26_code 23 = .ok (.istore_n 3, 1) := dr_dd nD_M_unit_0 12 rfl
theorem d_M_unit_24 : decode prog_6_method_26_code 24 = .ok (.aload_n 0, 1) := dr_dd nD_M_unit_0 13 rfl
theorem d_M_unit_25 : decode prog_6_method_26_code 25 = .ok (.iload_n 3, 1) := dr_dd nD_M_unit_0 14 rfl
theorem d_M_unit_26 : decode prog_6_method_26_code 26 = .ok (.iload_n 3, 1) := dr_dd nD_M_unit_0 15 rfl
theorem d_M_unit_27 : decode prog_6_method_26_code 27 = .ok (.ifCond .eq 25, 3) := dr_dd nD_M_unit_0 16 rfl
theorem d_M_unit_30 : decode prog_6_method_26_code 30 = .ok (.aload_n 0, 1) := dr_dd nD_M_unit_0 17 rfl
theorem d_M_unit_31 : decode prog_6_method_26_code 31 = .ok (.getfield 57, 3) := dr_dd nD_M_unit_0 18 rfl
theorem d_M_unit_34 : decode prog_6_method_26_code 34 = .ok (.iload_n 1, 1) := dr_dd nD_M_unit_0 19 rfl
theorem d_M_unit_35 : decode prog_6_method_26_code 35 = .ok (.baload, 1) := dr_dd nD_M_unit_0 20 rfl
theorem d_M_unit_36 : decode prog_6_method_26_code 36 = .ok (.ifCond .ne 16, 3) := dr_dd nD_M_unit_0 21 rfl
theorem d_M_unit_39 : decode prog_6_method_26_code 39 = .ok (.aload_n 0, 1) := dr_dd nD_M_unit_0 22 rfl
theorem d_M_unit_40 : decode prog_6_method_26_code 40 = .ok (.getfield 72, 3) := dr_dd nD_M_unit_0 23 rfl
theorem d_M_unit_43 : decode prog_6_method_26_code 43 = .ok (.iload_n 2, 1) := dr_dd nD_M_unit_0 24 rfl
theorem d_M_unit_44 : decode prog_6_method_26_code 44 = .ok (.iaload, 1) := dr_dd nD_M_unit_0 25 rfl
theorem d_M_unit_45 : decode prog_6_method_26_code 45 = .ok (.ifCond .ge 7, 3) := dr_dd nD_M_unit_0 26 rfl
theorem d_M_unit_48 : decode prog_6_method_26_code 48 = .ok (.iconst 1, 1) := dr_dd nD_M_unit_0 27 rfl
theorem d_M_unit_49 : decode prog_6_method_26_code 49 = .ok (.goto 4, 3) := dr_dd nD_M_unit_0 28 rfl
theorem d_M_unit_52 : decode prog_6_method_26_code 52 = .ok (.iconst 0, 1) := dr_dd nD_M_unit_0 29 rfl
theorem d_M_unit_53 : decode prog_6_method_26_code 53 = .ok (.iconst 1, 1) := dr_dd nD_M_unit_0 30 rfl
theorem d_M_unit_54 : decode prog_6_method_26_code 54 = .ok (.invokevirtual 97, 3) := dr_dd nD_M_unit_0 31 rfl
theorem d_M_unit_57 : decode prog_6_method_26_code 57 = .ok (.ifCond .eq 10, 3) := dr_dd nD_M_unit_0 32 rfl
theorem d_M_unit_60 : decode prog_6_method_26_code 60 = .ok (.aload_n 0, 1) := dr_dd nD_M_unit_0 33 rfl
theorem d_M_unit_61 : decode prog_6_method_26_code 61 = .ok (.getfield 72, 3) := dr_dd nD_M_unit_0 34 rfl
theorem d_M_unit_64 : decode prog_6_method_26_code 64 = .ok (.iload_n 2, 1) := dr_dd nD_M_unit_0 35 rfl
theorem d_M_unit_65 : decode prog_6_method_26_code 65 = .ok (.iload_n 1, 1) := dr_dd nD_M_unit_0 36 rfl
theorem d_M_unit_66 : decode prog_6_method_26_code 66 = .ok (.iastore, 1) := dr_dd nD_M_unit_0 37 rfl
theorem d_M_unit_67 : decode prog_6_method_26_code 67 = .ok (.return_, 1) := dr_dd nD_M_unit_0 38 rfl
abbrev nL_M_real_0 : List (Nat × Instr × Nat) := [(0, .aload_n 0, 1), (1, .iload_n 1, 1), (2, .iconst 0, 1), (3, .bipush 19, 2), (5, .invokestatic 90, 3), (8, .iconst 1, 1), (9, .iconst 1, 1), (10, .invokevirtual 97, 3), (13, .ifCond .ne 5, 3), (16, .iconst 0, 1), (17, .ireturn, 1), (18, .aload_n 0, 1), (19, .getfield 72, 3), (22, .iload_n 1, 1), (23, .iaload, 1), (24, .istore_n 2, 1), (25, .aload_n 0, 1), (26, .getfield 72, 3), (29, .iload_n 1, 1), (30, .iconst (-1), 1), (31, .iastore, 1), (32, .iload_n 2, 1), (33, .ireturn, 1)]
theorem nD_M_real_0 : ∀ q ∈ nL_M_real_0, decode prog_6_method_27_code q.1 = .ok (q.2.1, q.2.2) := by decide +kernel
theorem d_M_real_0 : decode prog_6_method_27_code 0 = .ok (.aload_n 0, 1) := dr_dd nD_M_real_0 0 rfl
theorem d_M_real_1 : decode prog_6_method_27_code 1 = .ok (.iload_n 1, 1) := dr_dd nD_M_real_0 1 rfl
theorem d_M_real_2 : decode prog_6_method_27_code 2 = .ok (.iconst 0, 1) := dr_dd nD_M_real_0 2 rfl
theorem d_M_real_3 : decode prog_6_method_27_code 3 = .ok (.bipush 19, 2) := dr_dd nD_M_real_0 3 rfl
theorem d_M_real_5 : decode prog_6_method_27_code 5 = .ok (.invokestatic 90, 3) := dr_dd nD_M_real_0 4 rfl
theorem d_M_real_8 : decode prog_6_method_27_code 8 = .ok (.iconst 1, 1) := dr_dd nD_M_real_0 5 rfl
theorem d_M_real_9 : decode prog_6_method_27_code 9 = .ok (.iconst 1, 1) := dr_dd nD_M_real_0 6 rfl
theorem d_M_real_10 : decode prog_6_method_27_code 10 = .ok (.invokevirtual 97, 3) := dr_dd nD_M_real_0 7 rfl
theorem d_M_real_13 : decode prog_6_method_27_code 13 = .ok (.ifCond .ne 5, 3) := dr_dd nD_M_real_0 8 rfl
theorem d_M_real_16 : decode prog_6_method_27_code 16 = .ok (.iconst 0, 1) := dr_dd nD_M_real_0 9 rfl
theorem d_M_real_17 : decode prog_6_method_27_code 17 = .ok (.ireturn, 1) := dr_dd nD_M_real_0 10 rfl
theorem d_M_real_18 : decode prog_6_method_27_code 18 = .ok (.aload_n 0, 1) := dr_dd nD_M_real_0 11 rfl
theorem d_M_real_19 : decode prog_6_method_27_code 19 = .ok (.getfield 72, 3) := dr_dd nD_M_real_0 12 rfl
theorem d_M_real_22 : decode prog_6_method_27_code 22 = .ok (.iload_n 1, 1) := dr_dd nD_M_real_0 13 rfl
theorem d_M_real_23 : decode prog_6_method_27_code 23 = .ok (.iaload, 1) := dr_dd nD_M_real_0 14 rfl
theorem d_M_real_24 : decode prog_6_method_27_code 24 = .ok (.istore_n 2, 1) := dr_dd nD_M_real_0 15 rfl
theorem d_M_real_25 : decode prog_6_method_27_code 25 = .ok (.aload_n 0, 1) := dr_dd nD_M_real_0 16 rfl
theorem d_M_real_26 : decode prog_6_method_27_code 26 = .ok (.getfield 72, 3) := dr_dd nD_M_real_0 17 rfl
theorem d_M_real_29 : decode prog_6_method_27_code 29 = .ok (.iload_n 1, 1) := dr_dd nD_M_real_0 18 rfl
theorem d_M_real_30 : decode prog_6_method_27_code 30 = .ok (.iconst (-1), 1) := dr_dd nD_M_real_0 19 rfl
theorem d_M_real_31 : decode prog_6_method_27_code 31 = .ok (.iastore, 1) := dr_dd nD_M_real_0 20 rfl
theorem d_M_real_32 : decode prog_6_method_27_code 32 = .ok (.iload_n 2, 1) := dr_dd nD_M_real_0 21 rfl
theorem d_M_real_33 : decode prog_6_method_27_code 33 = .ok (.ireturn, 1) := dr_dd nD_M_real_0 22 rfl
abbrev nL_M_does_0 : List (Nat × Instr × Nat) := [(0, .aload_n 0, 1), (1, .getfield 66, 3), (4, .iload_n 1, 1), (5, .bipush 60, 2), (7, .imul, 1), (8, .aload_n 0, 1), (9, .getfield 63, 3), (12, .iload_n 1, 1), (13, .iaload, 1), (14, .iadd, 1), (15, .iload_n 2, 1), (16, .iastore, 1), (17, .aload_n 0, 1), (18, .getfield 69, 3), (21, .iload_n 1, 1), (22, .bipush 60, 2), (24, .imul, 1), (25, .aload_n 0, 1), (26, .getfield 63, 3), (29, .iload_n 1, 1), (30, .iaload, 1), (31, .iadd, 1), (32, .aload_n 0, 1), (33, .iload_n 1, 1), (34, .invokevirtual 150, 3), (37, .iastore, 1), (38, .aload_n 0, 1), (39, .getfield 63, 3), (42, .iload_n 1, 1), (43, .dup2, 1), (44, .iaload, 1), (45, .iconst 1, 1), (46, .iadd, 1), (47, .iastore, 1), (48, .aload_n 0, 1), (49, .iload_n 1, 1), (50, .invokevirtual 164, 3), (53, .ireturn, 1)]
theorem nD_M_does_0 : ∀ q ∈ nL_M_does_0, decode prog_6_method_28_code q.1 = .ok (q.2.1, q.2.2) := by decide +kernel
theorem d_M_does_0 : decode prog_6_method_28_code 0 = .ok (.aload_n 0, 1) := dr_dd nD_M_does_0 0 rfl
theorem d_M_does_1 : decode prog_6_method_28_code 1 = .ok (.getfield 66, 3) := dr_dd nD_M_does_0 1 rfl
theorem d_M_does_4 : decode prog_6_method_28_code 4 = .ok (.iload_n 1, 1) := dr_dd nD_M_does_0 2 rfl
theorem d_M_does_5 : decode prog_6_method_28_code 5 = .ok (.bipush 60, 2) := dr_dd nD_M_does_0 3 rfl
theorem d_M_does_7 : decode prog_6_method_28_code 7 = .ok (.imul, 1) := dr_dd nD_M_does_0 4 rfl
theorem d_M_does_8 : decode prog_6_method_28_code 8 = .ok (.aload_n 0, 1) := dr_dd nD_M_does_0 5 rfl
theorem d_M_does_9 : decode prog_6_method_28_code 9 = .ok (.getfield 63, 3) := dr_dd nD_M_does_0 6 rfl
theorem d_M_does_12 : decode prog_6_method_28_code 12 = .ok (.iload_n 1, 1) := dr_dd nD_M_does_0 7 rfl
theorem d_M_does_13 : decode prog_6_method_28_code 13 = .ok (.iaload, 1) := dr_dd nD_M_does_0 8 rfl
theorem d_M_does_14 : decode prog_6_method_28_code 14 = .ok (.iadd, 1) := dr_dd nD_M_does_0 9 rfl
theorem d_M_does_15 : decode prog_6_method_28_code 15 = .ok (.iload_n 2, 1) := dr_dd nD_M_does_0 10 rfl
theorem d_M_does_16 : decode prog_6_method_28_code 16 = .ok (.iastore, 1) := dr_dd nD_M_does_0 11 rfl
theorem d_M_does_17 : decode prog_6_method_28_code 17 = .ok (.aload_n 0, 1) := dr_dd nD_M_does_0 12 rfl
theorem d_M_does_18 : decode prog_6_method_28_code 18 = .ok (.getfield 69, 3) := dr_dd nD_M_does_0 13 rfl
theorem d_M_does_21 : decode prog_6_method_28_code 21 = .ok (.iload_n 1, 1) := dr_dd nD_M_does_0 14 rfl
theorem d_M_does_22 : decode prog_6_method_28_code 22 = .ok (.bipush 60, 2) := dr_dd nD_M_does_0 15 rfl
theorem d_M_does_24 : decode prog_6_method_28_code 24 = .ok (.imul, 1) := dr_dd nD_M_does_0 16 rfl
theorem d_M_does_25 : decode prog_6_method_28_code 25 = .ok (.aload_n 0, 1) := dr_dd nD_M_does_0 17 rfl
theorem d_M_does_26 : decode prog_6_method_28_code 26 = .ok (.getfield 63, 3) := dr_dd nD_M_does_0 18 rfl
theorem d_M_does_29 : decode prog_6_method_28_code 29 = .ok (.iload_n 1, 1) := dr_dd nD_M_does_0 19 rfl
theorem d_M_does_30 : decode prog_6_method_28_code 30 = .ok (.iaload, 1) := dr_dd nD_M_does_0 20 rfl
theorem d_M_does_31 : decode prog_6_method_28_code 31 = .ok (.iadd, 1) := dr_dd nD_M_does_0 21 rfl
theorem d_M_does_32 : decode prog_6_method_28_code 32 = .ok (.aload_n 0, 1) := dr_dd nD_M_does_0 22 rfl
theorem d_M_does_33 : decode prog_6_method_28_code 33 = .ok (.iload_n 1, 1) := dr_dd nD_M_does_0 23 rfl
theorem d_M_does_34 : decode prog_6_method_28_code 34 = .ok (.invokevirtual 150, 3) := dr_dd nD_M_does_0 24 rfl
theorem d_M_does_37 : decode prog_6_method_28_code 37 = .ok (.iastore, 1) := dr_dd nD_M_does_0 25 rfl
theorem d_M_does_38 : decode prog_6_method_28_code 38 = .ok (.aload_n 0, 1) := dr_dd nD_M_does_0 26 rfl
theorem d_M_does_39 : decode prog_6_method_28_code 39 = .ok (.getfield 63, 3) := dr_dd nD_M_does_0 27 rfl
theorem d_M_does_42 : decode prog_6_method_28_code 42 = .ok (.iload_n 1, 1) := dr_dd nD_M_does_0 28 rfl
theorem d_M_does_43 : decode prog_6_method_28_code 43 = .ok (.dup2, 1) := dr_dd nD_M_does_0 29 rfl
theorem d_M_does_44 : decode prog_6_method_28_code 44 = .ok (.iaload, 1) := dr_dd nD_M_does_0 30 rfl
theorem d_M_does_45 : decode prog_6_method_28_code 45 = .ok (.iconst 1, 1) := dr_dd nD_M_does_0 31 rfl
theorem d_M_does_46 : decode prog_6_method_28_code 46 = .ok (.iadd, 1) := dr_dd nD_M_does_0 32 rfl
theorem d_M_does_47 : decode prog_6_method_28_code 47 = .ok (.iastore, 1) := dr_dd nD_M_does_0 33 rfl
theorem d_M_does_48 : decode prog_6_method_28_code 48 = .ok (.aload_n 0, 1) := dr_dd nD_M_does_0 34 rfl
theorem d_M_does_49 : decode prog_6_method_28_code 49 = .ok (.iload_n 1, 1) := dr_dd nD_M_does_0 35 rfl
theorem d_M_does_50 : decode prog_6_method_28_code 50 = .ok (.invokevirtual 164, 3) := dr_dd nD_M_does_0 36 rfl
theorem d_M_does_53 : decode prog_6_method_28_code 53 = .ok (.ireturn, 1) := dr_dd nD_M_does_0 37 rfl
abbrev nL_M_act_0 : List (Nat × Instr × Nat) := [(0, .aload_n 0, 1), (1, .iload_n 1, 1), (2, .invokevirtual 167, 3), (5, .ifCond .eq 17, 3), (8, .iload_n 2, 1), (9, .iconst 0, 1), (10, .bipush 19, 2), (12, .invokestatic 90, 3), (15, .ifCond .eq 7, 3), (18, .iconst 1, 1), (19, .goto 4, 3), (22, .iconst 0, 1), (23, .istore_n 3, 1), (24, .aload_n 0, 1), (25, .iload_n 3, 1), (26, .iload_n 3, 1), (27, .ifCond .eq 16, 3), (30, .aload_n 0, 1), (31, .getfield 57, 3), (34, .iload_n 1, 1), (35, .baload, 1), (36, .ifCond .ne 7, 3), (39, .iconst 1, 1), (40, .goto 4, 3), (43, .iconst 0, 1), (44, .iload_n 3, 1), (45, .ifCond .eq 18, 3), (48, .aload_n 0, 1), (49, .getfield 63, 3), (52, .iload_n 1, 1), (53, .iaload, 1), (54, .bipush 60, 2), (56, .if_icmp .ge 7, 3), (59, .iconst 1, 1), (60, .goto 4, 3), (63, .iconst 0, 1), (64, .invokevirtual 97, 3), (67, .ifCond .ne 5, 3), (70, .iconst 0, 1), (71, .ireturn, 1)]
theorem nD_M_act_0 : ∀ q ∈ nL_M_act_0, decode prog_6_method_29_code q.1 = .ok (q.2.1, q.2.2) := by decide +kernel
theorem d_M_act_0 : decode prog_6_method_29_code 0 = .ok (.aload_n 0, 1) := dr_dd nD_M_act_0 0 rfl
theorem d_M_act_1 : decode prog_6_method_29_code 1 = .ok (.iload_n 1, 1) := dr_dd nD_M_act_0 1 rfl
theorem d_M_act_2 : decode prog_6_method_29_code 2 = .ok (.invokevirtual 167, 3) := dr_dd nD_M_act_0 2 rfl
theorem d_M_act_5 : decode prog_6_method_29_code 5 = .ok (.ifCond .eq 17, 3) := dr_dd nD_M_act_0 3 rfl
theorem d_M_act_8 : decode prog_6_method_29_code 8 = .ok (.iload_n 2, 1) := dr_dd nD_M_act_0 4 rfl
theorem d_M_act_9 : decode prog_6_method_29_code 9 = .ok (.iconst 0, 1) := dr_dd nD_M_act_0 5 rfl
theorem d_M_act_10 : decode prog_6_method_29_code 10 = .ok (.bipush 19, 2) := dr_dd nD_M_act_0 6 rfl
theorem d_M_act_12 : decode prog_6_method_29_code 12 = .ok (.invokestatic 90, 3) := dr_dd nD_M_act_0 7 rfl
theorem d_M_act_15 : decode prog_6_method_29_code 15 = .ok (.ifCond .eq 7, 3) := dr_dd nD_M_act_0 8 rfl
theorem d_M_act_18 : decode prog_6_method_29_code 18 = .ok (.iconst 1, 1) := dr_dd nD_M_act_0 9 rfl
theorem d_M_act_19 : decode prog_6_method_29_code 19 = .ok (.goto 4, 3) := dr_dd nD_M_act_0 10 rfl
theorem d_M_act_22 : decode prog_6_method_29_code 22 = .ok (.iconst 0, 1) := dr_dd nD_M_act_0 11 rfl
theorem d_M_act_23 : decode prog_6_method_29_code 23 = .ok (.istore_n 3, 1) := dr_dd nD_M_act_0 12 rfl
theorem d_M_act_24 : decode prog_6_method_29_code 24 = .ok (.aload_n 0, 1) := dr_dd nD_M_act_0 13 rfl
theorem d_M_act_25 : decode prog_6_method_29_code 25 = .ok (.iload_n 3, 1) := dr_dd nD_M_act_0 14 rfl
theorem d_M_act_26 : decode prog_6_method_29_code 26 = .ok (.iload_n 3, 1) := dr_dd nD_M_act_0 15 rfl
theorem d_M_act_27 : decode prog_6_method_29_code 27 = .ok (.ifCond .eq 16, 3) := dr_dd nD_M_act_0 16 rfl
theorem d_M_act_30 : decode prog_6_method_29_code 30 = .ok (.aload_n 0, 1) := dr_dd nD_M_act_0 17 rfl
theorem d_M_act_31 : decode prog_6_method_29_code 31 = .ok (.getfield 57, 3) := dr_dd nD_M_act_0 18 rfl
theorem d_M_act_34 : decode prog_6_method_29_code 34 = .ok (.iload_n 1, 1) := dr_dd nD_M_act_0 19 rfl
theorem d_M_act_35 : decode prog_6_method_29_code 35 = .ok (.baload, 1) := dr_dd nD_M_act_0 20 rfl
theorem d_M_act_36 : decode prog_6_method_29_code 36 = .ok (.ifCond .ne 7, 3) := dr_dd nD_M_act_0 21 rfl
theorem d_M_act_39 : decode prog_6_method_29_code 39 = .ok (.iconst 1, 1) := dr_dd nD_M_act_0 22 rfl
theorem d_M_act_40 : decode prog_6_method_29_code 40 = .ok (.goto 4, 3) := dr_dd nD_M_act_0 23 rfl
theorem d_M_act_43 : decode prog_6_method_29_code 43 = .ok (.iconst 0, 1) := dr_dd nD_M_act_0 24 rfl
theorem d_M_act_44 : decode prog_6_method_29_code 44 = .ok (.iload_n 3, 1) := dr_dd nD_M_act_0 25 rfl
theorem d_M_act_45 : decode prog_6_method_29_code 45 = .ok (.ifCond .eq 18, 3) := dr_dd nD_M_act_0 26 rfl
theorem d_M_act_48 : decode prog_6_method_29_code 48 = .ok (.aload_n 0, 1) := dr_dd nD_M_act_0 27 rfl
theorem d_M_act_49 : decode prog_6_method_29_code 49 = .ok (.getfield 63, 3) := dr_dd nD_M_act_0 28 rfl
theorem d_M_act_52 : decode prog_6_method_29_code 52 = .ok (.iload_n 1, 1) := dr_dd nD_M_act_0 29 rfl
theorem d_M_act_53 : decode prog_6_method_29_code 53 = .ok (.iaload, 1) := dr_dd nD_M_act_0 30 rfl
theorem d_M_act_54 : decode prog_6_method_29_code 54 = .ok (.bipush 60, 2) := dr_dd nD_M_act_0 31 rfl
theorem d_M_act_56 : decode prog_6_method_29_code 56 = .ok (.if_icmp .ge 7, 3) := dr_dd nD_M_act_0 32 rfl
theorem d_M_act_59 : decode prog_6_method_29_code 59 = .ok (.iconst 1, 1) := dr_dd nD_M_act_0 33 rfl
theorem d_M_act_60 : decode prog_6_method_29_code 60 = .ok (.goto 4, 3) := dr_dd nD_M_act_0 34 rfl
theorem d_M_act_63 : decode prog_6_method_29_code 63 = .ok (.iconst 0, 1) := dr_dd nD_M_act_0 35 rfl
theorem d_M_act_64 : decode prog_6_method_29_code 64 = .ok (.invokevirtual 97, 3) := dr_dd nD_M_act_0 36 rfl
theorem d_M_act_67 : decode prog_6_method_29_code 67 = .ok (.ifCond .ne 5, 3) := dr_dd nD_M_act_0 37 rfl
theorem d_M_act_70 : decode prog_6_method_29_code 70 = .ok (.iconst 0, 1) := dr_dd nD_M_act_0 38 rfl
theorem d_M_act_71 : decode prog_6_method_29_code 71 = .ok (.ireturn, 1) := dr_dd nD_M_act_0 39 rfl
abbrev nL_M_act_1 : List (Nat × Instr × Nat) := [(72, .aload_n 0, 1), (73, .iload_n 1, 1), (74, .iload_n 2, 1), (75, .invokevirtual 170, 3), (78, .ireturn, 1)]
theorem nD_M_act_1 : ∀ q ∈ nL_M_act_1, decode prog_6_method_29_code q.1 = .ok (q.2.1, q.2.2) := by decide +kernel
theorem d_M_act_72 : decode prog_6_method_29_code 72 = .ok (.aload_n 0, 1) := dr_dd nD_M_act_1 0 rfl
theorem d_M_act_73 : decode prog_6_method_29_code 73 = .ok (.iload_n 1, 1) := dr_dd nD_M_act_1 1 rfl
theorem d_M_act_74 : decode prog_6_method_29_code 74 = .ok (.iload_n 2, 1) := dr_dd nD_M_act_1 2 rfl
theorem d_M_act_75 : decode prog_6_method_29_code 75 = .ok (.invokevirtual 170, 3) := dr_dd nD_M_act_1 3 rfl
theorem d_M_act_78 : decode prog_6_method_29_code 78 = .ok (.ireturn, 1) := dr_dd nD_M_act_1 4 rfl
abbrev nL_M_play_0 : List (Nat × Instr × Nat) := [(0, .aload_n 0, 1), (1, .iload_n 1, 1), (2, .invokevirtual 167, 3), (5, .istore_n 3, 1), (6, .aload_n 0, 1), (7, .iload_n 3, 1), (8, .iload_n 3, 1), (9, .ifCond .eq 16, 3), (12, .aload_n 0, 1), (13, .getfield 57, 3), (16, .iload_n 1, 1), (17, .baload, 1), (18, .ifCond .ne 7, 3), (21, .iconst 1, 1), (22, .goto 4, 3), (25, .iconst 0, 1), (26, .iload_n 3, 1), (27, .ifCond .eq 18, 3), (30, .aload_n 0, 1), (31, .getfield 63, 3), (34, .iload_n 1, 1), (35, .iaload, 1), (36, .bipush 60, 2), (38, .if_icmp .ge 7, 3), (41, .iconst 1, 1), (42, .goto 4, 3), (45, .iconst 0, 1), (46, .invokevirtual 97, 3), (49, .ifCond .ne 5, 3), (52, .iconst 0, 1), (53, .ireturn, 1), (54, .iload_n 2, 1), (55, .ldc 173, 2), (57, .imul, 1), (58, .sipush 12345, 3), (61, .iadd, 1), (62, .istore 4, 2), (64, .aload_n 0, 1), (65, .iload_n 1, 1), (66, .iload 4, 2)]
theorem nD_M_play_0 : ∀ q ∈ nL_M_play_0, decode prog_6_method_30_code q.1 = .ok (q.2.1, q.2.2) := by decide +kernel
theorem d_M_play_0 : decode prog_6_method_30_code 0 = .ok (.aload_n 0, 1) := dr_dd nD_M_play_0 0 rfl
theorem d_M_play_1 : decode prog_6_method_30_code 1 = .ok (.iload_n 1, 1) := dr_dd nD_M_play_0 1 rfl
theorem d_M_play_2 : decode prog_6_method_30_code 2 = .ok (.invokevirtual 167, 3) := dr_dd nD_M_play_0 2 rfl
theorem d_M_play_5 : decode prog_6_method_30_code 5 = .ok (.istore_n 3, 1) := dr_dd nD_M_play_0 3 rfl
theorem d_M_play_6 : decode prog_6_method_30_code 6 = .ok (.aload_n 0, 1) := dr_dd nD_M_play_0 4 rfl
theorem d_M_play_7 : decode prog_6_method_30_code 7 = .ok (.iload_n 3, 1) := dr_dd nD_M_play_0 5 rfl
theorem d_M_play_8 : decode prog_6_method_30_code 8 = .ok (.iload_n 3, 1) := dr_dd nD_M_play_0 6 rfl
theorem d_M_play_9 : decode prog_6_method_30_code 9 = .ok (.ifCond .eq 16, 3) := dr_dd nD_M_play_0 7 rfl
theorem d_M_play_12 : decode prog_6_method_30_code 12 = .ok (.aload_n 0, 1) := dr_dd nD_M_play_0 8 rfl
theorem d_M_play_13 : decode prog_6_method_30_code 13 = .ok (.getfield 57, 3) := dr_dd nD_M_play_0 9 rfl
theorem d_M_play_16 : decode prog_6_method_30_code 16 = .ok (.iload_n 1, 1) := dr_dd nD_M_play_0 10 rfl
theorem d_M_play_17 : decode prog_6_method_30_code 17 = .ok (.baload, 1) := dr_dd nD_M_play_0 11 rfl
theorem d_M_play_18 : decode prog_6_method_30_code 18 = .ok (.ifCond .ne 7, 3) := dr_dd nD_M_play_0 12 rfl
theorem d_M_play_21 : decode prog_6_method_30_code 21 = .ok (.iconst 1, 1) := dr_dd nD_M_play_0 13 rfl
theorem d_M_play_22 : decode prog_6_method_30_code 22 = .ok (.goto 4, 3) := dr_dd nD_M_play_0 14 rfl
theorem d_M_play_25 : decode prog_6_method_30_code 25 = .ok (.iconst 0, 1) := dr_dd nD_M_play_0 15 rfl
theorem d_M_play_26 : decode prog_6_method_30_code 26 = .ok (.iload_n 3, 1) := dr_dd nD_M_play_0 16 rfl
theorem d_M_play_27 : decode prog_6_method_30_code 27 = .ok (.ifCond .eq 18, 3) := dr_dd nD_M_play_0 17 rfl
theorem d_M_play_30 : decode prog_6_method_30_code 30 = .ok (.aload_n 0, 1) := dr_dd nD_M_play_0 18 rfl
theorem d_M_play_31 : decode prog_6_method_30_code 31 = .ok (.getfield 63, 3) := dr_dd nD_M_play_0 19 rfl
theorem d_M_play_34 : decode prog_6_method_30_code 34 = .ok (.iload_n 1, 1) := dr_dd nD_M_play_0 20 rfl
theorem d_M_play_35 : decode prog_6_method_30_code 35 = .ok (.iaload, 1) := dr_dd nD_M_play_0 21 rfl
theorem d_M_play_36 : decode prog_6_method_30_code 36 = .ok (.bipush 60, 2) := dr_dd nD_M_play_0 22 rfl
theorem d_M_play_38 : decode prog_6_method_30_code 38 = .ok (.if_icmp .ge 7, 3) := dr_dd nD_M_play_0 23 rfl
theorem d_M_play_41 : decode prog_6_method_30_code 41 = .ok (.iconst 1, 1) := dr_dd nD_M_play_0 24 rfl
theorem d_M_play_42 : decode prog_6_method_30_code 42 = .ok (.goto 4, 3) := dr_dd nD_M_play_0 25 rfl
theorem d_M_play_45 : decode prog_6_method_30_code 45 = .ok (.iconst 0, 1) := dr_dd nD_M_play_0 26 rfl
theorem d_M_play_46 : decode prog_6_method_30_code 46 = .ok (.invokevirtual 97, 3) := dr_dd nD_M_play_0 27 rfl
theorem d_M_play_49 : decode prog_6_method_30_code 49 = .ok (.ifCond .ne 5, 3) := dr_dd nD_M_play_0 28 rfl
theorem d_M_play_52 : decode prog_6_method_30_code 52 = .ok (.iconst 0, 1) := dr_dd nD_M_play_0 29 rfl
theorem d_M_play_53 : decode prog_6_method_30_code 53 = .ok (.ireturn, 1) := dr_dd nD_M_play_0 30 rfl
theorem d_M_play_54 : decode prog_6_method_30_code 54 = .ok (.iload_n 2, 1) := dr_dd nD_M_play_0 31 rfl
theorem d_M_play_55 : decode prog_6_method_30_code 55 = .ok (.ldc 173, 2) := dr_dd nD_M_play_0 32 rfl
theorem d_M_play_57 : decode prog_6_method_30_code 57 = .ok (.imul, 1) := dr_dd nD_M_play_0 33 rfl
theorem d_M_play_58 : decode prog_6_method_30_code 58 = .ok (.sipush 12345, 3) := dr_dd nD_M_play_0 34 rfl
theorem d_M_play_61 : decode prog_6_method_30_code 61 = .ok (.iadd, 1) := dr_dd nD_M_play_0 35 rfl
theorem d_M_play_62 : decode prog_6_method_30_code 62 = .ok (.istore 4, 2) := dr_dd nD_M_play_0 36 rfl
theorem d_M_play_64 : decode prog_6_method_30_code 64 = .ok (.aload_n 0, 1) := dr_dd nD_M_play_0 37 rfl
theorem d_M_play_65 : decode prog_6_method_30_code 65 = .ok (.iload_n 1, 1) := dr_dd nD_M_play_0 38 rfl
theorem d_M_play_66 : decode prog_6_method_30_code 66 = .ok (.iload 4, 2) := dr_dd nD_M_play_0 39 rfl
abbrev nL_M_play_1 : List (Nat × Instr × Nat) := [(68, .bipush 16, 2), (70, .iushr, 1), (71, .bipush 20, 2), (73, .irem, 1), (74, .invokevirtual 170, 3), (77, .ireturn, 1)]
theorem nD_M_play_1 : ∀ q ∈ nL_M_play_1, decode prog_6_method_30_code q.1 = .ok (q.2.1, q.2.2) := by decide +kernel
theorem d_M_play_68 : decode prog_6_method_30_code 68 = .ok (.bipush 16, 2) := dr_dd nD_M_play_1 0 rfl
theorem d_M_play_70 : decode prog_6_method_30_code 70 = .ok (.iushr, 1) := dr_dd nD_M_play_1 1 rfl
theorem d_M_play_71 : decode prog_6_method_30_code 71 = .ok (.bipush 20, 2) := dr_dd nD_M_play_1 2 rfl
theorem d_M_play_73 : decode prog_6_method_30_code 73 = .ok (.irem, 1) := dr_dd nD_M_play_1 3 rfl
theorem d_M_play_74 : decode prog_6_method_30_code 74 = .ok (.invokevirtual 170, 3) := dr_dd nD_M_play_1 4 rfl
theorem d_M_play_77 : decode prog_6_method_30_code 77 = .ok (.ireturn, 1) := dr_dd nD_M_play_1 5 rfl
abbrev nL_M_tick_0 : List (Nat × Instr × Nat) := [(0, .aload_n 0, 1), (1, .iload_n 1, 1), (2, .iconst 1, 1), (3, .sipush 5000, 3), (6, .invokestatic 90, 3), (9, .ifCond .eq 18, 3), (12, .iload_n 1, 1), (13, .ldc 174, 2), (15, .aload_n 0, 1), (16, .getfield 147, 3), (19, .isub, 1), (20, .if_icmp .gt 7, 3), (23, .iconst 1, 1), (24, .goto 4, 3), (27, .iconst 0, 1), (28, .iconst 1, 1), (29, .iconst 1, 1), (30, .invokevirtual 97, 3), (33, .ifCond .ne 5, 3), (36, .iconst 0, 1), (37, .ireturn, 1), (38, .iconst 0, 1), (39, .istore_n 2, 1), (40, .iconst 0, 1), (41, .istore_n 3, 1), (42, .iload_n 3, 1), (43, .iload_n 1, 1), (44, .if_icmp .ge 56, 3), (47, .aload_n 0, 1), (48, .dup, 1), (49, .getfield 147, 3), (52, .iconst 1, 1), (53, .iadd, 1), (54, .putfield 147, 3), (57, .iconst 0, 1), (58, .istore 4, 2), (60, .iload 4, 2), (62, .aload_n 0, 1), (63, .getfield 161, 3), (66, .if_icmp .ge 28, 3)]
theorem nD_M_tick_0 : ∀ q ∈ nL_M_tick_0, decode prog_6_method_31_code q.1 = .ok (q.2.1, q.2.2) := by decide +kernel
theorem d_M_tick_0 : decode prog_6_method_31_code 0 = .ok (.aload_n 0, 1) := dr_dd nD_M_tick_0 0 rfl
theorem d_M_tick_1 : decode prog_6_method_31_code 1 = .ok (.iload_n 1, 1) := dr_dd nD_M_tick_0 1 rfl
theorem d_M_tick_2 : decode prog_6_method_31_code 2 = .ok (.iconst 1, 1) := dr_dd nD_M_tick_0 2 rfl
theorem d_M_tick_3 : decode prog_6_method_31_code 3 = .ok (.sipush 5000, 3) := dr_dd nD_M_tick_0 3 rfl
theorem d_M_tick_6 : decode prog_6_method_31_code 6 = .ok (.invokestatic 90, 3) := dr_dd nD_M_tick_0 4 rfl
theorem d_M_tick_9 : decode prog_6_method_31_code 9 = .ok (.ifCond .eq 18, 3) := dr_dd nD_M_tick_0 5 rfl
theorem d_M_tick_12 : decode prog_6_method_31_code 12 = .ok (.iload_n 1, 1) := dr_dd nD_M_tick_0 6 rfl
theorem d_M_tick_13 : decode prog_6_method_31_code 13 = .ok (.ldc 174, 2) := dr_dd nD_M_tick_0 7 rfl
theorem d_M_tick_15 : decode prog_6_method_31_code 15 = .ok (.aload_n 0, 1) := dr_dd nD_M_tick_0 8 rfl
theorem d_M_tick_16 : decode prog_6_method_31_code 16 = .ok (.getfield 147, 3) := dr_dd nD_M_tick_0 9 rfl
theorem d_M_tick_19 : decode prog_6_method_31_code 19 = .ok (.isub, 1) := dr_dd nD_M_tick_0 10 rfl
theorem d_M_tick_20 : decode prog_6_method_31_code 20 = .ok (.if_icmp .gt 7, 3) := dr_dd nD_M_tick_0 11 rfl
theorem d_M_tick_23 : decode prog_6_method_31_code 23 = .ok (.iconst 1, 1) := dr_dd nD_M_tick_0 12 rfl
theorem d_M_tick_24 : decode prog_6_method_31_code 24 = .ok (.goto 4, 3) := dr_dd nD_M_tick_0 13 rfl
theorem d_M_tick_27 : decode prog_6_method_31_code 27 = .ok (.iconst 0, 1) := dr_dd nD_M_tick_0 14 rfl
theorem d_M_tick_28 : decode prog_6_method_31_code 28 = .ok (.iconst 1, 1) := dr_dd nD_M_tick_0 15 rfl
theorem d_M_tick_29 : decode prog_6_method_31_code 29 = .ok (.iconst 1, 1) := dr_dd nD_M_tick_0 16 rfl
theorem d_M_tick_30 : decode prog_6_method_31_code 30 = .ok (.invokevirtual 97, 3) := dr_dd nD_M_tick_0 17 rfl
theorem d_M_tick_33 : decode prog_6_method_31_code 33 = .ok (.ifCond .ne 5, 3) := dr_dd nD_M_tick_0 18 rfl
theorem d_M_tick_36 : decode prog_6_method_31_code 36 = .ok (.iconst 0, 1) := dr_dd nD_M_tick_0 19 rfl
theorem d_M_tick_37 : decode prog_6_method_31_code 37 = .ok (.ireturn, 1) := dr_dd nD_M_tick_0 20 rfl
theorem d_M_tick_38 : decode prog_6_method_31_code 38 = .ok (.iconst 0, 1) := dr_dd nD_M_tick_0 21 rfl
theorem d_M_tick_39 : decode prog_6_method_31_code 39 = .ok (.istore_n 2, 1) := dr_dd nD_M_tick_0 22 rfl
theorem d_M_tick_40 : decode prog_6_method_31_code 40 = .ok (.iconst 0, 1) := dr_dd nD_M_tick_0 23 rfl
theorem d_M_tick_41 : decode prog_6_method_31_code 41 = .ok (.istore_n 3, 1) := dr_dd nD_M_tick_0 24 rfl
theorem d_M_tick_42 : decode prog_6_method_31_code 42 = .ok (.iload_n 3, 1) := dr_dd nD_M_tick_0 25 rfl
theorem d_M_tick_43 : decode prog_6_method_31_code 43 = .ok (.iload_n 1, 1) := dr_dd nD_M_tick_0 26 rfl
theorem d_M_tick_44 : decode prog_6_method_31_code 44 = .ok (.if_icmp .ge 56, 3) := dr_dd nD_M_tick_0 27 rfl
theorem d_M_tick_47 : decode prog_6_method_31_code 47 = .ok (.aload_n 0, 1) := dr_dd nD_M_tick_0 28 rfl
theorem d_M_tick_48 : decode prog_6_method_31_code 48 = .ok (.dup, 1) := dr_dd nD_M_tick_0 29 rfl
theorem d_M_tick_49 : decode prog_6_method_31_code 49 = .ok (.getfield 147, 3) := dr_dd nD_M_tick_0 30 rfl
theorem d_M_tick_52 : decode prog_6_method_31_code 52 = .ok (.iconst 1, 1) := dr_dd nD_M_tick_0 31 rfl
theorem d_M_tick_53 : decode prog_6_method_31_code 53 = .ok (.iadd, 1) := dr_dd nD_M_tick_0 32 rfl
theorem d_M_tick_54 : decode prog_6_method_31_code 54 = .ok (.putfield 147, 3) := dr_dd nD_M_tick_0 33 rfl
theorem d_M_tick_57 : decode prog_6_method_31_code 57 = .ok (.iconst 0, 1) := dr_dd nD_M_tick_0 34 rfl
theorem d_M_tick_58 : decode prog_6_method_31_code 58 = .ok (.istore 4, 2) := dr_dd nD_M_tick_0 35 rfl
theorem d_M_tick_60 : decode prog_6_method_31_code 60 = .ok (.iload 4, 2) := dr_dd nD_M_tick_0 36 rfl
theorem d_M_tick_62 : decode prog_6_method_31_code 62 = .ok (.aload_n 0, 1) := dr_dd nD_M_tick_0 37 rfl
theorem d_M_tick_63 : decode prog_6_method_31_code 63 = .ok (.getfield 161, 3) := dr_dd nD_M_tick_0 38 rfl
theorem d_M_tick_66 : decode prog_6_method_31_code 66 = .ok (.if_icmp .ge 28, 3) := dr_dd nD_M_tick_0 39 rfl
abbrev nL_M_tick_1 : List (Nat × Instr × Nat) := [(69, .aload_n 0, 1), (70, .getfield 57, 3), (73, .iload 4, 2), (75, .baload, 1), (76, .ifCond .ne 12, 3), (79, .iload_n 2, 1), (80, .aload_n 0, 1), (81, .iload 4, 2), (83, .invokevirtual 164, 3), (86, .iadd, 1), (87, .istore_n 2, 1), (88, .iinc 4 1, 3), (91, .goto (-31), 3), (94, .iinc 3 1, 3), (97, .goto (-55), 3), (100, .iload_n 2, 1), (101, .ireturn, 1)]
theorem nD_M_tick_1 : ∀ q ∈ nL_M_tick_1, decode prog_6_method_31_code q.1 = .ok (q.2.1, q.2.2) := by decide +kernel
theorem d_M_tick_69 : decode prog_6_method_31_code 69 = .ok (.aload_n 0, 1) := dr_dd nD_M_tick_1 0 rfl
theorem d_M_tick_70 : decode prog_6_method_31_code 70 = .ok (.getfield 57, 3) := dr_dd nD_M_tick_1 1 rfl
theorem d_M_tick_73 : decode prog_6_method_31_code 73 = .ok (.iload 4, 2) := dr_dd nD_M_tick_1 2 rfl
theorem d_M_tick_75 : decode prog_6_method_31_code 75 = .ok (.baload, 1) := dr_dd nD_M_tick_1 3 rfl
theorem d_M_tick_76 : decode prog_6_method_31_code 76 = .ok (.ifCond .ne 12, 3) := dr_dd nD_M_tick_1 4 rfl
theorem d_M_tick_79 : decode prog_6_method_31_code 79 = .ok (.iload_n 2, 1) := dr_dd nD_M_tick_1 5 rfl
theorem d_M_tick_80 : decode prog_6_method_31_code 80 = .ok (.aload_n 0, 1) := dr_dd nD_M_tick_1 6 rfl
theorem d_M_tick_81 : decode prog_6_method_31_code 81 = .ok (.iload 4, 2) := dr_dd nD_M_tick_1 7 rfl
theorem d_M_tick_83 : decode prog_6_method_31_code 83 = .ok (.invokevirtual 164, 3) := dr_dd nD_M_tick_1 8 rfl
theorem d_M_tick_86 : decode prog_6_method_31_code 86 = .ok (.iadd, 1) := dr_dd nD_M_tick_1 9 rfl
theorem d_M_tick_87 : decode prog_6_method_31_code 87 = .ok (.istore_n 2, 1) := dr_dd nD_M_tick_1 10 rfl
theorem d_M_tick_88 : decode prog_6_method_31_code 88 = .ok (.iinc 4 1, 3) := dr_dd nD_M_tick_1 11 rfl
theorem d_M_tick_91 : decode prog_6_method_31_code 91 = .ok (.goto (-31), 3) := dr_dd nD_M_tick_1 12 rfl
theorem d_M_tick_94 : decode prog_6_method_31_code 94 = .ok (.iinc 3 1, 3) := dr_dd nD_M_tick_1 13 rfl
theorem d_M_tick_97 : decode prog_6_method_31_code 97 = .ok (.goto (-55), 3) := dr_dd nD_M_tick_1 14 rfl
theorem d_M_tick_100 : decode prog_6_method_31_code 100 = .ok (.iload_n 2, 1) := dr_dd nD_M_tick_1 15 rfl
theorem d_M_tick_101 : decode prog_6_method_31_code 101 = .ok (.ireturn, 1) := dr_dd nD_M_tick_1 16 rfl
abbrev nL_M_event_0 : List (Nat × Instr × Nat) := [(0, .aload_n 0, 1), (1, .iload_n 1, 1), (2, .invokevirtual 167, 3), (5, .ifCond .eq 26, 3), (8, .iload_n 2, 1), (9, .iconst 1, 1), (10, .bipush 40, 2), (12, .invokestatic 90, 3), (15, .ifCond .eq 16, 3), (18, .iload_n 3, 1), (19, .iconst 0, 1), (20, .iconst 3, 1), (21, .invokestatic 90, 3), (24, .ifCond .eq 7, 3), (27, .iconst 1, 1), (28, .goto 4, 3), (31, .iconst 0, 1), (32, .istore 4, 2), (34, .aload_n 0, 1), (35, .iload 4, 2), (37, .ifCond .eq 30, 3), (40, .aload_n 0, 1), (41, .getfield 17, 3), (44, .iload 4, 2), (46, .ifCond .eq 12, 3), (49, .iload_n 1, 1), (50, .bipush 41, 2), (52, .imul, 1), (53, .iload_n 2, 1), (54, .iadd, 1), (55, .goto 4, 3), (58, .iconst 0, 1), (59, .baload, 1), (60, .ifCond .eq 7, 3), (63, .iconst 1, 1), (64, .goto 4, 3), (67, .iconst 0, 1), (68, .iconst 1, 1), (69, .iconst 1, 1), (70, .invokevirtual 97, 3)]
theorem nD_M_event_0 : ∀ q ∈ nL_M_event_0, decode prog_6_method_32_code q.1 = .ok (q.2.1, q.2.2) := by decide +kernel
theorem d_M_event_0 : decode prog_6_method_32_code 0 = .ok (.aload_n 0, 1) := dr_dd nD_M_event_0 0 rfl
theorem d_M_event_1 : decode prog_6_method_32_code 1 = .ok (.iload_n 1, 1) := dr_dd nD_M_event_0 1 rfl
theorem d_M_event_2 : decode prog_6_method_32_code 2 = .ok (.invokevirtual 167, 3) := dr_dd nD_M_event_0 2 rfl
theorem d_M_event_5 : decode prog_6_method_32_code 5 = .ok (.ifCond .eq 26, 3) := dr_dd nD_M_event_0 3 rfl
theorem d_M_event_8 : decode prog_6_method_32_code 8 = .ok (.iload_n 2, 1) := dr_dd nD_M_event_0 4 rfl
theorem d_M_event_9 : decode prog_6_method_32_code 9 = .ok (.iconst 1, 1) := dr_dd nD_M_event_0 5 rfl
theorem d_M_event_10 : decode prog_6_method_32_code 10 = .ok (.bipush 40, 2) := dr_dd nD_M_event_0 6 rfl
theorem d_M_event_12 : decode prog_6_method_32_code 12 = .ok (.invokestatic 90, 3) := dr_dd nD_M_event_0 7 rfl
theorem d_M_event_15 : decode prog_6_method_32_code 15 = .ok (.ifCond .eq 16, 3) := dr_dd nD_M_event_0 8 rfl
theorem d_M_event_18 : decode prog_6_method_32_code 18 = .ok (.iload_n 3, 1) := dr_dd nD_M_event_0 9 rfl
theorem d_M_event_19 : decode prog_6_method_32_code 19 = .ok (.iconst 0, 1) := dr_dd nD_M_event_0 10 rfl
theorem d_M_event_20 : decode prog_6_method_32_code 20 = .ok (.iconst 3, 1) := dr_dd nD_M_event_0 11 rfl
theorem d_M_event_21 : decode prog_6_method_32_code 21 = .ok (.invokestatic 90, 3) := dr_dd nD_M_event_0 12 rfl
theorem d_M_event_24 : decode prog_6_method_32_code 24 = .ok (.ifCond .eq 7, 3) := dr_dd nD_M_event_0 13 rfl
theorem d_M_event_27 : decode prog_6_method_32_code 27 = .ok (.iconst 1, 1) := dr_dd nD_M_event_0 14 rfl
theorem d_M_event_28 : decode prog_6_method_32_code 28 = .ok (.goto 4, 3) := dr_dd nD_M_event_0 15 rfl
theorem d_M_event_31 : decode prog_6_method_32_code 31 = .ok (.iconst 0, 1) := dr_dd nD_M_event_0 16 rfl
theorem d_M_event_32 : decode prog_6_method_32_code 32 = .ok (.istore 4, 2) := dr_dd nD_M_event_0 17 rfl
theorem d_M_event_34 : decode prog_6_method_32_code 34 = .ok (.aload_n 0, 1) := dr_dd nD_M_event_0 18 rfl
theorem d_M_event_35 : decode prog_6_method_32_code 35 = .ok (.iload 4, 2) := dr_dd nD_M_event_0 19 rfl
theorem d_M_event_37 : decode prog_6_method_32_code 37 = .ok (.ifCond .eq 30, 3) := dr_dd nD_M_event_0 20 rfl
theorem d_M_event_40 : decode prog_6_method_32_code 40 = .ok (.aload_n 0, 1) := dr_dd nD_M_event_0 21 rfl
theorem d_M_event_41 : decode prog_6_method_32_code 41 = .ok (.getfield 17, 3) := dr_dd nD_M_event_0 22 rfl
theorem d_M_event_44 : decode prog_6_method_32_code 44 = .ok (.iload 4, 2) := dr_dd nD_M_event_0 23 rfl
theorem d_M_event_46 : decode prog_6_method_32_code 46 = .ok (.ifCond .eq 12, 3) := dr_dd nD_M_event_0 24 rfl
theorem d_M_event_49 : decode prog_6_method_32_code 49 = .ok (.iload_n 1, 1) := dr_dd nD_M_event_0 25 rfl
theorem d_M_event_50 : decode prog_6_method_32_code 50 = .ok (.bipush 41, 2) := dr_dd nD_M_event_0 26 rfl
theorem d_M_event_52 : decode prog_6_method_32_code 52 = .ok (.imul, 1) := dr_dd nD_M_event_0 27 rfl
theorem d_M_event_53 : decode prog_6_method_32_code 53 = .ok (.iload_n 2, 1) := dr_dd nD_M_event_0 28 rfl
theorem d_M_event_54 : decode prog_6_method_32_code 54 = .ok (.iadd, 1) := dr_dd nD_M_event_0 29 rfl
theorem d_M_event_55 : decode prog_6_method_32_code 55 = .ok (.goto 4, 3) := dr_dd nD_M_event_0 30 rfl
theorem d_M_event_58 : decode prog_6_method_32_code 58 = .ok (.iconst 0, 1) := dr_dd nD_M_event_0 31 rfl
theorem d_M_event_59 : decode prog_6_method_32_code 59 = .ok (.baload, 1) := dr_dd nD_M_event_0 32 rfl
theorem d_M_event_60 : decode prog_6_method_32_code 60 = .ok (.ifCond .eq 7, 3) := dr_dd nD_M_event_0 33 rfl
theorem d_M_event_63 : decode prog_6_method_32_code 63 = .ok (.iconst 1, 1) := dr_dd nD_M_event_0 34 rfl
theorem d_M_event_64 : decode prog_6_method_32_code 64 = .ok (.goto 4, 3) := dr_dd nD_M_event_0 35 rfl
theorem d_M_event_67 : decode prog_6_method_32_code 67 = .ok (.iconst 0, 1) := dr_dd nD_M_event_0 36 rfl
theorem d_M_event_68 : decode prog_6_method_32_code 68 = .ok (.iconst 1, 1) := dr_dd nD_M_event_0 37 rfl
theorem d_M_event_69 : decode prog_6_method_32_code 69 = .ok (.iconst 1, 1) := dr_dd nD_M_event_0 38 rfl
theorem d_M_event_70 : decode prog_6_method_32_code 70 = .ok (.invokevirtual 97, 3) := dr_dd nD_M_event_0 39 rfl
abbrev nL_M_event_1 : List (Nat × Instr × Nat) := [(73, .ifCond .ne 5, 3), (76, .iconst 0, 1), (77, .ireturn, 1), (78, .iload_n 1, 1), (79, .bipush 41, 2), (81, .imul, 1), (82, .iload_n 2, 1), (83, .iadd, 1), (84, .istore 5, 2), (86, .iload_n 3, 1), (87, .ifCond .ne 13, 3), (90, .aload_n 0, 1), (91, .getfield 60, 3), (94, .iload 5, 2), (96, .iaload, 1), (97, .goto 48, 3), (100, .iload_n 3, 1), (101, .iconst 1, 1), (102, .if_icmp .ne 13, 3), (105, .aload_n 0, 1), (106, .getfield 30, 3), (109, .iload 5, 2), (111, .iaload, 1), (112, .goto 33, 3), (115, .iload_n 3, 1), (116, .iconst 2, 1), (117, .if_icmp .ne 21, 3), (120, .aload_n 0, 1), (121, .getfield 33, 3), (124, .iload 5, 2), (126, .baload, 1), (127, .ifCond .eq 7, 3), (130, .iconst 1, 1), (131, .goto 14, 3), (134, .iconst 0, 1), (135, .goto 10, 3), (138, .aload_n 0, 1), (139, .getfield 36, 3), (142, .iload 5, 2), (144, .iaload, 1)]
theorem nD_M_event_1 : ∀ q ∈ nL_M_event_1, decode prog_6_method_32_code q.1 = .ok (q.2.1, q.2.2) := by decide +kernel
theorem d_M_event_73 : decode prog_6_method_32_code 73 = .ok (.ifCond .ne 5, 3) := dr_dd nD_M_event_1 0 rfl
theorem d_M_event_76 : decode prog_6_method_32_code 76 = .ok (.iconst 0, 1) := dr_dd nD_M_event_1 1 rfl
theorem d_M_event_77 : decode prog_6_method_32_code 77 = .ok (.ireturn, 1) := dr_dd nD_M_event_1 2 rfl
theorem d_M_event_78 : decode prog_6_method_32_code 78 = .ok (.iload_n 1, 1) := dr_dd nD_M_event_1 3 rfl
theorem d_M_event_79 : decode prog_6_method_32_code 79 = .ok (.bipush 41, 2) := dr_dd nD_M_event_1 4 rfl
theorem d_M_event_81 : decode prog_6_method_32_code 81 = .ok (.imul, 1) := dr_dd nD_M_event_1 5 rfl
theorem d_M_event_82 : decode prog_6_method_32_code 82 = .ok (.iload_n 2, 1) := dr_dd nD_M_event_1 6 rfl
theorem d_M_event_83 : decode prog_6_method_32_code 83 = .ok (.iadd, 1) := dr_dd nD_M_event_1 7 rfl
theorem d_M_event_84 : decode prog_6_method_32_code 84 = .ok (.istore 5, 2) := dr_dd nD_M_event_1 8 rfl
theorem d_M_event_86 : decode prog_6_method_32_code 86 = .ok (.iload_n 3, 1) := dr_dd nD_M_event_1 9 rfl
theorem d_M_event_87 : decode prog_6_method_32_code 87 = .ok (.ifCond .ne 13, 3) := dr_dd nD_M_event_1 10 rfl
theorem d_M_event_90 : decode prog_6_method_32_code 90 = .ok (.aload_n 0, 1) := dr_dd nD_M_event_1 11 rfl
theorem d_M_event_91 : decode prog_6_method_32_code 91 = .ok (.getfield 60, 3) := dr_dd nD_M_event_1 12 rfl
theorem d_M_event_94 : decode prog_6_method_32_code 94 = .ok (.iload 5, 2) := dr_dd nD_M_event_1 13 rfl
theorem d_M_event_96 : decode prog_6_method_32_code 96 = .ok (.iaload, 1) := dr_dd nD_M_event_1 14 rfl
theorem d_M_event_97 : decode prog_6_method_32_code 97 = .ok (.goto 48, 3) := dr_dd nD_M_event_1 15 rfl
theorem d_M_event_100 : decode prog_6_method_32_code 100 = .ok (.iload_n 3, 1) := dr_dd nD_M_event_1 16 rfl
theorem d_M_event_101 : decode prog_6_method_32_code 101 = .ok (.iconst 1, 1) := dr_dd nD_M_event_1 17 rfl
theorem d_M_event_102 : decode prog_6_method_32_code 102 = .ok (.if_icmp .ne 13, 3) := dr_dd nD_M_event_1 18 rfl
theorem d_M_event_105 : decode prog_6_method_32_code 105 = .ok (.aload_n 0, 1) := dr_dd nD_M_event_1 19 rfl
theorem d_M_event_106 : decode prog_6_method_32_code 106 = .ok (.getfield 30, 3) := dr_dd nD_M_event_1 20 rfl
theorem d_M_event_109 : decode prog_6_method_32_code 109 = .ok (.iload 5, 2) := dr_dd nD_M_event_1 21 rfl
theorem d_M_event_111 : decode prog_6_method_32_code 111 = .ok (.iaload, 1) := dr_dd nD_M_event_1 22 rfl
theorem d_M_event_112 : decode prog_6_method_32_code 112 = .ok (.goto 33, 3) := dr_dd nD_M_event_1 23 rfl
theorem d_M_event_115 : decode prog_6_method_32_code 115 = .ok (.iload_n 3, 1) := dr_dd nD_M_event_1 24 rfl
theorem d_M_event_116 : decode prog_6_method_32_code 116 = .ok (.iconst 2, 1) := dr_dd nD_M_event_1 25 rfl
theorem d_M_event_117 : decode prog_6_method_32_code 117 = .ok (.if_icmp .ne 21, 3) := dr_dd nD_M_event_1 26 rfl
theorem d_M_event_120 : decode prog_6_method_32_code 120 = .ok (.aload_n 0, 1) := dr_dd nD_M_event_1 27 rfl
theorem d_M_event_121 : decode prog_6_method_32_code 121 = .ok (.getfield 33, 3) := dr_dd nD_M_event_1 28 rfl
theorem d_M_event_124 : decode prog_6_method_32_code 124 = .ok (.iload 5, 2) := dr_dd nD_M_event_1 29 rfl
theorem d_M_event_126 : decode prog_6_method_32_code 126 = .ok (.baload, 1) := dr_dd nD_M_event_1 30 rfl
theorem d_M_event_127 : decode prog_6_method_32_code 127 = .ok (.ifCond .eq 7, 3) := dr_dd nD_M_event_1 31 rfl
theorem d_M_event_130 : decode prog_6_method_32_code 130 = .ok (.iconst 1, 1) := dr_dd nD_M_event_1 32 rfl
theorem d_M_event_131 : decode prog_6_method_32_code 131 = .ok (.goto 14, 3) := dr_dd nD_M_event_1 33 rfl
theorem d_M_event_134 : decode prog_6_method_32_code 134 = .ok (.iconst 0, 1) := dr_dd nD_M_event_1 34 rfl
theorem d_M_event_135 : decode prog_6_method_32_code 135 = .ok (.goto 10, 3) := dr_dd nD_M_event_1 35 rfl
theorem d_M_event_138 : decode prog_6_method_32_code 138 = .ok (.aload_n 0, 1) := dr_dd nD_M_event_1 36 rfl
theorem d_M_event_139 : decode prog_6_method_32_code 139 = .ok (.getfield 36, 3) := dr_dd nD_M_event_1 37 rfl
theorem d_M_event_142 : decode prog_6_method_32_code 142 = .ok (.iload 5, 2) := dr_dd nD_M_event_1 38 rfl
theorem d_M_event_144 : decode prog_6_method_32_code 144 = .ok (.iaload, 1) := dr_dd nD_M_event_1 39 rfl
abbrev nL_M_event_2 : List (Nat × Instr × Nat) := [(145, .ireturn, 1)]
theorem nD_M_event_2 : ∀ q ∈ nL_M_event_2, decode prog_6_method_32_code q.1 = .ok (q.2.1, q.2.2) := by decide +kernel
theorem d_M_event_145 : decode prog_6_method_32_code 145 = .ok (.ireturn, 1) := dr_dd nD_M_event_2 0 rfl
abbrev nL_M_seen_0 : List (Nat × Instr × Nat) := [(0, .aload_n 0, 1), (1, .aload_n 0, 1), (2, .iload_n 1, 1), (3, .invokevirtual 167, 3), (6, .ifCond .eq 17, 3), (9, .iload_n 2, 1), (10, .iconst 0, 1), (11, .bipush 9, 2), (13, .invokestatic 90, 3), (16, .ifCond .eq 7, 3), (19, .iconst 1, 1), (20, .goto 4, 3), (23, .iconst 0, 1), (24, .iload_n 3, 1), (25, .ifCond .lt 7, 3), (28, .iconst 1, 1), (29, .goto 4, 3), (32, .iconst 0, 1), (33, .iconst 1, 1), (34, .invokevirtual 97, 3), (37, .ifCond .ne 5, 3), (40, .iconst 0, 1), (41, .ireturn, 1), (42, .iload_n 3, 1), (43, .istore 4, 2), (45, .iconst 1, 1), (46, .istore 5, 2), (48, .iload 5, 2), (50, .bipush 41, 2), (52, .if_icmp .ge 73, 3), (55, .iload_n 1, 1), (56, .bipush 41, 2), (58, .imul, 1), (59, .iload 5, 2), (61, .iadd, 1), (62, .istore 6, 2), (64, .aload_n 0, 1), (65, .getfield 17, 3), (68, .iload 6, 2), (70, .baload, 1)]
theorem nD_M_seen_0 : ∀ q ∈ nL_M_seen_0, decode prog_6_method_33_code q.1 = .ok (q.2.1, q.2.2) := by decide +kernel
theorem d_M_seen_0 : decode prog_6_method_33_code 0 = .ok (.aload_n 0, 1) := dr_dd nD_M_seen_0 0 rfl
theorem d_M_seen_1 : decode prog_6_method_33_code 1 = .ok (.aload_n 0, 1) := dr_dd nD_M_seen_0 1 rfl
theorem d_M_seen_2 : decode prog_6_method_33_code 2 = .ok (.iload_n 1, 1) := dr_dd nD_M_seen_0 2 rfl
theorem d_M_seen_3 : decode prog_6_method_33_code 3 = .ok (.invokevirtual 167, 3) := dr_dd nD_M_seen_0 3 rfl
theorem d_M_seen_6 : decode prog_6_method_33_code 6 = .ok (.ifCond .eq 17, 3) := dr_dd nD_M_seen_0 4 rfl
theorem d_M_seen_9 : decode prog_6_method_33_code 9 = .ok (.iload_n 2, 1) := dr_dd nD_M_seen_0 5 rfl
theorem d_M_seen_10 : decode prog_6_method_33_code 10 = .ok (.iconst 0, 1) := dr_dd nD_M_seen_0 6 rfl
theorem d_M_seen_11 : decode prog_6_method_33_code 11 = .ok (.bipush 9, 2) := dr_dd nD_M_seen_0 7 rfl
theorem d_M_seen_13 : decode prog_6_method_33_code 13 = .ok (.invokestatic 90, 3) := dr_dd nD_M_seen_0 8 rfl
theorem d_M_seen_16 : decode prog_6_method_33_code 16 = .ok (.ifCond .eq 7, 3) := dr_dd nD_M_seen_0 9 rfl
theorem d_M_seen_19 : decode prog_6_method_33_code 19 = .ok (.iconst 1, 1) := dr_dd nD_M_seen_0 10 rfl
theorem d_M_seen_20 : decode prog_6_method_33_code 20 = .ok (.goto 4, 3) := dr_dd nD_M_seen_0 11 rfl
theorem d_M_seen_23 : decode prog_6_method_33_code 23 = .ok (.iconst 0, 1) := dr_dd nD_M_seen_0 12 rfl
theorem d_M_seen_24 : decode prog_6_method_33_code 24 = .ok (.iload_n 3, 1) := dr_dd nD_M_seen_0 13 rfl
theorem d_M_seen_25 : decode prog_6_method_33_code 25 = .ok (.ifCond .lt 7, 3) := dr_dd nD_M_seen_0 14 rfl
theorem d_M_seen_28 : decode prog_6_method_33_code 28 = .ok (.iconst 1, 1) := dr_dd nD_M_seen_0 15 rfl
theorem d_M_seen_29 : decode prog_6_method_33_code 29 = .ok (.goto 4, 3) := dr_dd nD_M_seen_0 16 rfl
theorem d_M_seen_32 : decode prog_6_method_33_code 32 = .ok (.iconst 0, 1) := dr_dd nD_M_seen_0 17 rfl
theorem d_M_seen_33 : decode prog_6_method_33_code 33 = .ok (.iconst 1, 1) := dr_dd nD_M_seen_0 18 rfl
theorem d_M_seen_34 : decode prog_6_method_33_code 34 = .ok (.invokevirtual 97, 3) := dr_dd nD_M_seen_0 19 rfl
theorem d_M_seen_37 : decode prog_6_method_33_code 37 = .ok (.ifCond .ne 5, 3) := dr_dd nD_M_seen_0 20 rfl
theorem d_M_seen_40 : decode prog_6_method_33_code 40 = .ok (.iconst 0, 1) := dr_dd nD_M_seen_0 21 rfl
theorem d_M_seen_41 : decode prog_6_method_33_code 41 = .ok (.ireturn, 1) := dr_dd nD_M_seen_0 22 rfl
theorem d_M_seen_42 : decode prog_6_method_33_code 42 = .ok (.iload_n 3, 1) := dr_dd nD_M_seen_0 23 rfl
theorem d_M_seen_43 : decode prog_6_method_33_code 43 = .ok (.istore 4, 2) := dr_dd nD_M_seen_0 24 rfl
theorem d_M_seen_45 : decode prog_6_method_33_code 45 = .ok (.iconst 1, 1) := dr_dd nD_M_seen_0 25 rfl
theorem d_M_seen_46 : decode prog_6_method_33_code 46 = .ok (.istore 5, 2) := dr_dd nD_M_seen_0 26 rfl
theorem d_M_seen_48 : decode prog_6_method_33_code 48 = .ok (.iload 5, 2) := dr_dd nD_M_seen_0 27 rfl
theorem d_M_seen_50 : decode prog_6_method_33_code 50 = .ok (.bipush 41, 2) := dr_dd nD_M_seen_0 28 rfl
theorem d_M_seen_52 : decode prog_6_method_33_code 52 = .ok (.if_icmp .ge 73, 3) := dr_dd nD_M_seen_0 29 rfl
theorem d_M_seen_55 : decode prog_6_method_33_code 55 = .ok (.iload_n 1, 1) := dr_dd nD_M_seen_0 30 rfl
theorem d_M_seen_56 : decode prog_6_method_33_code 56 = .ok (.bipush 41, 2) := dr_dd nD_M_seen_0 31 rfl
theorem d_M_seen_58 : decode prog_6_method_33_code 58 = .ok (.imul, 1) := dr_dd nD_M_seen_0 32 rfl
theorem d_M_seen_59 : decode prog_6_method_33_code 59 = .ok (.iload 5, 2) := dr_dd nD_M_seen_0 33 rfl
theorem d_M_seen_61 : decode prog_6_method_33_code 61 = .ok (.iadd, 1) := dr_dd nD_M_seen_0 34 rfl
theorem d_M_seen_62 : decode prog_6_method_33_code 62 = .ok (.istore 6, 2) := dr_dd nD_M_seen_0 35 rfl
theorem d_M_seen_64 : decode prog_6_method_33_code 64 = .ok (.aload_n 0, 1) := dr_dd nD_M_seen_0 36 rfl
theorem d_M_seen_65 : decode prog_6_method_33_code 65 = .ok (.getfield 17, 3) := dr_dd nD_M_seen_0 37 rfl
theorem d_M_seen_68 : decode prog_6_method_33_code 68 = .ok (.iload 6, 2) := dr_dd nD_M_seen_0 38 rfl
theorem d_M_seen_70 : decode prog_6_method_33_code 70 = .ok (.baload, 1) := dr_dd nD_M_seen_0 39 rfl
abbrev nL_M_seen_1 : List (Nat × Instr × Nat) := [(71, .ifCond .eq 48, 3), (74, .aload_n 0, 1), (75, .getfield 60, 3), (78, .iload 6, 2), (80, .iaload, 1), (81, .ifCond .lt 38, 3), (84, .aload_n 0, 1), (85, .getfield 33, 3), (88, .iload 6, 2), (90, .baload, 1), (91, .ifCond .eq 17, 3), (94, .aload_n 0, 1), (95, .getfield 30, 3), (98, .iload 6, 2), (100, .iaload, 1), (101, .iload_n 2, 1), (102, .if_icmp .eq 6, 3), (105, .goto 14, 3), (108, .iload 4, 2), (110, .ifCond .ne 6, 3), (113, .iload 5, 2), (115, .ireturn, 1), (116, .iinc 4 (-1), 3), (119, .iinc 5 1, 3), (122, .goto (-74), 3), (125, .iconst (-1), 1), (126, .ireturn, 1)]
theorem nD_M_seen_1 : ∀ q ∈ nL_M_seen_1, decode prog_6_method_33_code q.1 = .ok (q.2.1, q.2.2) := by decide +kernel
theorem d_M_seen_71 : decode prog_6_method_33_code 71 = .ok (.ifCond .eq 48, 3) := dr_dd nD_M_seen_1 0 rfl
theorem d_M_seen_74 : decode prog_6_method_33_code 74 = .ok (.aload_n 0, 1) := dr_dd nD_M_seen_1 1 rfl
theorem d_M_seen_75 : decode prog_6_method_33_code 75 = .ok (.getfield 60, 3) := dr_dd nD_M_seen_1 2 rfl
theorem d_M_seen_78 : decode prog_6_method_33_code 78 = .ok (.iload 6, 2) := dr_dd nD_M_seen_1 3 rfl
theorem d_M_seen_80 : decode prog_6_method_33_code 80 = .ok (.iaload, 1) := dr_dd nD_M_seen_1 4 rfl
theorem d_M_seen_81 : decode prog_6_method_33_code 81 = .ok (.ifCond .lt 38, 3) := dr_dd nD_M_seen_1 5 rfl
theorem d_M_seen_84 : decode prog_6_method_33_code 84 = .ok (.aload_n 0, 1) := dr_dd nD_M_seen_1 6 rfl
theorem d_M_seen_85 : decode prog_6_method_33_code 85 = .ok (.getfield 33, 3) := dr_dd nD_M_seen_1 7 rfl
theorem d_M_seen_88 : decode prog_6_method_33_code 88 = .ok (.iload 6, 2) := dr_dd nD_M_seen_1 8 rfl
theorem d_M_seen_90 : decode prog_6_method_33_code 90 = .ok (.baload, 1) := dr_dd nD_M_seen_1 9 rfl
theorem d_M_seen_91 : decode prog_6_method_33_code 91 = .ok (.ifCond .eq 17, 3) := dr_dd nD_M_seen_1 10 rfl
theorem d_M_seen_94 : decode prog_6_method_33_code 94 = .ok (.aload_n 0, 1) := dr_dd nD_M_seen_1 11 rfl
theorem d_M_seen_95 : decode prog_6_method_33_code 95 = .ok (.getfield 30, 3) := dr_dd nD_M_seen_1 12 rfl
theorem d_M_seen_98 : decode prog_6_method_33_code 98 = .ok (.iload 6, 2) := dr_dd nD_M_seen_1 13 rfl
theorem d_M_seen_100 : decode prog_6_method_33_code 100 = .ok (.iaload, 1) := dr_dd nD_M_seen_1 14 rfl
theorem d_M_seen_101 : decode prog_6_method_33_code 101 = .ok (.iload_n 2, 1) := dr_dd nD_M_seen_1 15 rfl
theorem d_M_seen_102 : decode prog_6_method_33_code 102 = .ok (.if_icmp .eq 6, 3) := dr_dd nD_M_seen_1 16 rfl
theorem d_M_seen_105 : decode prog_6_method_33_code 105 = .ok (.goto 14, 3) := dr_dd nD_M_seen_1 17 rfl
theorem d_M_seen_108 : decode prog_6_method_33_code 108 = .ok (.iload 4, 2) := dr_dd nD_M_seen_1 18 rfl
theorem d_M_seen_110 : decode prog_6_method_33_code 110 = .ok (.ifCond .ne 6, 3) := dr_dd nD_M_seen_1 19 rfl
theorem d_M_seen_113 : decode prog_6_method_33_code 113 = .ok (.iload 5, 2) := dr_dd nD_M_seen_1 20 rfl
theorem d_M_seen_115 : decode prog_6_method_33_code 115 = .ok (.ireturn, 1) := dr_dd nD_M_seen_1 21 rfl
theorem d_M_seen_116 : decode prog_6_method_33_code 116 = .ok (.iinc 4 (-1), 3) := dr_dd nD_M_seen_1 22 rfl
theorem d_M_seen_119 : decode prog_6_method_33_code 119 = .ok (.iinc 5 1, 3) := dr_dd nD_M_seen_1 23 rfl
theorem d_M_seen_122 : decode prog_6_method_33_code 122 = .ok (.goto (-74), 3) := dr_dd nD_M_seen_1 24 rfl
theorem d_M_seen_125 : decode prog_6_method_33_code 125 = .ok (.iconst (-1), 1) := dr_dd nD_M_seen_1 25 rfl
theorem d_M_seen_126 : decode prog_6_method_33_code 126 = .ok (.ireturn, 1) := dr_dd nD_M_seen_1 26 rfl
abbrev nL_M_fault_0 : List (Nat × Instr × Nat) := [(0, .aload_n 0, 1), (1, .aload_n 0, 1), (2, .iload_n 1, 1), (3, .invokevirtual 167, 3), (6, .ifCond .eq 17, 3), (9, .iload_n 2, 1), (10, .iconst 1, 1), (11, .bipush 9, 2), (13, .invokestatic 90, 3), (16, .ifCond .eq 7, 3), (19, .iconst 1, 1), (20, .goto 4, 3), (23, .iconst 0, 1), (24, .iconst 1, 1), (25, .iconst 1, 1), (26, .invokevirtual 97, 3), (29, .ifCond .eq 12, 3), (32, .aload_n 0, 1), (33, .getfield 57, 3), (36, .iload_n 1, 1), (37, .baload, 1), (38, .ifCond .eq 5, 3), (41, .iconst 0, 1), (42, .ireturn, 1), (43, .iconst 1, 1), (44, .istore_n 3, 1), (45, .iload_n 3, 1), (46, .bipush 41, 2), (48, .if_icmp .ge 54, 3), (51, .aload_n 0, 1), (52, .getfield 17, 3), (55, .iload_n 1, 1), (56, .bipush 41, 2), (58, .imul, 1), (59, .iload_n 3, 1), (60, .iadd, 1), (61, .baload, 1), (62, .ifCond .eq 34, 3), (65, .aload_n 0, 1), (66, .getfield 60, 3)]
theorem nD_M_fault_0 : ∀ q ∈ nL_M_fault_0, decode prog_6_method_34_code q.1 = .ok (q.2.1, q.2.2) := by decide +kernel
theorem d_M_fault_0 : decode prog_6_method_34_code 0 = .ok (.aload_n 0, 1) := dr_dd nD_M_fault_0 0 rfl
theorem d_M_fault_1 : decode prog_6_method_34_code 1 = .ok (.aload_n 0, 1) := dr_dd nD_M_fault_0 1 rfl
theorem d_M_fault_2 : decode prog_6_method_34_code 2 = .ok (.iload_n 1, 1) := dr_dd nD_M_fault_0 2 rfl
theorem d_M_fault_3 : decode prog_6_method_34_code 3 = .ok (.invokevirtual 167, 3) := dr_dd nD_M_fault_0 3 rfl
theorem d_M_fault_6 : decode prog_6_method_34_code 6 = .ok (.ifCond .eq 17, 3) := dr_dd nD_M_fault_0 4 rfl
theorem d_M_fault_9 : decode prog_6_method_34_code 9 = .ok (.iload_n 2, 1) := dr_dd nD_M_fault_0 5 rfl
theorem d_M_fault_10 : decode prog_6_method_34_code 10 = .ok (.iconst 1, 1) := dr_dd nD_M_fault_0 6 rfl
theorem d_M_fault_11 : decode prog_6_method_34_code 11 = .ok (.bipush 9, 2) := dr_dd nD_M_fault_0 7 rfl
theorem d_M_fault_13 : decode prog_6_method_34_code 13 = .ok (.invokestatic 90, 3) := dr_dd nD_M_fault_0 8 rfl
theorem d_M_fault_16 : decode prog_6_method_34_code 16 = .ok (.ifCond .eq 7, 3) := dr_dd nD_M_fault_0 9 rfl
theorem d_M_fault_19 : decode prog_6_method_34_code 19 = .ok (.iconst 1, 1) := dr_dd nD_M_fault_0 10 rfl
theorem d_M_fault_20 : decode prog_6_method_34_code 20 = .ok (.goto 4, 3) := dr_dd nD_M_fault_0 11 rfl
theorem d_M_fault_23 : decode prog_6_method_34_code 23 = .ok (.iconst 0, 1) := dr_dd nD_M_fault_0 12 rfl
theorem d_M_fault_24 : decode prog_6_method_34_code 24 = .ok (.iconst 1, 1) := dr_dd nD_M_fault_0 13 rfl
theorem d_M_fault_25 : decode prog_6_method_34_code 25 = .ok (.iconst 1, 1) := dr_dd nD_M_fault_0 14 rfl
theorem d_M_fault_26 : decode prog_6_method_34_code 26 = .ok (.invokevirtual 97, 3) := dr_dd nD_M_fault_0 15 rfl
theorem d_M_fault_29 : decode prog_6_method_34_code 29 = .ok (.ifCond .eq 12, 3) := dr_dd nD_M_fault_0 16 rfl
theorem d_M_fault_32 : decode prog_6_method_34_code 32 = .ok (.aload_n 0, 1) := dr_dd nD_M_fault_0 17 rfl
theorem d_M_fault_33 : decode prog_6_method_34_code 33 = .ok (.getfield 57, 3) := dr_dd nD_M_fault_0 18 rfl
theorem d_M_fault_36 : decode prog_6_method_34_code 36 = .ok (.iload_n 1, 1) := dr_dd nD_M_fault_0 19 rfl
theorem d_M_fault_37 : decode prog_6_method_34_code 37 = .ok (.baload, 1) := dr_dd nD_M_fault_0 20 rfl
theorem d_M_fault_38 : decode prog_6_method_34_code 38 = .ok (.ifCond .eq 5, 3) := dr_dd nD_M_fault_0 21 rfl
theorem d_M_fault_41 : decode prog_6_method_34_code 41 = .ok (.iconst 0, 1) := dr_dd nD_M_fault_0 22 rfl
theorem d_M_fault_42 : decode prog_6_method_34_code 42 = .ok (.ireturn, 1) := dr_dd nD_M_fault_0 23 rfl
theorem d_M_fault_43 : decode prog_6_method_34_code 43 = .ok (.iconst 1, 1) := dr_dd nD_M_fault_0 24 rfl
theorem d_M_fault_44 : decode prog_6_method_34_code 44 = .ok (.istore_n 3, 1) := dr_dd nD_M_fault_0 25 rfl
theorem d_M_fault_45 : decode prog_6_method_34_code 45 = .ok (.iload_n 3, 1) := dr_dd nD_M_fault_0 26 rfl
theorem d_M_fault_46 : decode prog_6_method_34_code 46 = .ok (.bipush 41, 2) := dr_dd nD_M_fault_0 27 rfl
theorem d_M_fault_48 : decode prog_6_method_34_code 48 = .ok (.if_icmp .ge 54, 3) := dr_dd nD_M_fault_0 28 rfl
theorem d_M_fault_51 : decode prog_6_method_34_code 51 = .ok (.aload_n 0, 1) := dr_dd nD_M_fault_0 29 rfl
theorem d_M_fault_52 : decode prog_6_method_34_code 52 = .ok (.getfield 17, 3) := dr_dd nD_M_fault_0 30 rfl
theorem d_M_fault_55 : decode prog_6_method_34_code 55 = .ok (.iload_n 1, 1) := dr_dd nD_M_fault_0 31 rfl
theorem d_M_fault_56 : decode prog_6_method_34_code 56 = .ok (.bipush 41, 2) := dr_dd nD_M_fault_0 32 rfl
theorem d_M_fault_58 : decode prog_6_method_34_code 58 = .ok (.imul, 1) := dr_dd nD_M_fault_0 33 rfl
theorem d_M_fault_59 : decode prog_6_method_34_code 59 = .ok (.iload_n 3, 1) := dr_dd nD_M_fault_0 34 rfl
theorem d_M_fault_60 : decode prog_6_method_34_code 60 = .ok (.iadd, 1) := dr_dd nD_M_fault_0 35 rfl
theorem d_M_fault_61 : decode prog_6_method_34_code 61 = .ok (.baload, 1) := dr_dd nD_M_fault_0 36 rfl
theorem d_M_fault_62 : decode prog_6_method_34_code 62 = .ok (.ifCond .eq 34, 3) := dr_dd nD_M_fault_0 37 rfl
theorem d_M_fault_65 : decode prog_6_method_34_code 65 = .ok (.aload_n 0, 1) := dr_dd nD_M_fault_0 38 rfl
theorem d_M_fault_66 : decode prog_6_method_34_code 66 = .ok (.getfield 60, 3) := dr_dd nD_M_fault_0 39 rfl
abbrev nL_M_fault_1 : List (Nat × Instr × Nat) := [(69, .iload_n 1, 1), (70, .bipush 41, 2), (72, .imul, 1), (73, .iload_n 3, 1), (74, .iadd, 1), (75, .iaload, 1), (76, .ifCond .lt 20, 3), (79, .aload_n 0, 1), (80, .getfield 36, 3), (83, .iload_n 1, 1), (84, .bipush 41, 2), (86, .imul, 1), (87, .iload_n 3, 1), (88, .iadd, 1), (89, .iaload, 1), (90, .iload_n 2, 1), (91, .if_icmp .ne 5, 3), (94, .iconst 1, 1), (95, .ireturn, 1), (96, .iinc 3 1, 3), (99, .goto (-54), 3), (102, .iconst 0, 1), (103, .ireturn, 1)]
theorem nD_M_fault_1 : ∀ q ∈ nL_M_fault_1, decode prog_6_method_34_code q.1 = .ok (q.2.1, q.2.2) := by decide +kernel
theorem d_M_fault_69 : decode prog_6_method_34_code 69 = .ok (.iload_n 1, 1) := dr_dd nD_M_fault_1 0 rfl
theorem d_M_fault_70 : decode prog_6_method_34_code 70 = .ok (.bipush 41, 2) := dr_dd nD_M_fault_1 1 rfl
theorem d_M_fault_72 : decode prog_6_method_34_code 72 = .ok (.imul, 1) := dr_dd nD_M_fault_1 2 rfl
theorem d_M_fault_73 : decode prog_6_method_34_code 73 = .ok (.iload_n 3, 1) := dr_dd nD_M_fault_1 3 rfl
theorem d_M_fault_74 : decode prog_6_method_34_code 74 = .ok (.iadd, 1) := dr_dd nD_M_fault_1 4 rfl
theorem d_M_fault_75 : decode prog_6_method_34_code 75 = .ok (.iaload, 1) := dr_dd nD_M_fault_1 5 rfl
theorem d_M_fault_76 : decode prog_6_method_34_code 76 = .ok (.ifCond .lt 20, 3) := dr_dd nD_M_fault_1 6 rfl
theorem d_M_fault_79 : decode prog_6_method_34_code 79 = .ok (.aload_n 0, 1) := dr_dd nD_M_fault_1 7 rfl
theorem d_M_fault_80 : decode prog_6_method_34_code 80 = .ok (.getfield 36, 3) := dr_dd nD_M_fault_1 8 rfl
theorem d_M_fault_83 : decode prog_6_method_34_code 83 = .ok (.iload_n 1, 1) := dr_dd nD_M_fault_1 9 rfl
theorem d_M_fault_84 : decode prog_6_method_34_code 84 = .ok (.bipush 41, 2) := dr_dd nD_M_fault_1 10 rfl
theorem d_M_fault_86 : decode prog_6_method_34_code 86 = .ok (.imul, 1) := dr_dd nD_M_fault_1 11 rfl
theorem d_M_fault_87 : decode prog_6_method_34_code 87 = .ok (.iload_n 3, 1) := dr_dd nD_M_fault_1 12 rfl
theorem d_M_fault_88 : decode prog_6_method_34_code 88 = .ok (.iadd, 1) := dr_dd nD_M_fault_1 13 rfl
theorem d_M_fault_89 : decode prog_6_method_34_code 89 = .ok (.iaload, 1) := dr_dd nD_M_fault_1 14 rfl
theorem d_M_fault_90 : decode prog_6_method_34_code 90 = .ok (.iload_n 2, 1) := dr_dd nD_M_fault_1 15 rfl
theorem d_M_fault_91 : decode prog_6_method_34_code 91 = .ok (.if_icmp .ne 5, 3) := dr_dd nD_M_fault_1 16 rfl
theorem d_M_fault_94 : decode prog_6_method_34_code 94 = .ok (.iconst 1, 1) := dr_dd nD_M_fault_1 17 rfl
theorem d_M_fault_95 : decode prog_6_method_34_code 95 = .ok (.ireturn, 1) := dr_dd nD_M_fault_1 18 rfl
theorem d_M_fault_96 : decode prog_6_method_34_code 96 = .ok (.iinc 3 1, 3) := dr_dd nD_M_fault_1 19 rfl
theorem d_M_fault_99 : decode prog_6_method_34_code 99 = .ok (.goto (-54), 3) := dr_dd nD_M_fault_1 20 rfl
theorem d_M_fault_102 : decode prog_6_method_34_code 102 = .ok (.iconst 0, 1) := dr_dd nD_M_fault_1 21 rfl
theorem d_M_fault_103 : decode prog_6_method_34_code 103 = .ok (.ireturn, 1) := dr_dd nD_M_fault_1 22 rfl
abbrev nL_M_is_0 : List (Nat × Instr × Nat) := [(0, .iload_n 1, 1), (1, .bipush 21, 2), (3, .imul, 1), (4, .iload_n 2, 1), (5, .iadd, 1), (6, .istore_n 3, 1), (7, .aload_n 0, 1), (8, .getfield 60, 3), (11, .iload_n 1, 1), (12, .bipush 41, 2), (14, .imul, 1), (15, .aload_n 0, 1), (16, .getfield 42, 3), (19, .iload_n 3, 1), (20, .iaload, 1), (21, .iadd, 1), (22, .iaload, 1), (23, .istore 4, 2), (25, .iload 4, 2), (27, .ifCond .lt 58, 3), (30, .aload_n 0, 1), (31, .iload_n 1, 1), (32, .aload_n 0, 1), (33, .getfield 45, 3), (36, .iload_n 3, 1), (37, .iaload, 1), (38, .iload 4, 2), (40, .invokevirtual 153, 3), (43, .istore 5, 2), (45, .iload 5, 2), (47, .ifCond .lt 19, 3), (50, .iload 5, 2), (52, .iload 4, 2), (54, .aload_n 0, 1), (55, .getfield 48, 3), (58, .iload_n 3, 1), (59, .iaload, 1), (60, .iadd, 1), (61, .if_icmp .gt 5, 3), (64, .iconst 1, 1)]
theorem nD_M_is_0 : ∀ q ∈ nL_M_is_0, decode prog_6_method_35_code q.1 = .ok (q.2.1, q.2.2) := by decide +kernel
theorem d_M_is_0 : decode prog_6_method_35_code 0 = .ok (.iload_n 1, 1) := dr_dd nD_M_is_0 0 rfl
theorem d_M_is_1 : decode prog_6_method_35_code 1 = .ok (.bipush 21, 2) := dr_dd nD_M_is_0 1 rfl
theorem d_M_is_3 : decode prog_6_method_35_code 3 = .ok (.imul, 1) := dr_dd nD_M_is_0 2 rfl
theorem d_M_is_4 : decode prog_6_method_35_code 4 = .ok (.iload_n 2, 1) := dr_dd nD_M_is_0 3 rfl
theorem d_M_is_5 : decode prog_6_method_35_code 5 = .ok (.iadd, 1) := dr_dd nD_M_is_0 4 rfl
theorem d_M_is_6 : decode prog_6_method_35_code 6 = .ok (.istore_n 3, 1) := dr_dd nD_M_is_0 5 rfl
theorem d_M_is_7 : decode prog_6_method_35_code 7 = .ok (.aload_n 0, 1) := dr_dd nD_M_is_0 6 rfl
theorem d_M_is_8 : decode prog_6_method_35_code 8 = .ok (.getfield 60, 3) := dr_dd nD_M_is_0 7 rfl
theorem d_M_is_11 : decode prog_6_method_35_code 11 = .ok (.iload_n 1, 1) := dr_dd nD_M_is_0 8 rfl
theorem d_M_is_12 : decode prog_6_method_35_code 12 = .ok (.bipush 41, 2) := dr_dd nD_M_is_0 9 rfl
theorem d_M_is_14 : decode prog_6_method_35_code 14 = .ok (.imul, 1) := dr_dd nD_M_is_0 10 rfl
theorem d_M_is_15 : decode prog_6_method_35_code 15 = .ok (.aload_n 0, 1) := dr_dd nD_M_is_0 11 rfl
theorem d_M_is_16 : decode prog_6_method_35_code 16 = .ok (.getfield 42, 3) := dr_dd nD_M_is_0 12 rfl
theorem d_M_is_19 : decode prog_6_method_35_code 19 = .ok (.iload_n 3, 1) := dr_dd nD_M_is_0 13 rfl
theorem d_M_is_20 : decode prog_6_method_35_code 20 = .ok (.iaload, 1) := dr_dd nD_M_is_0 14 rfl
theorem d_M_is_21 : decode prog_6_method_35_code 21 = .ok (.iadd, 1) := dr_dd nD_M_is_0 15 rfl
theorem d_M_is_22 : decode prog_6_method_35_code 22 = .ok (.iaload, 1) := dr_dd nD_M_is_0 16 rfl
theorem d_M_is_23 : decode prog_6_method_35_code 23 = .ok (.istore 4, 2) := dr_dd nD_M_is_0 17 rfl
theorem d_M_is_25 : decode prog_6_method_35_code 25 = .ok (.iload 4, 2) := dr_dd nD_M_is_0 18 rfl
theorem d_M_is_27 : decode prog_6_method_35_code 27 = .ok (.ifCond .lt 58, 3) := dr_dd nD_M_is_0 19 rfl
theorem d_M_is_30 : decode prog_6_method_35_code 30 = .ok (.aload_n 0, 1) := dr_dd nD_M_is_0 20 rfl
theorem d_M_is_31 : decode prog_6_method_35_code 31 = .ok (.iload_n 1, 1) := dr_dd nD_M_is_0 21 rfl
theorem d_M_is_32 : decode prog_6_method_35_code 32 = .ok (.aload_n 0, 1) := dr_dd nD_M_is_0 22 rfl
theorem d_M_is_33 : decode prog_6_method_35_code 33 = .ok (.getfield 45, 3) := dr_dd nD_M_is_0 23 rfl
theorem d_M_is_36 : decode prog_6_method_35_code 36 = .ok (.iload_n 3, 1) := dr_dd nD_M_is_0 24 rfl
theorem d_M_is_37 : decode prog_6_method_35_code 37 = .ok (.iaload, 1) := dr_dd nD_M_is_0 25 rfl
theorem d_M_is_38 : decode prog_6_method_35_code 38 = .ok (.iload 4, 2) := dr_dd nD_M_is_0 26 rfl
theorem d_M_is_40 : decode prog_6_method_35_code 40 = .ok (.invokevirtual 153, 3) := dr_dd nD_M_is_0 27 rfl
theorem d_M_is_43 : decode prog_6_method_35_code 43 = .ok (.istore 5, 2) := dr_dd nD_M_is_0 28 rfl
theorem d_M_is_45 : decode prog_6_method_35_code 45 = .ok (.iload 5, 2) := dr_dd nD_M_is_0 29 rfl
theorem d_M_is_47 : decode prog_6_method_35_code 47 = .ok (.ifCond .lt 19, 3) := dr_dd nD_M_is_0 30 rfl
theorem d_M_is_50 : decode prog_6_method_35_code 50 = .ok (.iload 5, 2) := dr_dd nD_M_is_0 31 rfl
theorem d_M_is_52 : decode prog_6_method_35_code 52 = .ok (.iload 4, 2) := dr_dd nD_M_is_0 32 rfl
theorem d_M_is_54 : decode prog_6_method_35_code 54 = .ok (.aload_n 0, 1) := dr_dd nD_M_is_0 33 rfl
theorem d_M_is_55 : decode prog_6_method_35_code 55 = .ok (.getfield 48, 3) := dr_dd nD_M_is_0 34 rfl
theorem d_M_is_58 : decode prog_6_method_35_code 58 = .ok (.iload_n 3, 1) := dr_dd nD_M_is_0 35 rfl
theorem d_M_is_59 : decode prog_6_method_35_code 59 = .ok (.iaload, 1) := dr_dd nD_M_is_0 36 rfl
theorem d_M_is_60 : decode prog_6_method_35_code 60 = .ok (.iadd, 1) := dr_dd nD_M_is_0 37 rfl
theorem d_M_is_61 : decode prog_6_method_35_code 61 = .ok (.if_icmp .gt 5, 3) := dr_dd nD_M_is_0 38 rfl
theorem d_M_is_64 : decode prog_6_method_35_code 64 = .ok (.iconst 1, 1) := dr_dd nD_M_is_0 39 rfl
abbrev nL_M_is_1 : List (Nat × Instr × Nat) := [(65, .ireturn, 1), (66, .aload_n 0, 1), (67, .iload_n 1, 1), (68, .invokevirtual 150, 3), (71, .iload 4, 2), (73, .aload_n 0, 1), (74, .getfield 48, 3), (77, .iload_n 3, 1), (78, .iaload, 1), (79, .iadd, 1), (80, .if_icmp .le 5, 3), (83, .iconst 2, 1), (84, .ireturn, 1), (85, .aload_n 0, 1), (86, .getfield 57, 3), (89, .iload_n 1, 1), (90, .baload, 1), (91, .ifCond .eq 7, 3), (94, .iconst 2, 1), (95, .goto 4, 3), (98, .iconst 0, 1), (99, .ireturn, 1)]
theorem nD_M_is_1 : ∀ q ∈ nL_M_is_1, decode prog_6_method_35_code q.1 = .ok (q.2.1, q.2.2) := by decide +kernel
theorem d_M_is_65 : decode prog_6_method_35_code 65 = .ok (.ireturn, 1) := dr_dd nD_M_is_1 0 rfl
theorem d_M_is_66 : decode prog_6_method_35_code 66 = .ok (.aload_n 0, 1) := dr_dd nD_M_is_1 1 rfl
theorem d_M_is_67 : decode prog_6_method_35_code 67 = .ok (.iload_n 1, 1) := dr_dd nD_M_is_1 2 rfl
theorem d_M_is_68 : decode prog_6_method_35_code 68 = .ok (.invokevirtual 150, 3) := dr_dd nD_M_is_1 3 rfl
theorem d_M_is_71 : decode prog_6_method_35_code 71 = .ok (.iload 4, 2) := dr_dd nD_M_is_1 4 rfl
theorem d_M_is_73 : decode prog_6_method_35_code 73 = .ok (.aload_n 0, 1) := dr_dd nD_M_is_1 5 rfl
theorem d_M_is_74 : decode prog_6_method_35_code 74 = .ok (.getfield 48, 3) := dr_dd nD_M_is_1 6 rfl
theorem d_M_is_77 : decode prog_6_method_35_code 77 = .ok (.iload_n 3, 1) := dr_dd nD_M_is_1 7 rfl
theorem d_M_is_78 : decode prog_6_method_35_code 78 = .ok (.iaload, 1) := dr_dd nD_M_is_1 8 rfl
theorem d_M_is_79 : decode prog_6_method_35_code 79 = .ok (.iadd, 1) := dr_dd nD_M_is_1 9 rfl
theorem d_M_is_80 : decode prog_6_method_35_code 80 = .ok (.if_icmp .le 5, 3) := dr_dd nD_M_is_1 10 rfl
theorem d_M_is_83 : decode prog_6_method_35_code 83 = .ok (.iconst 2, 1) := dr_dd nD_M_is_1 11 rfl
theorem d_M_is_84 : decode prog_6_method_35_code 84 = .ok (.ireturn, 1) := dr_dd nD_M_is_1 12 rfl
theorem d_M_is_85 : decode prog_6_method_35_code 85 = .ok (.aload_n 0, 1) := dr_dd nD_M_is_1 13 rfl
theorem d_M_is_86 : decode prog_6_method_35_code 86 = .ok (.getfield 57, 3) := dr_dd nD_M_is_1 14 rfl
theorem d_M_is_89 : decode prog_6_method_35_code 89 = .ok (.iload_n 1, 1) := dr_dd nD_M_is_1 15 rfl
theorem d_M_is_90 : decode prog_6_method_35_code 90 = .ok (.baload, 1) := dr_dd nD_M_is_1 16 rfl
theorem d_M_is_91 : decode prog_6_method_35_code 91 = .ok (.ifCond .eq 7, 3) := dr_dd nD_M_is_1 17 rfl
theorem d_M_is_94 : decode prog_6_method_35_code 94 = .ok (.iconst 2, 1) := dr_dd nD_M_is_1 18 rfl
theorem d_M_is_95 : decode prog_6_method_35_code 95 = .ok (.goto 4, 3) := dr_dd nD_M_is_1 19 rfl
theorem d_M_is_98 : decode prog_6_method_35_code 98 = .ok (.iconst 0, 1) := dr_dd nD_M_is_1 20 rfl
theorem d_M_is_99 : decode prog_6_method_35_code 99 = .ok (.ireturn, 1) := dr_dd nD_M_is_1 21 rfl
abbrev nL_M_aim_0 : List (Nat × Instr × Nat) := [(0, .aload_n 0, 1), (1, .iload_n 1, 1), (2, .invokevirtual 167, 3), (5, .ifCond .eq 17, 3), (8, .iload_n 2, 1), (9, .iconst 1, 1), (10, .bipush 20, 2), (12, .invokestatic 90, 3), (15, .ifCond .eq 7, 3), (18, .iconst 1, 1), (19, .goto 4, 3), (22, .iconst 0, 1), (23, .istore_n 3, 1), (24, .aload_n 0, 1), (25, .iload_n 3, 1), (26, .ifCond .eq 29, 3), (29, .aload_n 0, 1), (30, .getfield 39, 3), (33, .iload_n 3, 1), (34, .ifCond .eq 12, 3), (37, .iload_n 1, 1), (38, .bipush 21, 2), (40, .imul, 1), (41, .iload_n 2, 1), (42, .iadd, 1), (43, .goto 4, 3), (46, .iconst 0, 1), (47, .baload, 1), (48, .ifCond .eq 7, 3), (51, .iconst 1, 1), (52, .goto 4, 3), (55, .iconst 0, 1), (56, .iconst 1, 1), (57, .iconst 1, 1), (58, .invokevirtual 97, 3), (61, .ifCond .ne 5, 3), (64, .iconst 0, 1), (65, .ireturn, 1), (66, .aload_n 0, 1), (67, .iload_n 1, 1)]
theorem nD_M_aim_0 : ∀ q ∈ nL_M_aim_0, decode prog_6_method_36_code q.1 = .ok (q.2.1, q.2.2) := by decide +kernel
theorem d_M_aim_0 : decode prog_6_method_36_code 0 = .ok (.aload_n 0, 1) := dr_dd nD_M_aim_0 0 rfl
theorem d_M_aim_1 : decode prog_6_method_36_code 1 = .ok (.iload_n 1, 1) := dr_dd nD_M_aim_0 1 rfl
theorem d_M_aim_2 : decode prog_6_method_36_code 2 = .ok (.invokevirtual 167, 3) := dr_dd nD_M_aim_0 2 rfl
theorem d_M_aim_5 : decode prog_6_method_36_code 5 = .ok (.ifCond .eq 17, 3) := dr_dd nD_M_aim_0 3 rfl
theorem d_M_aim_8 : decode prog_6_method_36_code 8 = .ok (.iload_n 2, 1) := dr_dd nD_M_aim_0 4 rfl
theorem d_M_aim_9 : decode prog_6_method_36_code 9 = .ok (.iconst 1, 1) := dr_dd nD_M_aim_0 5 rfl
theorem d_M_aim_10 : decode prog_6_method_36_code 10 = .ok (.bipush 20, 2) := dr_dd nD_M_aim_0 6 rfl
theorem d_M_aim_12 : decode prog_6_method_36_code 12 = .ok (.invokestatic 90, 3) := dr_dd nD_M_aim_0 7 rfl
theorem d_M_aim_15 : decode prog_6_method_36_code 15 = .ok (.ifCond .eq 7, 3) := dr_dd nD_M_aim_0 8 rfl
theorem d_M_aim_18 : decode prog_6_method_36_code 18 = .ok (.iconst 1, 1) := dr_dd nD_M_aim_0 9 rfl
theorem d_M_aim_19 : decode prog_6_method_36_code 19 = .ok (.goto 4, 3) := dr_dd nD_M_aim_0 10 rfl
theorem d_M_aim_22 : decode prog_6_method_36_code 22 = .ok (.iconst 0, 1) := dr_dd nD_M_aim_0 11 rfl
theorem d_M_aim_23 : decode prog_6_method_36_code 23 = .ok (.istore_n 3, 1) := dr_dd nD_M_aim_0 12 rfl
theorem d_M_aim_24 : decode prog_6_method_36_code 24 = .ok (.aload_n 0, 1) := dr_dd nD_M_aim_0 13 rfl
theorem d_M_aim_25 : decode prog_6_method_36_code 25 = .ok (.iload_n 3, 1) := dr_dd nD_M_aim_0 14 rfl
theorem d_M_aim_26 : decode prog_6_method_36_code 26 = .ok (.ifCond .eq 29, 3) := dr_dd nD_M_aim_0 15 rfl
theorem d_M_aim_29 : decode prog_6_method_36_code 29 = .ok (.aload_n 0, 1) := dr_dd nD_M_aim_0 16 rfl
theorem d_M_aim_30 : decode prog_6_method_36_code 30 = .ok (.getfield 39, 3) := dr_dd nD_M_aim_0 17 rfl
theorem d_M_aim_33 : decode prog_6_method_36_code 33 = .ok (.iload_n 3, 1) := dr_dd nD_M_aim_0 18 rfl
theorem d_M_aim_34 : decode prog_6_method_36_code 34 = .ok (.ifCond .eq 12, 3) := dr_dd nD_M_aim_0 19 rfl
theorem d_M_aim_37 : decode prog_6_method_36_code 37 = .ok (.iload_n 1, 1) := dr_dd nD_M_aim_0 20 rfl
theorem d_M_aim_38 : decode prog_6_method_36_code 38 = .ok (.bipush 21, 2) := dr_dd nD_M_aim_0 21 rfl
theorem d_M_aim_40 : decode prog_6_method_36_code 40 = .ok (.imul, 1) := dr_dd nD_M_aim_0 22 rfl
theorem d_M_aim_41 : decode prog_6_method_36_code 41 = .ok (.iload_n 2, 1) := dr_dd nD_M_aim_0 23 rfl
theorem d_M_aim_42 : decode prog_6_method_36_code 42 = .ok (.iadd, 1) := dr_dd nD_M_aim_0 24 rfl
theorem d_M_aim_43 : decode prog_6_method_36_code 43 = .ok (.goto 4, 3) := dr_dd nD_M_aim_0 25 rfl
theorem d_M_aim_46 : decode prog_6_method_36_code 46 = .ok (.iconst 0, 1) := dr_dd nD_M_aim_0 26 rfl
theorem d_M_aim_47 : decode prog_6_method_36_code 47 = .ok (.baload, 1) := dr_dd nD_M_aim_0 27 rfl
theorem d_M_aim_48 : decode prog_6_method_36_code 48 = .ok (.ifCond .eq 7, 3) := dr_dd nD_M_aim_0 28 rfl
theorem d_M_aim_51 : decode prog_6_method_36_code 51 = .ok (.iconst 1, 1) := dr_dd nD_M_aim_0 29 rfl
theorem d_M_aim_52 : decode prog_6_method_36_code 52 = .ok (.goto 4, 3) := dr_dd nD_M_aim_0 30 rfl
theorem d_M_aim_55 : decode prog_6_method_36_code 55 = .ok (.iconst 0, 1) := dr_dd nD_M_aim_0 31 rfl
theorem d_M_aim_56 : decode prog_6_method_36_code 56 = .ok (.iconst 1, 1) := dr_dd nD_M_aim_0 32 rfl
theorem d_M_aim_57 : decode prog_6_method_36_code 57 = .ok (.iconst 1, 1) := dr_dd nD_M_aim_0 33 rfl
theorem d_M_aim_58 : decode prog_6_method_36_code 58 = .ok (.invokevirtual 97, 3) := dr_dd nD_M_aim_0 34 rfl
theorem d_M_aim_61 : decode prog_6_method_36_code 61 = .ok (.ifCond .ne 5, 3) := dr_dd nD_M_aim_0 35 rfl
theorem d_M_aim_64 : decode prog_6_method_36_code 64 = .ok (.iconst 0, 1) := dr_dd nD_M_aim_0 36 rfl
theorem d_M_aim_65 : decode prog_6_method_36_code 65 = .ok (.ireturn, 1) := dr_dd nD_M_aim_0 37 rfl
theorem d_M_aim_66 : decode prog_6_method_36_code 66 = .ok (.aload_n 0, 1) := dr_dd nD_M_aim_0 38 rfl
theorem d_M_aim_67 : decode prog_6_method_36_code 67 = .ok (.iload_n 1, 1) := dr_dd nD_M_aim_0 39 rfl
abbrev nL_M_aim_1 : List (Nat × Instr × Nat) := [(68, .iload_n 2, 1), (69, .invokevirtual 175, 3), (72, .ireturn, 1)]
theorem nD_M_aim_1 : ∀ q ∈ nL_M_aim_1, decode prog_6_method_36_code q.1 = .ok (q.2.1, q.2.2) := by decide +kernel
theorem d_M_aim_68 : decode prog_6_method_36_code 68 = .ok (.iload_n 2, 1) := dr_dd nD_M_aim_1 0 rfl
theorem d_M_aim_69 : decode prog_6_method_36_code 69 = .ok (.invokevirtual 175, 3) := dr_dd nD_M_aim_1 1 rfl
theorem d_M_aim_72 : decode prog_6_method_36_code 72 = .ok (.ireturn, 1) := dr_dd nD_M_aim_1 2 rfl
abbrev nL_M_score_0 : List (Nat × Instr × Nat) := [(0, .aload_n 0, 1), (1, .iload_n 1, 1), (2, .invokevirtual 167, 3), (5, .ifCond .eq 16, 3), (8, .iload_n 2, 1), (9, .iconst 0, 1), (10, .iconst 1, 1), (11, .invokestatic 90, 3), (14, .ifCond .eq 7, 3), (17, .iconst 1, 1), (18, .goto 4, 3), (21, .iconst 0, 1), (22, .istore_n 3, 1), (23, .iconst 0, 1), (24, .istore 4, 2), (26, .iconst 0, 1), (27, .istore 5, 2), (29, .iconst 1, 1), (30, .istore 6, 2), (32, .iload 6, 2), (34, .bipush 21, 2), (36, .if_icmp .ge 76, 3), (39, .iload_n 3, 1), (40, .ifCond .eq 72, 3), (43, .aload_n 0, 1), (44, .getfield 39, 3), (47, .iload_n 1, 1), (48, .bipush 21, 2), (50, .imul, 1), (51, .iload 6, 2), (53, .iadd, 1), (54, .baload, 1), (55, .ifCond .ne 6, 3), (58, .goto 48, 3), (61, .iload 5, 2), (63, .aload_n 0, 1), (64, .getfield 51, 3), (67, .iload_n 1, 1), (68, .bipush 21, 2), (70, .imul, 1)]
theorem nD_M_score_0 : ∀ q ∈ nL_M_score_0, decode prog_6_method_37_code q.1 = .ok (q.2.1, q.2.2) := by decide +kernel
theorem d_M_score_0 : decode prog_6_method_37_code 0 = .ok (.aload_n 0, 1) := dr_dd nD_M_score_0 0 rfl
theorem d_M_score_1 : decode prog_6_method_37_code 1 = .ok (.iload_n 1, 1) := dr_dd nD_M_score_0 1 rfl
theorem d_M_score_2 : decode prog_6_method_37_code 2 = .ok (.invokevirtual 167, 3) := dr_dd nD_M_score_0 2 rfl
theorem d_M_score_5 : decode prog_6_method_37_code 5 = .ok (.ifCond .eq 16, 3) := dr_dd nD_M_score_0 3 rfl
theorem d_M_score_8 : decode prog_6_method_37_code 8 = .ok (.iload_n 2, 1) := dr_dd nD_M_score_0 4 rfl
theorem d_M_score_9 : decode prog_6_method_37_code 9 = .ok (.iconst 0, 1) := dr_dd nD_M_score_0 5 rfl
theorem d_M_score_10 : decode prog_6_method_37_code 10 = .ok (.iconst 1, 1) := dr_dd nD_M_score_0 6 rfl
theorem d_M_score_11 : decode prog_6_method_37_code 11 = .ok (.invokestatic 90, 3) := dr_dd nD_M_score_0 7 rfl
theorem d_M_score_14 : decode prog_6_method_37_code 14 = .ok (.ifCond .eq 7, 3) := dr_dd nD_M_score_0 8 rfl
theorem d_M_score_17 : decode prog_6_method_37_code 17 = .ok (.iconst 1, 1) := dr_dd nD_M_score_0 9 rfl
theorem d_M_score_18 : decode prog_6_method_37_code 18 = .ok (.goto 4, 3) := dr_dd nD_M_score_0 10 rfl
theorem d_M_score_21 : decode prog_6_method_37_code 21 = .ok (.iconst 0, 1) := dr_dd nD_M_score_0 11 rfl
theorem d_M_score_22 : decode prog_6_method_37_code 22 = .ok (.istore_n 3, 1) := dr_dd nD_M_score_0 12 rfl
theorem d_M_score_23 : decode prog_6_method_37_code 23 = .ok (.iconst 0, 1) := dr_dd nD_M_score_0 13 rfl
theorem d_M_score_24 : decode prog_6_method_37_code 24 = .ok (.istore 4, 2) := dr_dd nD_M_score_0 14 rfl
theorem d_M_score_26 : decode prog_6_method_37_code 26 = .ok (.iconst 0, 1) := dr_dd nD_M_score_0 15 rfl
theorem d_M_score_27 : decode prog_6_method_37_code 27 = .ok (.istore 5, 2) := dr_dd nD_M_score_0 16 rfl
theorem d_M_score_29 : decode prog_6_method_37_code 29 = .ok (.iconst 1, 1) := dr_dd nD_M_score_0 17 rfl
theorem d_M_score_30 : decode prog_6_method_37_code 30 = .ok (.istore 6, 2) := dr_dd nD_M_score_0 18 rfl
theorem d_M_score_32 : decode prog_6_method_37_code 32 = .ok (.iload 6, 2) := dr_dd nD_M_score_0 19 rfl
theorem d_M_score_34 : decode prog_6_method_37_code 34 = .ok (.bipush 21, 2) := dr_dd nD_M_score_0 20 rfl
theorem d_M_score_36 : decode prog_6_method_37_code 36 = .ok (.if_icmp .ge 76, 3) := dr_dd nD_M_score_0 21 rfl
theorem d_M_score_39 : decode prog_6_method_37_code 39 = .ok (.iload_n 3, 1) := dr_dd nD_M_score_0 22 rfl
theorem d_M_score_40 : decode prog_6_method_37_code 40 = .ok (.ifCond .eq 72, 3) := dr_dd nD_M_score_0 23 rfl
theorem d_M_score_43 : decode prog_6_method_37_code 43 = .ok (.aload_n 0, 1) := dr_dd nD_M_score_0 24 rfl
theorem d_M_score_44 : decode prog_6_method_37_code 44 = .ok (.getfield 39, 3) := dr_dd nD_M_score_0 25 rfl
theorem d_M_score_47 : decode prog_6_method_37_code 47 = .ok (.iload_n 1, 1) := dr_dd nD_M_score_0 26 rfl
theorem d_M_score_48 : decode prog_6_method_37_code 48 = .ok (.bipush 21, 2) := dr_dd nD_M_score_0 27 rfl
theorem d_M_score_50 : decode prog_6_method_37_code 50 = .ok (.imul, 1) := dr_dd nD_M_score_0 28 rfl
theorem d_M_score_51 : decode prog_6_method_37_code 51 = .ok (.iload 6, 2) := dr_dd nD_M_score_0 29 rfl
theorem d_M_score_53 : decode prog_6_method_37_code 53 = .ok (.iadd, 1) := dr_dd nD_M_score_0 30 rfl
theorem d_M_score_54 : decode prog_6_method_37_code 54 = .ok (.baload, 1) := dr_dd nD_M_score_0 31 rfl
theorem d_M_score_55 : decode prog_6_method_37_code 55 = .ok (.ifCond .ne 6, 3) := dr_dd nD_M_score_0 32 rfl
theorem d_M_score_58 : decode prog_6_method_37_code 58 = .ok (.goto 48, 3) := dr_dd nD_M_score_0 33 rfl
theorem d_M_score_61 : decode prog_6_method_37_code 61 = .ok (.iload 5, 2) := dr_dd nD_M_score_0 34 rfl
theorem d_M_score_63 : decode prog_6_method_37_code 63 = .ok (.aload_n 0, 1) := dr_dd nD_M_score_0 35 rfl
theorem d_M_score_64 : decode prog_6_method_37_code 64 = .ok (.getfield 51, 3) := dr_dd nD_M_score_0 36 rfl
theorem d_M_score_67 : decode prog_6_method_37_code 67 = .ok (.iload_n 1, 1) := dr_dd nD_M_score_0 37 rfl
theorem d_M_score_68 : decode prog_6_method_37_code 68 = .ok (.bipush 21, 2) := dr_dd nD_M_score_0 38 rfl
theorem d_M_score_70 : decode prog_6_method_37_code 70 = .ok (.imul, 1) := dr_dd nD_M_score_0 39 rfl
abbrev nL_M_score_1 : List (Nat × Instr × Nat) := [(71, .iload 6, 2), (73, .iadd, 1), (74, .iaload, 1), (75, .iadd, 1), (76, .istore 5, 2), (78, .aload_n 0, 1), (79, .iload_n 1, 1), (80, .iload 6, 2), (82, .invokevirtual 175, 3), (85, .iconst 1, 1), (86, .if_icmp .ne 20, 3), (89, .iload 4, 2), (91, .aload_n 0, 1), (92, .getfield 51, 3), (95, .iload_n 1, 1), (96, .bipush 21, 2), (98, .imul, 1), (99, .iload 6, 2), (101, .iadd, 1), (102, .iaload, 1), (103, .iadd, 1), (104, .istore 4, 2), (106, .iinc 6 1, 3), (109, .goto (-77), 3), (112, .aload_n 0, 1), (113, .iload_n 3, 1), (114, .iload 5, 2), (116, .ifCond .le 7, 3), (119, .iconst 1, 1), (120, .goto 4, 3), (123, .iconst 0, 1), (124, .iconst 1, 1), (125, .invokevirtual 97, 3), (128, .ifCond .ne 5, 3), (131, .iconst 0, 1), (132, .ireturn, 1), (133, .iload 5, 2), (135, .istore 6, 2), (137, .iload 4, 2), (139, .istore 7, 2)]
theorem nD_M_score_1 : ∀ q ∈ nL_M_score_1, decode prog_6_method_37_code q.1 = .ok (q.2.1, q.2.2) := by decide +kernel
theorem d_M_score_71 : decode prog_6_method_37_code 71 = .ok (.iload 6, 2) := dr_dd nD_M_score_1 0 rfl
theorem d_M_score_73 : decode prog_6_method_37_code 73 = .ok (.iadd, 1) := dr_dd nD_M_score_1 1 rfl
theorem d_M_score_74 : decode prog_6_method_37_code 74 = .ok (.iaload, 1) := dr_dd nD_M_score_1 2 rfl
theorem d_M_score_75 : decode prog_6_method_37_code 75 = .ok (.iadd, 1) := dr_dd nD_M_score_1 3 rfl
theorem d_M_score_76 : decode prog_6_method_37_code 76 = .ok (.istore 5, 2) := dr_dd nD_M_score_1 4 rfl
theorem d_M_score_78 : decode prog_6_method_37_code 78 = .ok (.aload_n 0, 1) := dr_dd nD_M_score_1 5 rfl
theorem d_M_score_79 : decode prog_6_method_37_code 79 = .ok (.iload_n 1, 1) := dr_dd nD_M_score_1 6 rfl
theorem d_M_score_80 : decode prog_6_method_37_code 80 = .ok (.iload 6, 2) := dr_dd nD_M_score_1 7 rfl
theorem d_M_score_82 : decode prog_6_method_37_code 82 = .ok (.invokevirtual 175, 3) := dr_dd nD_M_score_1 8 rfl
theorem d_M_score_85 : decode prog_6_method_37_code 85 = .ok (.iconst 1, 1) := dr_dd nD_M_score_1 9 rfl
theorem d_M_score_86 : decode prog_6_method_37_code 86 = .ok (.if_icmp .ne 20, 3) := dr_dd nD_M_score_1 10 rfl
theorem d_M_score_89 : decode prog_6_method_37_code 89 = .ok (.iload 4, 2) := dr_dd nD_M_score_1 11 rfl
theorem d_M_score_91 : decode prog_6_method_37_code 91 = .ok (.aload_n 0, 1) := dr_dd nD_M_score_1 12 rfl
theorem d_M_score_92 : decode prog_6_method_37_code 92 = .ok (.getfield 51, 3) := dr_dd nD_M_score_1 13 rfl
theorem d_M_score_95 : decode prog_6_method_37_code 95 = .ok (.iload_n 1, 1) := dr_dd nD_M_score_1 14 rfl
theorem d_M_score_96 : decode prog_6_method_37_code 96 = .ok (.bipush 21, 2) := dr_dd nD_M_score_1 15 rfl
theorem d_M_score_98 : decode prog_6_method_37_code 98 = .ok (.imul, 1) := dr_dd nD_M_score_1 16 rfl
theorem d_M_score_99 : decode prog_6_method_37_code 99 = .ok (.iload 6, 2) := dr_dd nD_M_score_1 17 rfl
theorem d_M_score_101 : decode prog_6_method_37_code 101 = .ok (.iadd, 1) := dr_dd nD_M_score_1 18 rfl
theorem d_M_score_102 : decode prog_6_method_37_code 102 = .ok (.iaload, 1) := dr_dd nD_M_score_1 19 rfl
theorem d_M_score_103 : decode prog_6_method_37_code 103 = .ok (.iadd, 1) := dr_dd nD_M_score_1 20 rfl
theorem d_M_score_104 : decode prog_6_method_37_code 104 = .ok (.istore 4, 2) := dr_dd nD_M_score_1 21 rfl
theorem d_M_score_106 : decode prog_6_method_37_code 106 = .ok (.iinc 6 1, 3) := dr_dd nD_M_score_1 22 rfl
theorem d_M_score_109 : decode prog_6_method_37_code 109 = .ok (.goto (-77), 3) := dr_dd nD_M_score_1 23 rfl
theorem d_M_score_112 : decode prog_6_method_37_code 112 = .ok (.aload_n 0, 1) := dr_dd nD_M_score_1 24 rfl
theorem d_M_score_113 : decode prog_6_method_37_code 113 = .ok (.iload_n 3, 1) := dr_dd nD_M_score_1 25 rfl
theorem d_M_score_114 : decode prog_6_method_37_code 114 = .ok (.iload 5, 2) := dr_dd nD_M_score_1 26 rfl
theorem d_M_score_116 : decode prog_6_method_37_code 116 = .ok (.ifCond .le 7, 3) := dr_dd nD_M_score_1 27 rfl
theorem d_M_score_119 : decode prog_6_method_37_code 119 = .ok (.iconst 1, 1) := dr_dd nD_M_score_1 28 rfl
theorem d_M_score_120 : decode prog_6_method_37_code 120 = .ok (.goto 4, 3) := dr_dd nD_M_score_1 29 rfl
theorem d_M_score_123 : decode prog_6_method_37_code 123 = .ok (.iconst 0, 1) := dr_dd nD_M_score_1 30 rfl
theorem d_M_score_124 : decode prog_6_method_37_code 124 = .ok (.iconst 1, 1) := dr_dd nD_M_score_1 31 rfl
theorem d_M_score_125 : decode prog_6_method_37_code 125 = .ok (.invokevirtual 97, 3) := dr_dd nD_M_score_1 32 rfl
theorem d_M_score_128 : decode prog_6_method_37_code 128 = .ok (.ifCond .ne 5, 3) := dr_dd nD_M_score_1 33 rfl
theorem d_M_score_131 : decode prog_6_method_37_code 131 = .ok (.iconst 0, 1) := dr_dd nD_M_score_1 34 rfl
theorem d_M_score_132 : decode prog_6_method_37_code 132 = .ok (.ireturn, 1) := dr_dd nD_M_score_1 35 rfl
theorem d_M_score_133 : decode prog_6_method_37_code 133 = .ok (.iload 5, 2) := dr_dd nD_M_score_1 36 rfl
theorem d_M_score_135 : decode prog_6_method_37_code 135 = .ok (.istore 6, 2) := dr_dd nD_M_score_1 37 rfl
theorem d_M_score_137 : decode prog_6_method_37_code 137 = .ok (.iload 4, 2) := dr_dd nD_M_score_1 38 rfl
theorem d_M_score_139 : decode prog_6_method_37_code 139 = .ok (.istore 7, 2) := dr_dd nD_M_score_1 39 rfl
abbrev nL_M_score_2 : List (Nat × Instr × Nat) := [(141, .iload 7, 2), (143, .ifCond .le 21, 3), (146, .iload 6, 2), (148, .iload 7, 2), (150, .irem, 1), (151, .istore 8, 2), (153, .iload 7, 2), (155, .istore 6, 2), (157, .iload 8, 2), (159, .istore 7, 2), (161, .goto (-20), 3), (164, .iload_n 2, 1), (165, .ifCond .ne 8, 3), (168, .iload 4, 2), (170, .goto 5, 3), (173, .iload 5, 2), (175, .iload 6, 2), (177, .idiv, 1), (178, .ireturn, 1)]
theorem nD_M_score_2 : ∀ q ∈ nL_M_score_2, decode prog_6_method_37_code q.1 = .ok (q.2.1, q.2.2) := by decide +kernel
theorem d_M_score_141 : decode prog_6_method_37_code 141 = .ok (.iload 7, 2) := dr_dd nD_M_score_2 0 rfl
theorem d_M_score_143 : decode prog_6_method_37_code 143 = .ok (.ifCond .le 21, 3) := dr_dd nD_M_score_2 1 rfl
theorem d_M_score_146 : decode prog_6_method_37_code 146 = .ok (.iload 6, 2) := dr_dd nD_M_score_2 2 rfl
theorem d_M_score_148 : decode prog_6_method_37_code 148 = .ok (.iload 7, 2) := dr_dd nD_M_score_2 3 rfl
theorem d_M_score_150 : decode prog_6_method_37_code 150 = .ok (.irem, 1) := dr_dd nD_M_score_2 4 rfl
theorem d_M_score_151 : decode prog_6_method_37_code 151 = .ok (.istore 8, 2) := dr_dd nD_M_score_2 5 rfl
theorem d_M_score_153 : decode prog_6_method_37_code 153 = .ok (.iload 7, 2) := dr_dd nD_M_score_2 6 rfl
theorem d_M_score_155 : decode prog_6_method_37_code 155 = .ok (.istore 6, 2) := dr_dd nD_M_score_2 7 rfl
theorem d_M_score_157 : decode prog_6_method_37_code 157 = .ok (.iload 8, 2) := dr_dd nD_M_score_2 8 rfl
theorem d_M_score_159 : decode prog_6_method_37_code 159 = .ok (.istore 7, 2) := dr_dd nD_M_score_2 9 rfl
theorem d_M_score_161 : decode prog_6_method_37_code 161 = .ok (.goto (-20), 3) := dr_dd nD_M_score_2 10 rfl
theorem d_M_score_164 : decode prog_6_method_37_code 164 = .ok (.iload_n 2, 1) := dr_dd nD_M_score_2 11 rfl
theorem d_M_score_165 : decode prog_6_method_37_code 165 = .ok (.ifCond .ne 8, 3) := dr_dd nD_M_score_2 12 rfl
theorem d_M_score_168 : decode prog_6_method_37_code 168 = .ok (.iload 4, 2) := dr_dd nD_M_score_2 13 rfl
theorem d_M_score_170 : decode prog_6_method_37_code 170 = .ok (.goto 5, 3) := dr_dd nD_M_score_2 14 rfl
theorem d_M_score_173 : decode prog_6_method_37_code 173 = .ok (.iload 5, 2) := dr_dd nD_M_score_2 15 rfl
theorem d_M_score_175 : decode prog_6_method_37_code 175 = .ok (.iload 6, 2) := dr_dd nD_M_score_2 16 rfl
theorem d_M_score_177 : decode prog_6_method_37_code 177 = .ok (.idiv, 1) := dr_dd nD_M_score_2 17 rfl
theorem d_M_score_178 : decode prog_6_method_37_code 178 = .ok (.ireturn, 1) := dr_dd nD_M_score_2 18 rfl
abbrev nL_M_compare_0 : List (Nat × Instr × Nat) := [(0, .aload_n 0, 1), (1, .aload_n 0, 1), (2, .iload_n 1, 1), (3, .invokevirtual 167, 3), (6, .ifCond .eq 15, 3), (9, .aload_n 0, 1), (10, .iload_n 2, 1), (11, .invokevirtual 167, 3), (14, .ifCond .eq 7, 3), (17, .iconst 1, 1), (18, .goto 4, 3), (21, .iconst 0, 1), (22, .iconst 1, 1), (23, .iconst 1, 1), (24, .invokevirtual 97, 3), (27, .ifCond .ne 5, 3), (30, .iconst 0, 1), (31, .ireturn, 1), (32, .iconst 0, 1), (33, .istore_n 3, 1), (34, .iconst 1, 1), (35, .istore 4, 2), (37, .iload 4, 2), (39, .bipush 21, 2), (41, .if_icmp .ge 59, 3), (44, .aload_n 0, 1), (45, .getfield 39, 3), (48, .iload_n 1, 1), (49, .bipush 21, 2), (51, .imul, 1), (52, .iload 4, 2), (54, .iadd, 1), (55, .baload, 1), (56, .ifCond .eq 38, 3), (59, .aload_n 0, 1), (60, .getfield 39, 3), (63, .iload_n 2, 1), (64, .bipush 21, 2), (66, .imul, 1), (67, .iload 4, 2)]
theorem nD_M_compare_0 : ∀ q ∈ nL_M_compare_0, decode prog_6_method_38_code q.1 = .ok (q.2.1, q.2.2) := by decide +kernel
theorem d_M_compare_0 : decode prog_6_method_38_code 0 = .ok (.aload_n 0, 1) := dr_dd nD_M_compare_0 0 rfl
theorem d_M_compare_1 : decode prog_6_method_38_code 1 = .ok (.aload_n 0, 1) := dr_dd nD_M_compare_0 1 rfl
theorem d_M_compare_2 : decode prog_6_method_38_code 2 = .ok (.iload_n 1, 1) := dr_dd nD_M_compare_0 2 rfl
theorem d_M_compare_3 : decode prog_6_method_38_code 3 = .ok (.invokevirtual 167, 3) := dr_dd nD_M_compare_0 3 rfl
theorem d_M_compare_6 : decode prog_6_method_38_code 6 = .ok (.ifCond .eq 15, 3) := dr_dd nD_M_compare_0 4 rfl
theorem d_M_compare_9 : decode prog_6_method_38_code 9 = .ok (.aload_n 0, 1) := dr_dd nD_M_compare_0 5 rfl
theorem d_M_compare_10 : decode prog_6_method_38_code 10 = .ok (.iload_n 2, 1) := dr_dd nD_M_compare_0 6 rfl
theorem d_M_compare_11 : decode prog_6_method_38_code 11 = .ok (.invokevirtual 167, 3) := dr_dd nD_M_compare_0 7 rfl
theorem d_M_compare_14 : decode prog_6_method_38_code 14 = .ok (.ifCond .eq 7, 3) := dr_dd nD_M_compare_0 8 rfl
theorem d_M_compare_17 : decode prog_6_method_38_code 17 = .ok (.iconst 1, 1) := dr_dd nD_M_compare_0 9 rfl
theorem d_M_compare_18 : decode prog_6_method_38_code 18 = .ok (.goto 4, 3) := dr_dd nD_M_compare_0 10 rfl
theorem d_M_compare_21 : decode prog_6_method_38_code 21 = .ok (.iconst 0, 1) := dr_dd nD_M_compare_0 11 rfl
theorem d_M_compare_22 : decode prog_6_method_38_code 22 = .ok (.iconst 1, 1) := dr_dd nD_M_compare_0 12 rfl
theorem d_M_compare_23 : decode prog_6_method_38_code 23 = .ok (.iconst 1, 1) := dr_dd nD_M_compare_0 13 rfl
theorem d_M_compare_24 : decode prog_6_method_38_code 24 = .ok (.invokevirtual 97, 3) := dr_dd nD_M_compare_0 14 rfl
theorem d_M_compare_27 : decode prog_6_method_38_code 27 = .ok (.ifCond .ne 5, 3) := dr_dd nD_M_compare_0 15 rfl
theorem d_M_compare_30 : decode prog_6_method_38_code 30 = .ok (.iconst 0, 1) := dr_dd nD_M_compare_0 16 rfl
theorem d_M_compare_31 : decode prog_6_method_38_code 31 = .ok (.ireturn, 1) := dr_dd nD_M_compare_0 17 rfl
theorem d_M_compare_32 : decode prog_6_method_38_code 32 = .ok (.iconst 0, 1) := dr_dd nD_M_compare_0 18 rfl
theorem d_M_compare_33 : decode prog_6_method_38_code 33 = .ok (.istore_n 3, 1) := dr_dd nD_M_compare_0 19 rfl
theorem d_M_compare_34 : decode prog_6_method_38_code 34 = .ok (.iconst 1, 1) := dr_dd nD_M_compare_0 20 rfl
theorem d_M_compare_35 : decode prog_6_method_38_code 35 = .ok (.istore 4, 2) := dr_dd nD_M_compare_0 21 rfl
theorem d_M_compare_37 : decode prog_6_method_38_code 37 = .ok (.iload 4, 2) := dr_dd nD_M_compare_0 22 rfl
theorem d_M_compare_39 : decode prog_6_method_38_code 39 = .ok (.bipush 21, 2) := dr_dd nD_M_compare_0 23 rfl
theorem d_M_compare_41 : decode prog_6_method_38_code 41 = .ok (.if_icmp .ge 59, 3) := dr_dd nD_M_compare_0 24 rfl
theorem d_M_compare_44 : decode prog_6_method_38_code 44 = .ok (.aload_n 0, 1) := dr_dd nD_M_compare_0 25 rfl
theorem d_M_compare_45 : decode prog_6_method_38_code 45 = .ok (.getfield 39, 3) := dr_dd nD_M_compare_0 26 rfl
theorem d_M_compare_48 : decode prog_6_method_38_code 48 = .ok (.iload_n 1, 1) := dr_dd nD_M_compare_0 27 rfl
theorem d_M_compare_49 : decode prog_6_method_38_code 49 = .ok (.bipush 21, 2) := dr_dd nD_M_compare_0 28 rfl
theorem d_M_compare_51 : decode prog_6_method_38_code 51 = .ok (.imul, 1) := dr_dd nD_M_compare_0 29 rfl
theorem d_M_compare_52 : decode prog_6_method_38_code 52 = .ok (.iload 4, 2) := dr_dd nD_M_compare_0 30 rfl
theorem d_M_compare_54 : decode prog_6_method_38_code 54 = .ok (.iadd, 1) := dr_dd nD_M_compare_0 31 rfl
theorem d_M_compare_55 : decode prog_6_method_38_code 55 = .ok (.baload, 1) := dr_dd nD_M_compare_0 32 rfl
theorem d_M_compare_56 : decode prog_6_method_38_code 56 = .ok (.ifCond .eq 38, 3) := dr_dd nD_M_compare_0 33 rfl
theorem d_M_compare_59 : decode prog_6_method_38_code 59 = .ok (.aload_n 0, 1) := dr_dd nD_M_compare_0 34 rfl
theorem d_M_compare_60 : decode prog_6_method_38_code 60 = .ok (.getfield 39, 3) := dr_dd nD_M_compare_0 35 rfl
theorem d_M_compare_63 : decode prog_6_method_38_code 63 = .ok (.iload_n 2, 1) := dr_dd nD_M_compare_0 36 rfl
theorem d_M_compare_64 : decode prog_6_method_38_code 64 = .ok (.bipush 21, 2) := dr_dd nD_M_compare_0 37 rfl
theorem d_M_compare_66 : decode prog_6_method_38_code 66 = .ok (.imul, 1) := dr_dd nD_M_compare_0 38 rfl
theorem d_M_compare_67 : decode prog_6_method_38_code 67 = .ok (.iload 4, 2) := dr_dd nD_M_compare_0 39 rfl
abbrev nL_M_compare_1 : List (Nat × Instr × Nat) := [(69, .iadd, 1), (70, .baload, 1), (71, .ifCond .eq 23, 3), (74, .aload_n 0, 1), (75, .iload_n 1, 1), (76, .iload 4, 2), (78, .invokevirtual 175, 3), (81, .aload_n 0, 1), (82, .iload_n 2, 1), (83, .iload 4, 2), (85, .invokevirtual 175, 3), (88, .if_icmp .eq 6, 3), (91, .iinc 3 1, 3), (94, .iinc 4 1, 3), (97, .goto (-60), 3), (100, .iload_n 3, 1), (101, .ireturn, 1)]
theorem nD_M_compare_1 : ∀ q ∈ nL_M_compare_1, decode prog_6_method_38_code q.1 = .ok (q.2.1, q.2.2) := by decide +kernel
theorem d_M_compare_69 : decode prog_6_method_38_code 69 = .ok (.iadd, 1) := dr_dd nD_M_compare_1 0 rfl
theorem d_M_compare_70 : decode prog_6_method_38_code 70 = .ok (.baload, 1) := dr_dd nD_M_compare_1 1 rfl
theorem d_M_compare_71 : decode prog_6_method_38_code 71 = .ok (.ifCond .eq 23, 3) := dr_dd nD_M_compare_1 2 rfl
theorem d_M_compare_74 : decode prog_6_method_38_code 74 = .ok (.aload_n 0, 1) := dr_dd nD_M_compare_1 3 rfl
theorem d_M_compare_75 : decode prog_6_method_38_code 75 = .ok (.iload_n 1, 1) := dr_dd nD_M_compare_1 4 rfl
theorem d_M_compare_76 : decode prog_6_method_38_code 76 = .ok (.iload 4, 2) := dr_dd nD_M_compare_1 5 rfl
theorem d_M_compare_78 : decode prog_6_method_38_code 78 = .ok (.invokevirtual 175, 3) := dr_dd nD_M_compare_1 6 rfl
theorem d_M_compare_81 : decode prog_6_method_38_code 81 = .ok (.aload_n 0, 1) := dr_dd nD_M_compare_1 7 rfl
theorem d_M_compare_82 : decode prog_6_method_38_code 82 = .ok (.iload_n 2, 1) := dr_dd nD_M_compare_1 8 rfl
theorem d_M_compare_83 : decode prog_6_method_38_code 83 = .ok (.iload 4, 2) := dr_dd nD_M_compare_1 9 rfl
theorem d_M_compare_85 : decode prog_6_method_38_code 85 = .ok (.invokevirtual 175, 3) := dr_dd nD_M_compare_1 10 rfl
theorem d_M_compare_88 : decode prog_6_method_38_code 88 = .ok (.if_icmp .eq 6, 3) := dr_dd nD_M_compare_1 11 rfl
theorem d_M_compare_91 : decode prog_6_method_38_code 91 = .ok (.iinc 3 1, 3) := dr_dd nD_M_compare_1 12 rfl
theorem d_M_compare_94 : decode prog_6_method_38_code 94 = .ok (.iinc 4 1, 3) := dr_dd nD_M_compare_1 13 rfl
theorem d_M_compare_97 : decode prog_6_method_38_code 97 = .ok (.goto (-60), 3) := dr_dd nD_M_compare_1 14 rfl
theorem d_M_compare_100 : decode prog_6_method_38_code 100 = .ok (.iload_n 3, 1) := dr_dd nD_M_compare_1 15 rfl
theorem d_M_compare_101 : decode prog_6_method_38_code 101 = .ok (.ireturn, 1) := dr_dd nD_M_compare_1 16 rfl
abbrev nL_M_observe_0 : List (Nat × Instr × Nat) := [(0, .aload_n 0, 1), (1, .iload_n 1, 1), (2, .invokevirtual 167, 3), (5, .istore 4, 2), (7, .aload_n 0, 1), (8, .iload 4, 2), (10, .iload 4, 2), (12, .ifCond .eq 30, 3), (15, .iload_n 2, 1), (16, .iconst 0, 1), (17, .aload_n 0, 1), (18, .iload_n 1, 1), (19, .invokevirtual 150, 3), (22, .invokestatic 90, 3), (25, .ifCond .eq 17, 3), (28, .iload_n 3, 1), (29, .iconst 0, 1), (30, .bipush 9, 2), (32, .invokestatic 90, 3), (35, .ifCond .eq 7, 3), (38, .iconst 1, 1), (39, .goto 4, 3), (42, .iconst 0, 1), (43, .aload_n 0, 1), (44, .getfield 178, 3), (47, .bipush 100, 2), (49, .if_icmp .ge 7, 3), (52, .iconst 1, 1), (53, .goto 4, 3), (56, .iconst 0, 1), (57, .invokevirtual 97, 3), (60, .ifCond .ne 5, 3), (63, .iconst 0, 1), (64, .ireturn, 1), (65, .aload_n 0, 1), (66, .getfield 75, 3), (69, .aload_n 0, 1), (70, .getfield 178, 3), (73, .iload_n 1, 1), (74, .iastore, 1)]
theorem nD_M_observe_0 : ∀ q ∈ nL_M_observe_0, decode prog_6_method_39_code q.1 = .ok (q.2.1, q.2.2) := by decide +kernel
theorem d_M_observe_0 : decode prog_6_method_39_code 0 = .ok (.aload_n 0, 1) := dr_dd nD_M_observe_0 0 rfl
theorem d_M_observe_1 : decode prog_6_method_39_code 1 = .ok (.iload_n 1, 1) := dr_dd nD_M_observe_0 1 rfl
theorem d_M_observe_2 : decode prog_6_method_39_code 2 = .ok (.invokevirtual 167, 3) := dr_dd nD_M_observe_0 2 rfl
theorem d_M_observe_5 : decode prog_6_method_39_code 5 = .ok (.istore 4, 2) := dr_dd nD_M_observe_0 3 rfl
theorem d_M_observe_7 : decode prog_6_method_39_code 7 = .ok (.aload_n 0, 1) := dr_dd nD_M_observe_0 4 rfl
theorem d_M_observe_8 : decode prog_6_method_39_code 8 = .ok (.iload 4, 2) := dr_dd nD_M_observe_0 5 rfl
theorem d_M_observe_10 : decode prog_6_method_39_code 10 = .ok (.iload 4, 2) := dr_dd nD_M_observe_0 6 rfl
theorem d_M_observe_12 : decode prog_6_method_39_code 12 = .ok (.ifCond .eq 30, 3) := dr_dd nD_M_observe_0 7 rfl
theorem d_M_observe_15 : decode prog_6_method_39_code 15 = .ok (.iload_n 2, 1) := dr_dd nD_M_observe_0 8 rfl
theorem d_M_observe_16 : decode prog_6_method_39_code 16 = .ok (.iconst 0, 1) := dr_dd nD_M_observe_0 9 rfl
theorem d_M_observe_17 : decode prog_6_method_39_code 17 = .ok (.aload_n 0, 1) := dr_dd nD_M_observe_0 10 rfl
theorem d_M_observe_18 : decode prog_6_method_39_code 18 = .ok (.iload_n 1, 1) := dr_dd nD_M_observe_0 11 rfl
theorem d_M_observe_19 : decode prog_6_method_39_code 19 = .ok (.invokevirtual 150, 3) := dr_dd nD_M_observe_0 12 rfl
theorem d_M_observe_22 : decode prog_6_method_39_code 22 = .ok (.invokestatic 90, 3) := dr_dd nD_M_observe_0 13 rfl
theorem d_M_observe_25 : decode prog_6_method_39_code 25 = .ok (.ifCond .eq 17, 3) := dr_dd nD_M_observe_0 14 rfl
theorem d_M_observe_28 : decode prog_6_method_39_code 28 = .ok (.iload_n 3, 1) := dr_dd nD_M_observe_0 15 rfl
theorem d_M_observe_29 : decode prog_6_method_39_code 29 = .ok (.iconst 0, 1) := dr_dd nD_M_observe_0 16 rfl
theorem d_M_observe_30 : decode prog_6_method_39_code 30 = .ok (.bipush 9, 2) := dr_dd nD_M_observe_0 17 rfl
theorem d_M_observe_32 : decode prog_6_method_39_code 32 = .ok (.invokestatic 90, 3) := dr_dd nD_M_observe_0 18 rfl
theorem d_M_observe_35 : decode prog_6_method_39_code 35 = .ok (.ifCond .eq 7, 3) := dr_dd nD_M_observe_0 19 rfl
theorem d_M_observe_38 : decode prog_6_method_39_code 38 = .ok (.iconst 1, 1) := dr_dd nD_M_observe_0 20 rfl
theorem d_M_observe_39 : decode prog_6_method_39_code 39 = .ok (.goto 4, 3) := dr_dd nD_M_observe_0 21 rfl
theorem d_M_observe_42 : decode prog_6_method_39_code 42 = .ok (.iconst 0, 1) := dr_dd nD_M_observe_0 22 rfl
theorem d_M_observe_43 : decode prog_6_method_39_code 43 = .ok (.aload_n 0, 1) := dr_dd nD_M_observe_0 23 rfl
theorem d_M_observe_44 : decode prog_6_method_39_code 44 = .ok (.getfield 178, 3) := dr_dd nD_M_observe_0 24 rfl
theorem d_M_observe_47 : decode prog_6_method_39_code 47 = .ok (.bipush 100, 2) := dr_dd nD_M_observe_0 25 rfl
theorem d_M_observe_49 : decode prog_6_method_39_code 49 = .ok (.if_icmp .ge 7, 3) := dr_dd nD_M_observe_0 26 rfl
theorem d_M_observe_52 : decode prog_6_method_39_code 52 = .ok (.iconst 1, 1) := dr_dd nD_M_observe_0 27 rfl
theorem d_M_observe_53 : decode prog_6_method_39_code 53 = .ok (.goto 4, 3) := dr_dd nD_M_observe_0 28 rfl
theorem d_M_observe_56 : decode prog_6_method_39_code 56 = .ok (.iconst 0, 1) := dr_dd nD_M_observe_0 29 rfl
theorem d_M_observe_57 : decode prog_6_method_39_code 57 = .ok (.invokevirtual 97, 3) := dr_dd nD_M_observe_0 30 rfl
theorem d_M_observe_60 : decode prog_6_method_39_code 60 = .ok (.ifCond .ne 5, 3) := dr_dd nD_M_observe_0 31 rfl
theorem d_M_observe_63 : decode prog_6_method_39_code 63 = .ok (.iconst 0, 1) := dr_dd nD_M_observe_0 32 rfl
theorem d_M_observe_64 : decode prog_6_method_39_code 64 = .ok (.ireturn, 1) := dr_dd nD_M_observe_0 33 rfl
theorem d_M_observe_65 : decode prog_6_method_39_code 65 = .ok (.aload_n 0, 1) := dr_dd nD_M_observe_0 34 rfl
theorem d_M_observe_66 : decode prog_6_method_39_code 66 = .ok (.getfield 75, 3) := dr_dd nD_M_observe_0 35 rfl
theorem d_M_observe_69 : decode prog_6_method_39_code 69 = .ok (.aload_n 0, 1) := dr_dd nD_M_observe_0 36 rfl
theorem d_M_observe_70 : decode prog_6_method_39_code 70 = .ok (.getfield 178, 3) := dr_dd nD_M_observe_0 37 rfl
theorem d_M_observe_73 : decode prog_6_method_39_code 73 = .ok (.iload_n 1, 1) := dr_dd nD_M_observe_0 38 rfl
theorem d_M_observe_74 : decode prog_6_method_39_code 74 = .ok (.iastore, 1) := dr_dd nD_M_observe_0 39 rfl
abbrev nL_M_observe_1 : List (Nat × Instr × Nat) := [(75, .aload_n 0, 1), (76, .getfield 78, 3), (79, .aload_n 0, 1), (80, .getfield 178, 3), (83, .iload_n 2, 1), (84, .iastore, 1), (85, .aload_n 0, 1), (86, .getfield 81, 3), (89, .aload_n 0, 1), (90, .getfield 178, 3), (93, .iload_n 3, 1), (94, .iastore, 1), (95, .aload_n 0, 1), (96, .getfield 84, 3), (99, .aload_n 0, 1), (100, .getfield 178, 3), (103, .aload_n 0, 1), (104, .iload_n 1, 1), (105, .invokevirtual 150, 3), (108, .iload_n 2, 1), (109, .isub, 1), (110, .bipush 60, 2), (112, .if_icmp .le 7, 3), (115, .iconst 1, 1), (116, .goto 4, 3), (119, .iconst 0, 1), (120, .bastore, 1), (121, .aload_n 0, 1), (122, .dup, 1), (123, .getfield 178, 3), (126, .iconst 1, 1), (127, .iadd, 1), (128, .putfield 178, 3), (131, .aload_n 0, 1), (132, .getfield 178, 3), (135, .iconst 1, 1), (136, .isub, 1), (137, .ireturn, 1)]
theorem nD_M_observe_1 : ∀ q ∈ nL_M_observe_1, decode prog_6_method_39_code q.1 = .ok (q.2.1, q.2.2) := by decide +kernel
theorem d_M_observe_75 : decode prog_6_method_39_code 75 = .ok (.aload_n 0, 1) := dr_dd nD_M_observe_1 0 rfl
theorem d_M_observe_76 : decode prog_6_method_39_code 76 = .ok (.getfield 78, 3) := dr_dd nD_M_observe_1 1 rfl
theorem d_M_observe_79 : decode prog_6_method_39_code 79 = .ok (.aload_n 0, 1) := dr_dd nD_M_observe_1 2 rfl
theorem d_M_observe_80 : decode prog_6_method_39_code 80 = .ok (.getfield 178, 3) := dr_dd nD_M_observe_1 3 rfl
theorem d_M_observe_83 : decode prog_6_method_39_code 83 = .ok (.iload_n 2, 1) := dr_dd nD_M_observe_1 4 rfl
theorem d_M_observe_84 : decode prog_6_method_39_code 84 = .ok (.iastore, 1) := dr_dd nD_M_observe_1 5 rfl
theorem d_M_observe_85 : decode prog_6_method_39_code 85 = .ok (.aload_n 0, 1) := dr_dd nD_M_observe_1 6 rfl
theorem d_M_observe_86 : decode prog_6_method_39_code 86 = .ok (.getfield 81, 3) := dr_dd nD_M_observe_1 7 rfl
theorem d_M_observe_89 : decode prog_6_method_39_code 89 = .ok (.aload_n 0, 1) := dr_dd nD_M_observe_1 8 rfl
theorem d_M_observe_90 : decode prog_6_method_39_code 90 = .ok (.getfield 178, 3) := dr_dd nD_M_observe_1 9 rfl
theorem d_M_observe_93 : decode prog_6_method_39_code 93 = .ok (.iload_n 3, 1) := dr_dd nD_M_observe_1 10 rfl
theorem d_M_observe_94 : decode prog_6_method_39_code 94 = .ok (.iastore, 1) := dr_dd nD_M_observe_1 11 rfl
theorem d_M_observe_95 : decode prog_6_method_39_code 95 = .ok (.aload_n 0, 1) := dr_dd nD_M_observe_1 12 rfl
theorem d_M_observe_96 : decode prog_6_method_39_code 96 = .ok (.getfield 84, 3) := dr_dd nD_M_observe_1 13 rfl
theorem d_M_observe_99 : decode prog_6_method_39_code 99 = .ok (.aload_n 0, 1) := dr_dd nD_M_observe_1 14 rfl
theorem d_M_observe_100 : decode prog_6_method_39_code 100 = .ok (.getfield 178, 3) := dr_dd nD_M_observe_1 15 rfl
theorem d_M_observe_103 : decode prog_6_method_39_code 103 = .ok (.aload_n 0, 1) := dr_dd nD_M_observe_1 16 rfl
theorem d_M_observe_104 : decode prog_6_method_39_code 104 = .ok (.iload_n 1, 1) := dr_dd nD_M_observe_1 17 rfl
theorem d_M_observe_105 : decode prog_6_method_39_code 105 = .ok (.invokevirtual 150, 3) := dr_dd nD_M_observe_1 18 rfl
theorem d_M_observe_108 : decode prog_6_method_39_code 108 = .ok (.iload_n 2, 1) := dr_dd nD_M_observe_1 19 rfl
theorem d_M_observe_109 : decode prog_6_method_39_code 109 = .ok (.isub, 1) := dr_dd nD_M_observe_1 20 rfl
theorem d_M_observe_110 : decode prog_6_method_39_code 110 = .ok (.bipush 60, 2) := dr_dd nD_M_observe_1 21 rfl
theorem d_M_observe_112 : decode prog_6_method_39_code 112 = .ok (.if_icmp .le 7, 3) := dr_dd nD_M_observe_1 22 rfl
theorem d_M_observe_115 : decode prog_6_method_39_code 115 = .ok (.iconst 1, 1) := dr_dd nD_M_observe_1 23 rfl
theorem d_M_observe_116 : decode prog_6_method_39_code 116 = .ok (.goto 4, 3) := dr_dd nD_M_observe_1 24 rfl
theorem d_M_observe_119 : decode prog_6_method_39_code 119 = .ok (.iconst 0, 1) := dr_dd nD_M_observe_1 25 rfl
theorem d_M_observe_120 : decode prog_6_method_39_code 120 = .ok (.bastore, 1) := dr_dd nD_M_observe_1 26 rfl
theorem d_M_observe_121 : decode prog_6_method_39_code 121 = .ok (.aload_n 0, 1) := dr_dd nD_M_observe_1 27 rfl
theorem d_M_observe_122 : decode prog_6_method_39_code 122 = .ok (.dup, 1) := dr_dd nD_M_observe_1 28 rfl
theorem d_M_observe_123 : decode prog_6_method_39_code 123 = .ok (.getfield 178, 3) := dr_dd nD_M_observe_1 29 rfl
theorem d_M_observe_126 : decode prog_6_method_39_code 126 = .ok (.iconst 1, 1) := dr_dd nD_M_observe_1 30 rfl
theorem d_M_observe_127 : decode prog_6_method_39_code 127 = .ok (.iadd, 1) := dr_dd nD_M_observe_1 31 rfl
theorem d_M_observe_128 : decode prog_6_method_39_code 128 = .ok (.putfield 178, 3) := dr_dd nD_M_observe_1 32 rfl
theorem d_M_observe_131 : decode prog_6_method_39_code 131 = .ok (.aload_n 0, 1) := dr_dd nD_M_observe_1 33 rfl
theorem d_M_observe_132 : decode prog_6_method_39_code 132 = .ok (.getfield 178, 3) := dr_dd nD_M_observe_1 34 rfl
theorem d_M_observe_135 : decode prog_6_method_39_code 135 = .ok (.iconst 1, 1) := dr_dd nD_M_observe_1 35 rfl
theorem d_M_observe_136 : decode prog_6_method_39_code 136 = .ok (.isub, 1) := dr_dd nD_M_observe_1 36 rfl
theorem d_M_observe_137 : decode prog_6_method_39_code 137 = .ok (.ireturn, 1) := dr_dd nD_M_observe_1 37 rfl
abbrev nL_M_row_0 : List (Nat × Instr × Nat) := [(0, .aload_n 0, 1), (1, .iload_n 1, 1), (2, .iconst 0, 1), (3, .aload_n 0, 1), (4, .getfield 178, 3), (7, .iconst 1, 1), (8, .isub, 1), (9, .invokestatic 90, 3), (12, .ifCond .eq 16, 3), (15, .iload_n 2, 1), (16, .iconst 0, 1), (17, .iconst 3, 1), (18, .invokestatic 90, 3), (21, .ifCond .eq 7, 3), (24, .iconst 1, 1), (25, .goto 4, 3), (28, .iconst 0, 1), (29, .iconst 1, 1), (30, .iconst 1, 1), (31, .invokevirtual 97, 3), (34, .ifCond .ne 5, 3), (37, .iconst 0, 1), (38, .ireturn, 1), (39, .iload_n 2, 1), (40, .ifCond .ne 12, 3), (43, .aload_n 0, 1), (44, .getfield 75, 3), (47, .iload_n 1, 1), (48, .iaload, 1), (49, .goto 45, 3), (52, .iload_n 2, 1), (53, .iconst 1, 1), (54, .if_icmp .ne 12, 3), (57, .aload_n 0, 1), (58, .getfield 78, 3), (61, .iload_n 1, 1), (62, .iaload, 1), (63, .goto 31, 3), (66, .iload_n 2, 1), (67, .iconst 2, 1)]
theorem nD_M_row_0 : ∀ q ∈ nL_M_row_0, decode prog_6_method_40_code q.1 = .ok (q.2.1, q.2.2) := by decide +kernel
theorem d_M_row_0 : decode prog_6_method_40_code 0 = .ok (.aload_n 0, 1) := dr_dd nD_M_row_0 0 rfl
theorem d_M_row_1 : decode prog_6_method_40_code 1 = .ok (.iload_n 1, 1) := dr_dd nD_M_row_0 1 rfl
theorem d_M_row_2 : decode prog_6_method_40_code 2 = .ok (.iconst 0, 1) := dr_dd nD_M_row_0 2 rfl
theorem d_M_row_3 : decode prog_6_method_40_code 3 = .ok (.aload_n 0, 1) := dr_dd nD_M_row_0 3 rfl
theorem d_M_row_4 : decode prog_6_method_40_code 4 = .ok (.getfield 178, 3) := dr_dd nD_M_row_0 4 rfl
theorem d_M_row_7 : decode prog_6_method_40_code 7 = .ok (.iconst 1, 1) := dr_dd nD_M_row_0 5 rfl
theorem d_M_row_8 : decode prog_6_method_40_code 8 = .ok (.isub, 1) := dr_dd nD_M_row_0 6 rfl
theorem d_M_row_9 : decode prog_6_method_40_code 9 = .ok (.invokestatic 90, 3) := dr_dd nD_M_row_0 7 rfl
theorem d_M_row_12 : decode prog_6_method_40_code 12 = .ok (.ifCond .eq 16, 3) := dr_dd nD_M_row_0 8 rfl
theorem d_M_row_15 : decode prog_6_method_40_code 15 = .ok (.iload_n 2, 1) := dr_dd nD_M_row_0 9 rfl
theorem d_M_row_16 : decode prog_6_method_40_code 16 = .ok (.iconst 0, 1) := dr_dd nD_M_row_0 10 rfl
theorem d_M_row_17 : decode prog_6_method_40_code 17 = .ok (.iconst 3, 1) := dr_dd nD_M_row_0 11 rfl
theorem d_M_row_18 : decode prog_6_method_40_code 18 = .ok (.invokestatic 90, 3) := dr_dd nD_M_row_0 12 rfl
theorem d_M_row_21 : decode prog_6_method_40_code 21 = .ok (.ifCond .eq 7, 3) := dr_dd nD_M_row_0 13 rfl
theorem d_M_row_24 : decode prog_6_method_40_code 24 = .ok (.iconst 1, 1) := dr_dd nD_M_row_0 14 rfl
theorem d_M_row_25 : decode prog_6_method_40_code 25 = .ok (.goto 4, 3) := dr_dd nD_M_row_0 15 rfl
theorem d_M_row_28 : decode prog_6_method_40_code 28 = .ok (.iconst 0, 1) := dr_dd nD_M_row_0 16 rfl
theorem d_M_row_29 : decode prog_6_method_40_code 29 = .ok (.iconst 1, 1) := dr_dd nD_M_row_0 17 rfl
theorem d_M_row_30 : decode prog_6_method_40_code 30 = .ok (.iconst 1, 1) := dr_dd nD_M_row_0 18 rfl
theorem d_M_row_31 : decode prog_6_method_40_code 31 = .ok (.invokevirtual 97, 3) := dr_dd nD_M_row_0 19 rfl
theorem d_M_row_34 : decode prog_6_method_40_code 34 = .ok (.ifCond .ne 5, 3) := dr_dd nD_M_row_0 20 rfl
theorem d_M_row_37 : decode prog_6_method_40_code 37 = .ok (.iconst 0, 1) := dr_dd nD_M_row_0 21 rfl
theorem d_M_row_38 : decode prog_6_method_40_code 38 = .ok (.ireturn, 1) := dr_dd nD_M_row_0 22 rfl
theorem d_M_row_39 : decode prog_6_method_40_code 39 = .ok (.iload_n 2, 1) := dr_dd nD_M_row_0 23 rfl
theorem d_M_row_40 : decode prog_6_method_40_code 40 = .ok (.ifCond .ne 12, 3) := dr_dd nD_M_row_0 24 rfl
theorem d_M_row_43 : decode prog_6_method_40_code 43 = .ok (.aload_n 0, 1) := dr_dd nD_M_row_0 25 rfl
theorem d_M_row_44 : decode prog_6_method_40_code 44 = .ok (.getfield 75, 3) := dr_dd nD_M_row_0 26 rfl
theorem d_M_row_47 : decode prog_6_method_40_code 47 = .ok (.iload_n 1, 1) := dr_dd nD_M_row_0 27 rfl
theorem d_M_row_48 : decode prog_6_method_40_code 48 = .ok (.iaload, 1) := dr_dd nD_M_row_0 28 rfl
theorem d_M_row_49 : decode prog_6_method_40_code 49 = .ok (.goto 45, 3) := dr_dd nD_M_row_0 29 rfl
theorem d_M_row_52 : decode prog_6_method_40_code 52 = .ok (.iload_n 2, 1) := dr_dd nD_M_row_0 30 rfl
theorem d_M_row_53 : decode prog_6_method_40_code 53 = .ok (.iconst 1, 1) := dr_dd nD_M_row_0 31 rfl
theorem d_M_row_54 : decode prog_6_method_40_code 54 = .ok (.if_icmp .ne 12, 3) := dr_dd nD_M_row_0 32 rfl
theorem d_M_row_57 : decode prog_6_method_40_code 57 = .ok (.aload_n 0, 1) := dr_dd nD_M_row_0 33 rfl
theorem d_M_row_58 : decode prog_6_method_40_code 58 = .ok (.getfield 78, 3) := dr_dd nD_M_row_0 34 rfl
theorem d_M_row_61 : decode prog_6_method_40_code 61 = .ok (.iload_n 1, 1) := dr_dd nD_M_row_0 35 rfl
theorem d_M_row_62 : decode prog_6_method_40_code 62 = .ok (.iaload, 1) := dr_dd nD_M_row_0 36 rfl
theorem d_M_row_63 : decode prog_6_method_40_code 63 = .ok (.goto 31, 3) := dr_dd nD_M_row_0 37 rfl
theorem d_M_row_66 : decode prog_6_method_40_code 66 = .ok (.iload_n 2, 1) := dr_dd nD_M_row_0 38 rfl
theorem d_M_row_67 : decode prog_6_method_40_code 67 = .ok (.iconst 2, 1) := dr_dd nD_M_row_0 39 rfl
abbrev nL_M_row_1 : List (Nat × Instr × Nat) := [(68, .if_icmp .ne 12, 3), (71, .aload_n 0, 1), (72, .getfield 81, 3), (75, .iload_n 1, 1), (76, .iaload, 1), (77, .goto 17, 3), (80, .aload_n 0, 1), (81, .getfield 84, 3), (84, .iload_n 1, 1), (85, .baload, 1), (86, .ifCond .eq 7, 3), (89, .iconst 1, 1), (90, .goto 4, 3), (93, .iconst 0, 1), (94, .ireturn, 1)]
theorem nD_M_row_1 : ∀ q ∈ nL_M_row_1, decode prog_6_method_40_code q.1 = .ok (q.2.1, q.2.2) := by decide +kernel
theorem d_M_row_68 : decode prog_6_method_40_code 68 = .ok (.if_icmp .ne 12, 3) := dr_dd nD_M_row_1 0 rfl
theorem d_M_row_71 : decode prog_6_method_40_code 71 = .ok (.aload_n 0, 1) := dr_dd nD_M_row_1 1 rfl
theorem d_M_row_72 : decode prog_6_method_40_code 72 = .ok (.getfield 81, 3) := dr_dd nD_M_row_1 2 rfl
theorem d_M_row_75 : decode prog_6_method_40_code 75 = .ok (.iload_n 1, 1) := dr_dd nD_M_row_1 3 rfl
theorem d_M_row_76 : decode prog_6_method_40_code 76 = .ok (.iaload, 1) := dr_dd nD_M_row_1 4 rfl
theorem d_M_row_77 : decode prog_6_method_40_code 77 = .ok (.goto 17, 3) := dr_dd nD_M_row_1 5 rfl
theorem d_M_row_80 : decode prog_6_method_40_code 80 = .ok (.aload_n 0, 1) := dr_dd nD_M_row_1 6 rfl
theorem d_M_row_81 : decode prog_6_method_40_code 81 = .ok (.getfield 84, 3) := dr_dd nD_M_row_1 7 rfl
theorem d_M_row_84 : decode prog_6_method_40_code 84 = .ok (.iload_n 1, 1) := dr_dd nD_M_row_1 8 rfl
theorem d_M_row_85 : decode prog_6_method_40_code 85 = .ok (.baload, 1) := dr_dd nD_M_row_1 9 rfl
theorem d_M_row_86 : decode prog_6_method_40_code 86 = .ok (.ifCond .eq 7, 3) := dr_dd nD_M_row_1 10 rfl
theorem d_M_row_89 : decode prog_6_method_40_code 89 = .ok (.iconst 1, 1) := dr_dd nD_M_row_1 11 rfl
theorem d_M_row_90 : decode prog_6_method_40_code 90 = .ok (.goto 4, 3) := dr_dd nD_M_row_1 12 rfl
theorem d_M_row_93 : decode prog_6_method_40_code 93 = .ok (.iconst 0, 1) := dr_dd nD_M_row_1 13 rfl
theorem d_M_row_94 : decode prog_6_method_40_code 94 = .ok (.ireturn, 1) := dr_dd nD_M_row_1 14 rfl
abbrev nL_M_drill_0 : List (Nat × Instr × Nat) := [(0, .aload_n 0, 1), (1, .aload_n 0, 1), (2, .iload_n 1, 1), (3, .invokevirtual 167, 3), (6, .ifCond .eq 16, 3), (9, .iload_n 2, 1), (10, .iconst 0, 1), (11, .iconst 4, 1), (12, .invokestatic 90, 3), (15, .ifCond .eq 7, 3), (18, .iconst 1, 1), (19, .goto 4, 3), (22, .iconst 0, 1), (23, .iconst 1, 1), (24, .iconst 1, 1), (25, .invokevirtual 97, 3), (28, .ifCond .ne 5, 3), (31, .iconst 0, 1), (32, .ireturn, 1), (33, .iconst 0, 1), (34, .istore_n 3, 1), (35, .iconst 0, 1), (36, .istore 4, 2), (38, .iload 4, 2), (40, .bipush 20, 2), (42, .if_icmp .ge 23, 3), (45, .aload_n 0, 1), (46, .getfield 72, 3), (49, .iload 4, 2), (51, .iaload, 1), (52, .iload_n 1, 1), (53, .if_icmp .ne 6, 3), (56, .iinc 3 1, 3), (59, .iinc 4 1, 3), (62, .goto (-24), 3), (65, .iconst 0, 1), (66, .istore 4, 2), (68, .iconst 1, 1), (69, .istore 5, 2), (71, .iload 5, 2)]
theorem nD_M_drill_0 : ∀ q ∈ nL_M_drill_0, decode prog_6_method_41_code q.1 = .ok (q.2.1, q.2.2) := by decide +kernel
theorem d_M_drill_0 : decode prog_6_method_41_code 0 = .ok (.aload_n 0, 1) := dr_dd nD_M_drill_0 0 rfl
theorem d_M_drill_1 : decode prog_6_method_41_code 1 = .ok (.aload_n 0, 1) := dr_dd nD_M_drill_0 1 rfl
theorem d_M_drill_2 : decode prog_6_method_41_code 2 = .ok (.iload_n 1, 1) := dr_dd nD_M_drill_0 2 rfl
theorem d_M_drill_3 : decode prog_6_method_41_code 3 = .ok (.invokevirtual 167, 3) := dr_dd nD_M_drill_0 3 rfl
theorem d_M_drill_6 : decode prog_6_method_41_code 6 = .ok (.ifCond .eq 16, 3) := dr_dd nD_M_drill_0 4 rfl
theorem d_M_drill_9 : decode prog_6_method_41_code 9 = .ok (.iload_n 2, 1) := dr_dd nD_M_drill_0 5 rfl
theorem d_M_drill_10 : decode prog_6_method_41_code 10 = .ok (.iconst 0, 1) := dr_dd nD_M_drill_0 6 rfl
theorem d_M_drill_11 : decode prog_6_method_41_code 11 = .ok (.iconst 4, 1) := dr_dd nD_M_drill_0 7 rfl
theorem d_M_drill_12 : decode prog_6_method_41_code 12 = .ok (.invokestatic 90, 3) := dr_dd nD_M_drill_0 8 rfl
theorem d_M_drill_15 : decode prog_6_method_41_code 15 = .ok (.ifCond .eq 7, 3) := dr_dd nD_M_drill_0 9 rfl
theorem d_M_drill_18 : decode prog_6_method_41_code 18 = .ok (.iconst 1, 1) := dr_dd nD_M_drill_0 10 rfl
theorem d_M_drill_19 : decode prog_6_method_41_code 19 = .ok (.goto 4, 3) := dr_dd nD_M_drill_0 11 rfl
theorem d_M_drill_22 : decode prog_6_method_41_code 22 = .ok (.iconst 0, 1) := dr_dd nD_M_drill_0 12 rfl
theorem d_M_drill_23 : decode prog_6_method_41_code 23 = .ok (.iconst 1, 1) := dr_dd nD_M_drill_0 13 rfl
theorem d_M_drill_24 : decode prog_6_method_41_code 24 = .ok (.iconst 1, 1) := dr_dd nD_M_drill_0 14 rfl
theorem d_M_drill_25 : decode prog_6_method_41_code 25 = .ok (.invokevirtual 97, 3) := dr_dd nD_M_drill_0 15 rfl
theorem d_M_drill_28 : decode prog_6_method_41_code 28 = .ok (.ifCond .ne 5, 3) := dr_dd nD_M_drill_0 16 rfl
theorem d_M_drill_31 : decode prog_6_method_41_code 31 = .ok (.iconst 0, 1) := dr_dd nD_M_drill_0 17 rfl
theorem d_M_drill_32 : decode prog_6_method_41_code 32 = .ok (.ireturn, 1) := dr_dd nD_M_drill_0 18 rfl
theorem d_M_drill_33 : decode prog_6_method_41_code 33 = .ok (.iconst 0, 1) := dr_dd nD_M_drill_0 19 rfl
theorem d_M_drill_34 : decode prog_6_method_41_code 34 = .ok (.istore_n 3, 1) := dr_dd nD_M_drill_0 20 rfl
theorem d_M_drill_35 : decode prog_6_method_41_code 35 = .ok (.iconst 0, 1) := dr_dd nD_M_drill_0 21 rfl
theorem d_M_drill_36 : decode prog_6_method_41_code 36 = .ok (.istore 4, 2) := dr_dd nD_M_drill_0 22 rfl
theorem d_M_drill_38 : decode prog_6_method_41_code 38 = .ok (.iload 4, 2) := dr_dd nD_M_drill_0 23 rfl
theorem d_M_drill_40 : decode prog_6_method_41_code 40 = .ok (.bipush 20, 2) := dr_dd nD_M_drill_0 24 rfl
theorem d_M_drill_42 : decode prog_6_method_41_code 42 = .ok (.if_icmp .ge 23, 3) := dr_dd nD_M_drill_0 25 rfl
theorem d_M_drill_45 : decode prog_6_method_41_code 45 = .ok (.aload_n 0, 1) := dr_dd nD_M_drill_0 26 rfl
theorem d_M_drill_46 : decode prog_6_method_41_code 46 = .ok (.getfield 72, 3) := dr_dd nD_M_drill_0 27 rfl
theorem d_M_drill_49 : decode prog_6_method_41_code 49 = .ok (.iload 4, 2) := dr_dd nD_M_drill_0 28 rfl
theorem d_M_drill_51 : decode prog_6_method_41_code 51 = .ok (.iaload, 1) := dr_dd nD_M_drill_0 29 rfl
theorem d_M_drill_52 : decode prog_6_method_41_code 52 = .ok (.iload_n 1, 1) := dr_dd nD_M_drill_0 30 rfl
theorem d_M_drill_53 : decode prog_6_method_41_code 53 = .ok (.if_icmp .ne 6, 3) := dr_dd nD_M_drill_0 31 rfl
theorem d_M_drill_56 : decode prog_6_method_41_code 56 = .ok (.iinc 3 1, 3) := dr_dd nD_M_drill_0 32 rfl
theorem d_M_drill_59 : decode prog_6_method_41_code 59 = .ok (.iinc 4 1, 3) := dr_dd nD_M_drill_0 33 rfl
theorem d_M_drill_62 : decode prog_6_method_41_code 62 = .ok (.goto (-24), 3) := dr_dd nD_M_drill_0 34 rfl
theorem d_M_drill_65 : decode prog_6_method_41_code 65 = .ok (.iconst 0, 1) := dr_dd nD_M_drill_0 35 rfl
theorem d_M_drill_66 : decode prog_6_method_41_code 66 = .ok (.istore 4, 2) := dr_dd nD_M_drill_0 36 rfl
theorem d_M_drill_68 : decode prog_6_method_41_code 68 = .ok (.iconst 1, 1) := dr_dd nD_M_drill_0 37 rfl
theorem d_M_drill_69 : decode prog_6_method_41_code 69 = .ok (.istore 5, 2) := dr_dd nD_M_drill_0 38 rfl
theorem d_M_drill_71 : decode prog_6_method_41_code 71 = .ok (.iload 5, 2) := dr_dd nD_M_drill_0 39 rfl
abbrev nL_M_drill_1 : List (Nat × Instr × Nat) := [(73, .bipush 41, 2), (75, .if_icmp .ge 42, 3), (78, .aload_n 0, 1), (79, .getfield 17, 3), (82, .iload_n 1, 1), (83, .bipush 41, 2), (85, .imul, 1), (86, .iload 5, 2), (88, .iadd, 1), (89, .baload, 1), (90, .ifCond .eq 21, 3), (93, .aload_n 0, 1), (94, .getfield 60, 3), (97, .iload_n 1, 1), (98, .bipush 41, 2), (100, .imul, 1), (101, .iload 5, 2), (103, .iadd, 1), (104, .iaload, 1), (105, .ifCond .lt 6, 3), (108, .iinc 4 1, 3), (111, .iinc 5 1, 3), (114, .goto (-43), 3), (117, .iload_n 2, 1), (118, .ifCond .ne 20, 3), (121, .aload_n 0, 1), (122, .getfield 57, 3), (125, .iload_n 1, 1), (126, .baload, 1), (127, .ifCond .eq 7, 3), (130, .iconst 0, 1), (131, .goto 46, 3), (134, .iconst 1, 1), (135, .goto 42, 3), (138, .iload_n 2, 1), (139, .iconst 1, 1), (140, .if_icmp .ne 12, 3), (143, .aload_n 0, 1), (144, .getfield 54, 3), (147, .iload_n 1, 1)]
theorem nD_M_drill_1 : ∀ q ∈ nL_M_drill_1, decode prog_6_method_41_code q.1 = .ok (q.2.1, q.2.2) := by decide +kernel
theorem d_M_drill_73 : decode prog_6_method_41_code 73 = .ok (.bipush 41, 2) := dr_dd nD_M_drill_1 0 rfl
theorem d_M_drill_75 : decode prog_6_method_41_code 75 = .ok (.if_icmp .ge 42, 3) := dr_dd nD_M_drill_1 1 rfl
theorem d_M_drill_78 : decode prog_6_method_41_code 78 = .ok (.aload_n 0, 1) := dr_dd nD_M_drill_1 2 rfl
theorem d_M_drill_79 : decode prog_6_method_41_code 79 = .ok (.getfield 17, 3) := dr_dd nD_M_drill_1 3 rfl
theorem d_M_drill_82 : decode prog_6_method_41_code 82 = .ok (.iload_n 1, 1) := dr_dd nD_M_drill_1 4 rfl
theorem d_M_drill_83 : decode prog_6_method_41_code 83 = .ok (.bipush 41, 2) := dr_dd nD_M_drill_1 5 rfl
theorem d_M_drill_85 : decode prog_6_method_41_code 85 = .ok (.imul, 1) := dr_dd nD_M_drill_1 6 rfl
theorem d_M_drill_86 : decode prog_6_method_41_code 86 = .ok (.iload 5, 2) := dr_dd nD_M_drill_1 7 rfl
theorem d_M_drill_88 : decode prog_6_method_41_code 88 = .ok (.iadd, 1) := dr_dd nD_M_drill_1 8 rfl
theorem d_M_drill_89 : decode prog_6_method_41_code 89 = .ok (.baload, 1) := dr_dd nD_M_drill_1 9 rfl
theorem d_M_drill_90 : decode prog_6_method_41_code 90 = .ok (.ifCond .eq 21, 3) := dr_dd nD_M_drill_1 10 rfl
theorem d_M_drill_93 : decode prog_6_method_41_code 93 = .ok (.aload_n 0, 1) := dr_dd nD_M_drill_1 11 rfl
theorem d_M_drill_94 : decode prog_6_method_41_code 94 = .ok (.getfield 60, 3) := dr_dd nD_M_drill_1 12 rfl
theorem d_M_drill_97 : decode prog_6_method_41_code 97 = .ok (.iload_n 1, 1) := dr_dd nD_M_drill_1 13 rfl
theorem d_M_drill_98 : decode prog_6_method_41_code 98 = .ok (.bipush 41, 2) := dr_dd nD_M_drill_1 14 rfl
theorem d_M_drill_100 : decode prog_6_method_41_code 100 = .ok (.imul, 1) := dr_dd nD_M_drill_1 15 rfl
theorem d_M_drill_101 : decode prog_6_method_41_code 101 = .ok (.iload 5, 2) := dr_dd nD_M_drill_1 16 rfl
theorem d_M_drill_103 : decode prog_6_method_41_code 103 = .ok (.iadd, 1) := dr_dd nD_M_drill_1 17 rfl
theorem d_M_drill_104 : decode prog_6_method_41_code 104 = .ok (.iaload, 1) := dr_dd nD_M_drill_1 18 rfl
theorem d_M_drill_105 : decode prog_6_method_41_code 105 = .ok (.ifCond .lt 6, 3) := dr_dd nD_M_drill_1 19 rfl
theorem d_M_drill_108 : decode prog_6_method_41_code 108 = .ok (.iinc 4 1, 3) := dr_dd nD_M_drill_1 20 rfl
theorem d_M_drill_111 : decode prog_6_method_41_code 111 = .ok (.iinc 5 1, 3) := dr_dd nD_M_drill_1 21 rfl
theorem d_M_drill_114 : decode prog_6_method_41_code 114 = .ok (.goto (-43), 3) := dr_dd nD_M_drill_1 22 rfl
theorem d_M_drill_117 : decode prog_6_method_41_code 117 = .ok (.iload_n 2, 1) := dr_dd nD_M_drill_1 23 rfl
theorem d_M_drill_118 : decode prog_6_method_41_code 118 = .ok (.ifCond .ne 20, 3) := dr_dd nD_M_drill_1 24 rfl
theorem d_M_drill_121 : decode prog_6_method_41_code 121 = .ok (.aload_n 0, 1) := dr_dd nD_M_drill_1 25 rfl
theorem d_M_drill_122 : decode prog_6_method_41_code 122 = .ok (.getfield 57, 3) := dr_dd nD_M_drill_1 26 rfl
theorem d_M_drill_125 : decode prog_6_method_41_code 125 = .ok (.iload_n 1, 1) := dr_dd nD_M_drill_1 27 rfl
theorem d_M_drill_126 : decode prog_6_method_41_code 126 = .ok (.baload, 1) := dr_dd nD_M_drill_1 28 rfl
theorem d_M_drill_127 : decode prog_6_method_41_code 127 = .ok (.ifCond .eq 7, 3) := dr_dd nD_M_drill_1 29 rfl
theorem d_M_drill_130 : decode prog_6_method_41_code 130 = .ok (.iconst 0, 1) := dr_dd nD_M_drill_1 30 rfl
theorem d_M_drill_131 : decode prog_6_method_41_code 131 = .ok (.goto 46, 3) := dr_dd nD_M_drill_1 31 rfl
theorem d_M_drill_134 : decode prog_6_method_41_code 134 = .ok (.iconst 1, 1) := dr_dd nD_M_drill_1 32 rfl
theorem d_M_drill_135 : decode prog_6_method_41_code 135 = .ok (.goto 42, 3) := dr_dd nD_M_drill_1 33 rfl
theorem d_M_drill_138 : decode prog_6_method_41_code 138 = .ok (.iload_n 2, 1) := dr_dd nD_M_drill_1 34 rfl
theorem d_M_drill_139 : decode prog_6_method_41_code 139 = .ok (.iconst 1, 1) := dr_dd nD_M_drill_1 35 rfl
theorem d_M_drill_140 : decode prog_6_method_41_code 140 = .ok (.if_icmp .ne 12, 3) := dr_dd nD_M_drill_1 36 rfl
theorem d_M_drill_143 : decode prog_6_method_41_code 143 = .ok (.aload_n 0, 1) := dr_dd nD_M_drill_1 37 rfl
theorem d_M_drill_144 : decode prog_6_method_41_code 144 = .ok (.getfield 54, 3) := dr_dd nD_M_drill_1 38 rfl
theorem d_M_drill_147 : decode prog_6_method_41_code 147 = .ok (.iload_n 1, 1) := dr_dd nD_M_drill_1 39 rfl
abbrev nL_M_drill_2 : List (Nat × Instr × Nat) := [(148, .iaload, 1), (149, .goto 28, 3), (152, .iload_n 2, 1), (153, .iconst 2, 1), (154, .if_icmp .ne 12, 3), (157, .aload_n 0, 1), (158, .getfield 63, 3), (161, .iload_n 1, 1), (162, .iaload, 1), (163, .goto 14, 3), (166, .iload_n 2, 1), (167, .iconst 3, 1), (168, .if_icmp .ne 7, 3), (171, .iload_n 3, 1), (172, .goto 5, 3), (175, .iload 4, 2), (177, .ireturn, 1)]
theorem nD_M_drill_2 : ∀ q ∈ nL_M_drill_2, decode prog_6_method_41_code q.1 = .ok (q.2.1, q.2.2) := by decide +kernel
theorem d_M_drill_148 : decode prog_6_method_41_code 148 = .ok (.iaload, 1) := dr_dd nD_M_drill_2 0 rfl
theorem d_M_drill_149 : decode prog_6_method_41_code 149 = .ok (.goto 28, 3) := dr_dd nD_M_drill_2 1 rfl
theorem d_M_drill_152 : decode prog_6_method_41_code 152 = .ok (.iload_n 2, 1) := dr_dd nD_M_drill_2 2 rfl
theorem d_M_drill_153 : decode prog_6_method_41_code 153 = .ok (.iconst 2, 1) := dr_dd nD_M_drill_2 3 rfl
theorem d_M_drill_154 : decode prog_6_method_41_code 154 = .ok (.if_icmp .ne 12, 3) := dr_dd nD_M_drill_2 4 rfl
theorem d_M_drill_157 : decode prog_6_method_41_code 157 = .ok (.aload_n 0, 1) := dr_dd nD_M_drill_2 5 rfl
theorem d_M_drill_158 : decode prog_6_method_41_code 158 = .ok (.getfield 63, 3) := dr_dd nD_M_drill_2 6 rfl
theorem d_M_drill_161 : decode prog_6_method_41_code 161 = .ok (.iload_n 1, 1) := dr_dd nD_M_drill_2 7 rfl
theorem d_M_drill_162 : decode prog_6_method_41_code 162 = .ok (.iaload, 1) := dr_dd nD_M_drill_2 8 rfl
theorem d_M_drill_163 : decode prog_6_method_41_code 163 = .ok (.goto 14, 3) := dr_dd nD_M_drill_2 9 rfl
theorem d_M_drill_166 : decode prog_6_method_41_code 166 = .ok (.iload_n 2, 1) := dr_dd nD_M_drill_2 10 rfl
theorem d_M_drill_167 : decode prog_6_method_41_code 167 = .ok (.iconst 3, 1) := dr_dd nD_M_drill_2 11 rfl
theorem d_M_drill_168 : decode prog_6_method_41_code 168 = .ok (.if_icmp .ne 7, 3) := dr_dd nD_M_drill_2 12 rfl
theorem d_M_drill_171 : decode prog_6_method_41_code 171 = .ok (.iload_n 3, 1) := dr_dd nD_M_drill_2 13 rfl
theorem d_M_drill_172 : decode prog_6_method_41_code 172 = .ok (.goto 5, 3) := dr_dd nD_M_drill_2 14 rfl
theorem d_M_drill_175 : decode prog_6_method_41_code 175 = .ok (.iload 4, 2) := dr_dd nD_M_drill_2 15 rfl
theorem d_M_drill_177 : decode prog_6_method_41_code 177 = .ok (.ireturn, 1) := dr_dd nD_M_drill_2 16 rfl
