abbrev nL_R_init_0 : List (Nat × Instr × Nat) := [(0, .aload_n 0, 1), (1, .invokespecial 1, 3), (4, .aload_n 0, 1), (5, .new 7, 3), (8, .dup, 1), (9, .invokespecial 9, 3), (12, .putfield 10, 3), (15, .aload_n 0, 1), (16, .new 16, 3), (19, .dup, 1), (20, .invokespecial 18, 3), (23, .putfield 19, 3), (26, .aload_n 0, 1), (27, .new 16, 3), (30, .dup, 1), (31, .invokespecial 18, 3), (34, .putfield 23, 3), (37, .aload_n 0, 1), (38, .iconst (-1), 1), (39, .putfield 26, 3), (42, .aload_n 0, 1), (43, .iconst 0, 1), (44, .putfield 30, 3), (47, .aload_n 0, 1), (48, .bipush 8, 2), (50, .anewarray 33, 3), (53, .putfield 35, 3), (56, .aload_n 0, 1), (57, .iconst 0, 1), (58, .putfield 39, 3), (61, .aload_n 0, 1), (62, .bipush 20, 2), (64, .newarray .int, 2), (66, .putfield 42, 3), (69, .aload_n 0, 1), (70, .sipush 400, 3), (73, .newarray .int, 2), (75, .putfield 46, 3), (78, .aload_n 0, 1), (79, .iconst 0, 1)]
theorem nD_R_init_0 : ∀ q ∈ nL_R_init_0, decode prog_1_method_1_code q.1 = .ok (q.2.1, q.2.2) := by decide +kernel
theorem d_R_init_0 : decode prog_1_method_1_code 0 = .ok (.aload_n 0, 1) := dr_dd nD_R_init_0 0 rfl
theorem d_R_init_1 : decode prog_1_method_1_code 1 = .ok (.invokespecial 1, 3) := dr_dd nD_R_init_0 1 rfl
theorem d_R_init_4 : decode prog_1_method_1_code 4 = .ok (.aload_n 0, 1) := dr_dd nD_R_init_0 2 rfl
theorem d_R_init_5 : decode prog_1_method_1_code 5 = .ok (.new 7, 3) := dr_dd nD_R_init_0 3 rfl
theorem d_R_init_8 : decode prog_1_method_1_code 8 = .ok (.dup, 1) := dr_dd nD_R_init_0 4 rfl
theorem d_R_init_9 : decode prog_1_method_1_code 9 = .ok (.invokespecial 9, 3) := dr_dd nD_R_init_0 5 rfl
theorem d_R_init_12 : decode prog_1_method_1_code 12 = .ok (.putfield 10, 3) := dr_dd nD_R_init_0 6 rfl
theorem d_R_init_15 : decode prog_1_method_1_code 15 = .ok (.aload_n 0, 1) := dr_dd nD_R_init_0 7 rfl
theorem d_R_init_16 : decode prog_1_method_1_code 16 = .ok (.new 16, 3) := dr_dd nD_R_init_0 8 rfl
theorem d_R_init_19 : decode prog_1_method_1_code 19 = .ok (.dup, 1) := dr_dd nD_R_init_0 9 rfl
theorem d_R_init_20 : decode prog_1_method_1_code 20 = .ok (.invokespecial 18, 3) := dr_dd nD_R_init_0 10 rfl
theorem d_R_init_23 : decode prog_1_method_1_code 23 = .ok (.putfield 19, 3) := dr_dd nD_R_init_0 11 rfl
theorem d_R_init_26 : decode prog_1_method_1_code 26 = .ok (.aload_n 0, 1) := dr_dd nD_R_init_0 12 rfl
theorem d_R_init_27 : decode prog_1_method_1_code 27 = .ok (.new 16, 3) := dr_dd nD_R_init_0 13 rfl
theorem d_R_init_30 : decode prog_1_method_1_code 30 = .ok (.dup, 1) := dr_dd nD_R_init_0 14 rfl
theorem d_R_init_31 : decode prog_1_method_1_code 31 = .ok (.invokespecial 18, 3) := dr_dd nD_R_init_0 15 rfl
theorem d_R_init_34 : decode prog_1_method_1_code 34 = .ok (.putfield 23, 3) := dr_dd nD_R_init_0 16 rfl
theorem d_R_init_37 : decode prog_1_method_1_code 37 = .ok (.aload_n 0, 1) := dr_dd nD_R_init_0 17 rfl
theorem d_R_init_38 : decode prog_1_method_1_code 38 = .ok (.iconst (-1), 1) := dr_dd nD_R_init_0 18 rfl
theorem d_R_init_39 : decode prog_1_method_1_code 39 = .ok (.putfield 26, 3) := dr_dd nD_R_init_0 19 rfl
theorem d_R_init_42 : decode prog_1_method_1_code 42 = .ok (.aload_n 0, 1) := dr_dd nD_R_init_0 20 rfl
theorem d_R_init_43 : decode prog_1_method_1_code 43 = .ok (.iconst 0, 1) := dr_dd nD_R_init_0 21 rfl
theorem d_R_init_44 : decode prog_1_method_1_code 44 = .ok (.putfield 30, 3) := dr_dd nD_R_init_0 22 rfl
theorem d_R_init_47 : decode prog_1_method_1_code 47 = .ok (.aload_n 0, 1) := dr_dd nD_R_init_0 23 rfl
theorem d_R_init_48 : decode prog_1_method_1_code 48 = .ok (.bipush 8, 2) := dr_dd nD_R_init_0 24 rfl
theorem d_R_init_50 : decode prog_1_method_1_code 50 = .ok (.anewarray 33, 3) := dr_dd nD_R_init_0 25 rfl
theorem d_R_init_53 : decode prog_1_method_1_code 53 = .ok (.putfield 35, 3) := dr_dd nD_R_init_0 26 rfl
theorem d_R_init_56 : decode prog_1_method_1_code 56 = .ok (.aload_n 0, 1) := dr_dd nD_R_init_0 27 rfl
theorem d_R_init_57 : decode prog_1_method_1_code 57 = .ok (.iconst 0, 1) := dr_dd nD_R_init_0 28 rfl
theorem d_R_init_58 : decode prog_1_method_1_code 58 = .ok (.putfield 39, 3) := dr_dd nD_R_init_0 29 rfl
theorem d_R_init_61 : decode prog_1_method_1_code 61 = .ok (.aload_n 0, 1) := dr_dd nD_R_init_0 30 rfl
theorem d_R_init_62 : decode prog_1_method_1_code 62 = .ok (.bipush 20, 2) := dr_dd nD_R_init_0 31 rfl
theorem d_R_init_64 : decode prog_1_method_1_code 64 = .ok (.newarray .int, 2) := dr_dd nD_R_init_0 32 rfl
theorem d_R_init_66 : decode prog_1_method_1_code 66 = .ok (.putfield 42, 3) := dr_dd nD_R_init_0 33 rfl
theorem d_R_init_69 : decode prog_1_method_1_code 69 = .ok (.aload_n 0, 1) := dr_dd nD_R_init_0 34 rfl
theorem d_R_init_70 : decode prog_1_method_1_code 70 = .ok (.sipush 400, 3) := dr_dd nD_R_init_0 35 rfl
theorem d_R_init_73 : decode prog_1_method_1_code 73 = .ok (.newarray .int, 2) := dr_dd nD_R_init_0 36 rfl
theorem d_R_init_75 : decode prog_1_method_1_code 75 = .ok (.putfield 46, 3) := dr_dd nD_R_init_0 37 rfl
theorem d_R_init_78 : decode prog_1_method_1_code 78 = .ok (.aload_n 0, 1) := dr_dd nD_R_init_0 38 rfl
theorem d_R_init_79 : decode prog_1_method_1_code 79 = .ok (.iconst 0, 1) := dr_dd nD_R_init_0 39 rfl
abbrev nL_R_init_1 : List (Nat × Instr × Nat) := [(80, .putfield 49, 3), (83, .aload_n 0, 1), (84, .getfield 42, 3), (87, .iconst (-1), 1), (88, .invokestatic 52, 3), (91, .return_, 1)]
theorem nD_R_init_1 : ∀ q ∈ nL_R_init_1, decode prog_1_method_1_code q.1 = .ok (q.2.1, q.2.2) := by decide +kernel
theorem d_R_init_80 : decode prog_1_method_1_code 80 = .ok (.putfield 49, 3) := dr_dd nD_R_init_1 0 rfl
theorem d_R_init_83 : decode prog_1_method_1_code 83 = .ok (.aload_n 0, 1) := dr_dd nD_R_init_1 1 rfl
theorem d_R_init_84 : decode prog_1_method_1_code 84 = .ok (.getfield 42, 3) := dr_dd nD_R_init_1 2 rfl
theorem d_R_init_87 : decode prog_1_method_1_code 87 = .ok (.iconst (-1), 1) := dr_dd nD_R_init_1 3 rfl
theorem d_R_init_88 : decode prog_1_method_1_code 88 = .ok (.invokestatic 52, 3) := dr_dd nD_R_init_1 4 rfl
theorem d_R_init_91 : decode prog_1_method_1_code 91 = .ok (.return_, 1) := dr_dd nD_R_init_1 5 rfl
abbrev nL_R_sign_0 : List (Nat × Instr × Nat) := [(0, .iload_n 3, 1), (1, .iconst 1, 1), (2, .if_icmp .lt 9, 3), (5, .iload_n 3, 1), (6, .bipush 8, 2), (8, .if_icmp .le 13, 3), (11, .new 58, 3), (14, .dup, 1), (15, .ldc 60, 2), (17, .invokespecial 62, 3), (20, .athrow, 1), (21, .aload_n 0, 1), (22, .getfield 10, 3), (25, .iload_n 3, 1), (26, .invokevirtual 65, 3), (29, .ifCond .ne 13, 3), (32, .new 69, 3), (35, .dup, 1), (36, .ldc 71, 2), (38, .invokespecial 73, 3), (41, .athrow, 1), (42, .aload_n 0, 1), (43, .getfield 10, 3), (46, .lload_n 1, 1), (47, .iload_n 3, 1), (48, .invokevirtual 74, 3), (51, .ireturn, 1)]
theorem nD_R_sign_0 : ∀ q ∈ nL_R_sign_0, decode prog_1_method_2_code q.1 = .ok (q.2.1, q.2.2) := by decide +kernel
theorem d_R_sign_0 : decode prog_1_method_2_code 0 = .ok (.iload_n 3, 1) := dr_dd nD_R_sign_0 0 rfl
theorem d_R_sign_1 : decode prog_1_method_2_code 1 = .ok (.iconst 1, 1) := dr_dd nD_R_sign_0 1 rfl
theorem d_R_sign_2 : decode prog_1_method_2_code 2 = .ok (.if_icmp .lt 9, 3) := dr_dd nD_R_sign_0 2 rfl
theorem d_R_sign_5 : decode prog_1_method_2_code 5 = .ok (.iload_n 3, 1) := dr_dd nD_R_sign_0 3 rfl
theorem d_R_sign_6 : decode prog_1_method_2_code 6 = .ok (.bipush 8, 2) := dr_dd nD_R_sign_0 4 rfl
theorem d_R_sign_8 : decode prog_1_method_2_code 8 = .ok (.if_icmp .le 13, 3) := dr_dd nD_R_sign_0 5 rfl
theorem d_R_sign_11 : decode prog_1_method_2_code 11 = .ok (.new 58, 3) := dr_dd nD_R_sign_0 6 rfl
theorem d_R_sign_14 : decode prog_1_method_2_code 14 = .ok (.dup, 1) := dr_dd nD_R_sign_0 7 rfl
theorem d_R_sign_15 : decode prog_1_method_2_code 15 = .ok (.ldc 60, 2) := dr_dd nD_R_sign_0 8 rfl
theorem d_R_sign_17 : decode prog_1_method_2_code 17 = .ok (.invokespecial 62, 3) := dr_dd nD_R_sign_0 9 rfl
theorem d_R_sign_20 : decode prog_1_method_2_code 20 = .ok (.athrow, 1) := dr_dd nD_R_sign_0 10 rfl
theorem d_R_sign_21 : decode prog_1_method_2_code 21 = .ok (.aload_n 0, 1) := dr_dd nD_R_sign_0 11 rfl
theorem d_R_sign_22 : decode prog_1_method_2_code 22 = .ok (.getfield 10, 3) := dr_dd nD_R_sign_0 12 rfl
theorem d_R_sign_25 : decode prog_1_method_2_code 25 = .ok (.iload_n 3, 1) := dr_dd nD_R_sign_0 13 rfl
theorem d_R_sign_26 : decode prog_1_method_2_code 26 = .ok (.invokevirtual 65, 3) := dr_dd nD_R_sign_0 14 rfl
theorem d_R_sign_29 : decode prog_1_method_2_code 29 = .ok (.ifCond .ne 13, 3) := dr_dd nD_R_sign_0 15 rfl
theorem d_R_sign_32 : decode prog_1_method_2_code 32 = .ok (.new 69, 3) := dr_dd nD_R_sign_0 16 rfl
theorem d_R_sign_35 : decode prog_1_method_2_code 35 = .ok (.dup, 1) := dr_dd nD_R_sign_0 17 rfl
theorem d_R_sign_36 : decode prog_1_method_2_code 36 = .ok (.ldc 71, 2) := dr_dd nD_R_sign_0 18 rfl
theorem d_R_sign_38 : decode prog_1_method_2_code 38 = .ok (.invokespecial 73, 3) := dr_dd nD_R_sign_0 19 rfl
theorem d_R_sign_41 : decode prog_1_method_2_code 41 = .ok (.athrow, 1) := dr_dd nD_R_sign_0 20 rfl
theorem d_R_sign_42 : decode prog_1_method_2_code 42 = .ok (.aload_n 0, 1) := dr_dd nD_R_sign_0 21 rfl
theorem d_R_sign_43 : decode prog_1_method_2_code 43 = .ok (.getfield 10, 3) := dr_dd nD_R_sign_0 22 rfl
theorem d_R_sign_46 : decode prog_1_method_2_code 46 = .ok (.lload_n 1, 1) := dr_dd nD_R_sign_0 23 rfl
theorem d_R_sign_47 : decode prog_1_method_2_code 47 = .ok (.iload_n 3, 1) := dr_dd nD_R_sign_0 24 rfl
theorem d_R_sign_48 : decode prog_1_method_2_code 48 = .ok (.invokevirtual 74, 3) := dr_dd nD_R_sign_0 25 rfl
theorem d_R_sign_51 : decode prog_1_method_2_code 51 = .ok (.ireturn, 1) := dr_dd nD_R_sign_0 26 rfl
abbrev nL_R_read_0 : List (Nat × Instr × Nat) := [(0, .aload_n 0, 1), (1, .aload_n 0, 1), (2, .getfield 10, 3), (5, .aload_n 0, 1), (6, .getfield 23, 3), (9, .invokevirtual 78, 3), (12, .putfield 26, 3), (15, .aload_n 0, 1), (16, .getfield 26, 3), (19, .iconst (-1), 1), (20, .if_icmp .eq 13, 3), (23, .new 82, 3), (26, .dup, 1), (27, .ldc 84, 2), (29, .invokespecial 86, 3), (32, .athrow, 1), (33, .aload_n 0, 1), (34, .getfield 19, 3), (37, .astore_n 1, 1), (38, .aload_n 0, 1), (39, .aload_n 0, 1), (40, .getfield 23, 3), (43, .putfield 19, 3), (46, .aload_n 0, 1), (47, .aload_n 1, 1), (48, .getfield 87, 3), (51, .ifCond .eq 13, 3), (54, .new 16, 3), (57, .dup, 1), (58, .invokespecial 18, 3), (61, .goto 4, 3), (64, .aload_n 1, 1), (65, .putfield 23, 3), (68, .aload_n 0, 1), (69, .getfield 19, 3), (72, .getfield 91, 3), (75, .ireturn, 1)]
theorem nD_R_read_0 : ∀ q ∈ nL_R_read_0, decode prog_1_method_3_code q.1 = .ok (q.2.1, q.2.2) := by decide +kernel
theorem d_R_read_0 : decode prog_1_method_3_code 0 = .ok (.aload_n 0, 1) := dr_dd nD_R_read_0 0 rfl
theorem d_R_read_1 : decode prog_1_method_3_code 1 = .ok (.aload_n 0, 1) := dr_dd nD_R_read_0 1 rfl
theorem d_R_read_2 : decode prog_1_method_3_code 2 = .ok (.getfield 10, 3) := dr_dd nD_R_read_0 2 rfl
theorem d_R_read_5 : decode prog_1_method_3_code 5 = .ok (.aload_n 0, 1) := dr_dd nD_R_read_0 3 rfl
theorem d_R_read_6 : decode prog_1_method_3_code 6 = .ok (.getfield 23, 3) := dr_dd nD_R_read_0 4 rfl
theorem d_R_read_9 : decode prog_1_method_3_code 9 = .ok (.invokevirtual 78, 3) := dr_dd nD_R_read_0 5 rfl
theorem d_R_read_12 : decode prog_1_method_3_code 12 = .ok (.putfield 26, 3) := dr_dd nD_R_read_0 6 rfl
theorem d_R_read_15 : decode prog_1_method_3_code 15 = .ok (.aload_n 0, 1) := dr_dd nD_R_read_0 7 rfl
theorem d_R_read_16 : decode prog_1_method_3_code 16 = .ok (.getfield 26, 3) := dr_dd nD_R_read_0 8 rfl
theorem d_R_read_19 : decode prog_1_method_3_code 19 = .ok (.iconst (-1), 1) := dr_dd nD_R_read_0 9 rfl
theorem d_R_read_20 : decode prog_1_method_3_code 20 = .ok (.if_icmp .eq 13, 3) := dr_dd nD_R_read_0 10 rfl
theorem d_R_read_23 : decode prog_1_method_3_code 23 = .ok (.new 82, 3) := dr_dd nD_R_read_0 11 rfl
theorem d_R_read_26 : decode prog_1_method_3_code 26 = .ok (.dup, 1) := dr_dd nD_R_read_0 12 rfl
theorem d_R_read_27 : decode prog_1_method_3_code 27 = .ok (.ldc 84, 2) := dr_dd nD_R_read_0 13 rfl
theorem d_R_read_29 : decode prog_1_method_3_code 29 = .ok (.invokespecial 86, 3) := dr_dd nD_R_read_0 14 rfl
theorem d_R_read_32 : decode prog_1_method_3_code 32 = .ok (.athrow, 1) := dr_dd nD_R_read_0 15 rfl
theorem d_R_read_33 : decode prog_1_method_3_code 33 = .ok (.aload_n 0, 1) := dr_dd nD_R_read_0 16 rfl
theorem d_R_read_34 : decode prog_1_method_3_code 34 = .ok (.getfield 19, 3) := dr_dd nD_R_read_0 17 rfl
theorem d_R_read_37 : decode prog_1_method_3_code 37 = .ok (.astore_n 1, 1) := dr_dd nD_R_read_0 18 rfl
theorem d_R_read_38 : decode prog_1_method_3_code 38 = .ok (.aload_n 0, 1) := dr_dd nD_R_read_0 19 rfl
theorem d_R_read_39 : decode prog_1_method_3_code 39 = .ok (.aload_n 0, 1) := dr_dd nD_R_read_0 20 rfl
theorem d_R_read_40 : decode prog_1_method_3_code 40 = .ok (.getfield 23, 3) := dr_dd nD_R_read_0 21 rfl
theorem d_R_read_43 : decode prog_1_method_3_code 43 = .ok (.putfield 19, 3) := dr_dd nD_R_read_0 22 rfl
theorem d_R_read_46 : decode prog_1_method_3_code 46 = .ok (.aload_n 0, 1) := dr_dd nD_R_read_0 23 rfl
theorem d_R_read_47 : decode prog_1_method_3_code 47 = .ok (.aload_n 1, 1) := dr_dd nD_R_read_0 24 rfl
theorem d_R_read_48 : decode prog_1_method_3_code 48 = .ok (.getfield 87, 3) := dr_dd nD_R_read_0 25 rfl
theorem d_R_read_51 : decode prog_1_method_3_code 51 = .ok (.ifCond .eq 13, 3) := dr_dd nD_R_read_0 26 rfl
theorem d_R_read_54 : decode prog_1_method_3_code 54 = .ok (.new 16, 3) := dr_dd nD_R_read_0 27 rfl
theorem d_R_read_57 : decode prog_1_method_3_code 57 = .ok (.dup, 1) := dr_dd nD_R_read_0 28 rfl
theorem d_R_read_58 : decode prog_1_method_3_code 58 = .ok (.invokespecial 18, 3) := dr_dd nD_R_read_0 29 rfl
theorem d_R_read_61 : decode prog_1_method_3_code 61 = .ok (.goto 4, 3) := dr_dd nD_R_read_0 30 rfl
theorem d_R_read_64 : decode prog_1_method_3_code 64 = .ok (.aload_n 1, 1) := dr_dd nD_R_read_0 31 rfl
theorem d_R_read_65 : decode prog_1_method_3_code 65 = .ok (.putfield 23, 3) := dr_dd nD_R_read_0 32 rfl
theorem d_R_read_68 : decode prog_1_method_3_code 68 = .ok (.aload_n 0, 1) := dr_dd nD_R_read_0 33 rfl
theorem d_R_read_69 : decode prog_1_method_3_code 69 = .ok (.getfield 19, 3) := dr_dd nD_R_read_0 34 rfl
theorem d_R_read_72 : decode prog_1_method_3_code 72 = .ok (.getfield 91, 3) := dr_dd nD_R_read_0 35 rfl
theorem d_R_read_75 : decode prog_1_method_3_code 75 = .ok (.ireturn, 1) := dr_dd nD_R_read_0 36 rfl
abbrev nL_R_place_0 : List (Nat × Instr × Nat) := [(0, .aload_n 0, 1), (1, .getfield 26, 3), (4, .ireturn, 1)]
theorem nD_R_place_0 : ∀ q ∈ nL_R_place_0, decode prog_1_method_4_code q.1 = .ok (q.2.1, q.2.2) := by decide +kernel
theorem d_R_place_0 : decode prog_1_method_4_code 0 = .ok (.aload_n 0, 1) := dr_dd nD_R_place_0 0 rfl
theorem d_R_place_1 : decode prog_1_method_4_code 1 = .ok (.getfield 26, 3) := dr_dd nD_R_place_0 1 rfl
theorem d_R_place_4 : decode prog_1_method_4_code 4 = .ok (.ireturn, 1) := dr_dd nD_R_place_0 2 rfl
abbrev nL_R_begin_0 : List (Nat × Instr × Nat) := [(0, .aload_n 0, 1), (1, .getfield 19, 3), (4, .getfield 91, 3), (7, .ifCond .ne 13, 3), (10, .new 82, 3), (13, .dup, 1), (14, .ldc 94, 2), (16, .invokespecial 86, 3), (19, .athrow, 1), (20, .aload_n 0, 1), (21, .getfield 39, 3), (24, .ifCond .lt 15, 3), (27, .aload_n 0, 1), (28, .getfield 39, 3), (31, .aload_n 0, 1), (32, .getfield 35, 3), (35, .arraylength, 1), (36, .if_icmp .lt 13, 3), (39, .new 69, 3), (42, .dup, 1), (43, .ldc 96, 2), (45, .invokespecial 73, 3), (48, .athrow, 1), (49, .new 33, 3), (52, .dup, 1), (53, .aload_n 0, 1), (54, .getfield 19, 3), (57, .aload_n 0, 1), (58, .getfield 30, 3), (61, .invokespecial 98, 3), (64, .astore_n 1, 1), (65, .aload_n 0, 1), (66, .getfield 19, 3), (69, .iconst 1, 1), (70, .putfield 87, 3), (73, .aload_n 0, 1), (74, .getfield 35, 3), (77, .aload_n 0, 1), (78, .getfield 39, 3), (81, .aload_n 1, 1)]
theorem nD_R_begin_0 : ∀ q ∈ nL_R_begin_0, decode prog_1_method_5_code q.1 = .ok (q.2.1, q.2.2) := by decide +kernel
theorem d_R_begin_0 : decode prog_1_method_5_code 0 = .ok (.aload_n 0, 1) := dr_dd nD_R_begin_0 0 rfl
theorem d_R_begin_1 : decode prog_1_method_5_code 1 = .ok (.getfield 19, 3) := dr_dd nD_R_begin_0 1 rfl
theorem d_R_begin_4 : decode prog_1_method_5_code 4 = .ok (.getfield 91, 3) := dr_dd nD_R_begin_0 2 rfl
theorem d_R_begin_7 : decode prog_1_method_5_code 7 = .ok (.ifCond .ne 13, 3) := dr_dd nD_R_begin_0 3 rfl
theorem d_R_begin_10 : decode prog_1_method_5_code 10 = .ok (.new 82, 3) := dr_dd nD_R_begin_0 4 rfl
theorem d_R_begin_13 : decode prog_1_method_5_code 13 = .ok (.dup, 1) := dr_dd nD_R_begin_0 5 rfl
theorem d_R_begin_14 : decode prog_1_method_5_code 14 = .ok (.ldc 94, 2) := dr_dd nD_R_begin_0 6 rfl
theorem d_R_begin_16 : decode prog_1_method_5_code 16 = .ok (.invokespecial 86, 3) := dr_dd nD_R_begin_0 7 rfl
theorem d_R_begin_19 : decode prog_1_method_5_code 19 = .ok (.athrow, 1) := dr_dd nD_R_begin_0 8 rfl
theorem d_R_begin_20 : decode prog_1_method_5_code 20 = .ok (.aload_n 0, 1) := dr_dd nD_R_begin_0 9 rfl
theorem d_R_begin_21 : decode prog_1_method_5_code 21 = .ok (.getfield 39, 3) := dr_dd nD_R_begin_0 10 rfl
theorem d_R_begin_24 : decode prog_1_method_5_code 24 = .ok (.ifCond .lt 15, 3) := dr_dd nD_R_begin_0 11 rfl
theorem d_R_begin_27 : decode prog_1_method_5_code 27 = .ok (.aload_n 0, 1) := dr_dd nD_R_begin_0 12 rfl
theorem d_R_begin_28 : decode prog_1_method_5_code 28 = .ok (.getfield 39, 3) := dr_dd nD_R_begin_0 13 rfl
theorem d_R_begin_31 : decode prog_1_method_5_code 31 = .ok (.aload_n 0, 1) := dr_dd nD_R_begin_0 14 rfl
theorem d_R_begin_32 : decode prog_1_method_5_code 32 = .ok (.getfield 35, 3) := dr_dd nD_R_begin_0 15 rfl
theorem d_R_begin_35 : decode prog_1_method_5_code 35 = .ok (.arraylength, 1) := dr_dd nD_R_begin_0 16 rfl
theorem d_R_begin_36 : decode prog_1_method_5_code 36 = .ok (.if_icmp .lt 13, 3) := dr_dd nD_R_begin_0 17 rfl
theorem d_R_begin_39 : decode prog_1_method_5_code 39 = .ok (.new 69, 3) := dr_dd nD_R_begin_0 18 rfl
theorem d_R_begin_42 : decode prog_1_method_5_code 42 = .ok (.dup, 1) := dr_dd nD_R_begin_0 19 rfl
theorem d_R_begin_43 : decode prog_1_method_5_code 43 = .ok (.ldc 96, 2) := dr_dd nD_R_begin_0 20 rfl
theorem d_R_begin_45 : decode prog_1_method_5_code 45 = .ok (.invokespecial 73, 3) := dr_dd nD_R_begin_0 21 rfl
theorem d_R_begin_48 : decode prog_1_method_5_code 48 = .ok (.athrow, 1) := dr_dd nD_R_begin_0 22 rfl
theorem d_R_begin_49 : decode prog_1_method_5_code 49 = .ok (.new 33, 3) := dr_dd nD_R_begin_0 23 rfl
theorem d_R_begin_52 : decode prog_1_method_5_code 52 = .ok (.dup, 1) := dr_dd nD_R_begin_0 24 rfl
theorem d_R_begin_53 : decode prog_1_method_5_code 53 = .ok (.aload_n 0, 1) := dr_dd nD_R_begin_0 25 rfl
theorem d_R_begin_54 : decode prog_1_method_5_code 54 = .ok (.getfield 19, 3) := dr_dd nD_R_begin_0 26 rfl
theorem d_R_begin_57 : decode prog_1_method_5_code 57 = .ok (.aload_n 0, 1) := dr_dd nD_R_begin_0 27 rfl
theorem d_R_begin_58 : decode prog_1_method_5_code 58 = .ok (.getfield 30, 3) := dr_dd nD_R_begin_0 28 rfl
theorem d_R_begin_61 : decode prog_1_method_5_code 61 = .ok (.invokespecial 98, 3) := dr_dd nD_R_begin_0 29 rfl
theorem d_R_begin_64 : decode prog_1_method_5_code 64 = .ok (.astore_n 1, 1) := dr_dd nD_R_begin_0 30 rfl
theorem d_R_begin_65 : decode prog_1_method_5_code 65 = .ok (.aload_n 0, 1) := dr_dd nD_R_begin_0 31 rfl
theorem d_R_begin_66 : decode prog_1_method_5_code 66 = .ok (.getfield 19, 3) := dr_dd nD_R_begin_0 32 rfl
theorem d_R_begin_69 : decode prog_1_method_5_code 69 = .ok (.iconst 1, 1) := dr_dd nD_R_begin_0 33 rfl
theorem d_R_begin_70 : decode prog_1_method_5_code 70 = .ok (.putfield 87, 3) := dr_dd nD_R_begin_0 34 rfl
theorem d_R_begin_73 : decode prog_1_method_5_code 73 = .ok (.aload_n 0, 1) := dr_dd nD_R_begin_0 35 rfl
theorem d_R_begin_74 : decode prog_1_method_5_code 74 = .ok (.getfield 35, 3) := dr_dd nD_R_begin_0 36 rfl
theorem d_R_begin_77 : decode prog_1_method_5_code 77 = .ok (.aload_n 0, 1) := dr_dd nD_R_begin_0 37 rfl
theorem d_R_begin_78 : decode prog_1_method_5_code 78 = .ok (.getfield 39, 3) := dr_dd nD_R_begin_0 38 rfl
theorem d_R_begin_81 : decode prog_1_method_5_code 81 = .ok (.aload_n 1, 1) := dr_dd nD_R_begin_0 39 rfl
abbrev nL_R_begin_1 : List (Nat × Instr × Nat) := [(82, .aastore, 1), (83, .aload_n 0, 1), (84, .dup, 1), (85, .getfield 39, 3), (88, .iconst 1, 1), (89, .iadd, 1), (90, .putfield 39, 3), (93, .aload_n 1, 1), (94, .aload_n 0, 1), (95, .getfield 30, 3), (98, .invokevirtual 101, 3), (101, .pop, 1), (102, .aload_n 0, 1), (103, .getfield 39, 3), (106, .iconst 1, 1), (107, .isub, 1), (108, .ireturn, 1)]
theorem nD_R_begin_1 : ∀ q ∈ nL_R_begin_1, decode prog_1_method_5_code q.1 = .ok (q.2.1, q.2.2) := by decide +kernel
theorem d_R_begin_82 : decode prog_1_method_5_code 82 = .ok (.aastore, 1) := dr_dd nD_R_begin_1 0 rfl
theorem d_R_begin_83 : decode prog_1_method_5_code 83 = .ok (.aload_n 0, 1) := dr_dd nD_R_begin_1 1 rfl
theorem d_R_begin_84 : decode prog_1_method_5_code 84 = .ok (.dup, 1) := dr_dd nD_R_begin_1 2 rfl
theorem d_R_begin_85 : decode prog_1_method_5_code 85 = .ok (.getfield 39, 3) := dr_dd nD_R_begin_1 3 rfl
theorem d_R_begin_88 : decode prog_1_method_5_code 88 = .ok (.iconst 1, 1) := dr_dd nD_R_begin_1 4 rfl
theorem d_R_begin_89 : decode prog_1_method_5_code 89 = .ok (.iadd, 1) := dr_dd nD_R_begin_1 5 rfl
theorem d_R_begin_90 : decode prog_1_method_5_code 90 = .ok (.putfield 39, 3) := dr_dd nD_R_begin_1 6 rfl
theorem d_R_begin_93 : decode prog_1_method_5_code 93 = .ok (.aload_n 1, 1) := dr_dd nD_R_begin_1 7 rfl
theorem d_R_begin_94 : decode prog_1_method_5_code 94 = .ok (.aload_n 0, 1) := dr_dd nD_R_begin_1 8 rfl
theorem d_R_begin_95 : decode prog_1_method_5_code 95 = .ok (.getfield 30, 3) := dr_dd nD_R_begin_1 9 rfl
theorem d_R_begin_98 : decode prog_1_method_5_code 98 = .ok (.invokevirtual 101, 3) := dr_dd nD_R_begin_1 10 rfl
theorem d_R_begin_101 : decode prog_1_method_5_code 101 = .ok (.pop, 1) := dr_dd nD_R_begin_1 11 rfl
theorem d_R_begin_102 : decode prog_1_method_5_code 102 = .ok (.aload_n 0, 1) := dr_dd nD_R_begin_1 12 rfl
theorem d_R_begin_103 : decode prog_1_method_5_code 103 = .ok (.getfield 39, 3) := dr_dd nD_R_begin_1 13 rfl
theorem d_R_begin_106 : decode prog_1_method_5_code 106 = .ok (.iconst 1, 1) := dr_dd nD_R_begin_1 14 rfl
theorem d_R_begin_107 : decode prog_1_method_5_code 107 = .ok (.isub, 1) := dr_dd nD_R_begin_1 15 rfl
theorem d_R_begin_108 : decode prog_1_method_5_code 108 = .ok (.ireturn, 1) := dr_dd nD_R_begin_1 16 rfl
abbrev nL_R_stop_0 : List (Nat × Instr × Nat) := [(0, .aload_n 0, 1), (1, .iload_n 1, 1), (2, .invokevirtual 105, 3), (5, .astore_n 2, 1), (6, .aload_n 2, 1), (7, .getfield 109, 3), (10, .ifCond .ne 13, 3), (13, .new 82, 3), (16, .dup, 1), (17, .ldc 112, 2), (19, .invokespecial 86, 3), (22, .athrow, 1), (23, .aload_n 2, 1), (24, .iconst 0, 1), (25, .putfield 109, 3), (28, .iconst 0, 1), (29, .istore_n 3, 1), (30, .iload_n 3, 1), (31, .aload_n 0, 1), (32, .getfield 42, 3), (35, .arraylength, 1), (36, .if_icmp .ge 26, 3), (39, .aload_n 0, 1), (40, .getfield 42, 3), (43, .iload_n 3, 1), (44, .iaload, 1), (45, .iload_n 1, 1), (46, .if_icmp .ne 10, 3), (49, .aload_n 0, 1), (50, .getfield 42, 3), (53, .iload_n 3, 1), (54, .iconst (-1), 1), (55, .iastore, 1), (56, .iinc 3 1, 3), (59, .goto (-29), 3), (62, .return_, 1)]
theorem nD_R_stop_0 : ∀ q ∈ nL_R_stop_0, decode prog_1_method_6_code q.1 = .ok (q.2.1, q.2.2) := by decide +kernel
theorem d_R_stop_0 : decode prog_1_method_6_code 0 = .ok (.aload_n 0, 1) := dr_dd nD_R_stop_0 0 rfl
theorem d_R_stop_1 : decode prog_1_method_6_code 1 = .ok (.iload_n 1, 1) := dr_dd nD_R_stop_0 1 rfl
theorem d_R_stop_2 : decode prog_1_method_6_code 2 = .ok (.invokevirtual 105, 3) := dr_dd nD_R_stop_0 2 rfl
theorem d_R_stop_5 : decode prog_1_method_6_code 5 = .ok (.astore_n 2, 1) := dr_dd nD_R_stop_0 3 rfl
theorem d_R_stop_6 : decode prog_1_method_6_code 6 = .ok (.aload_n 2, 1) := dr_dd nD_R_stop_0 4 rfl
theorem d_R_stop_7 : decode prog_1_method_6_code 7 = .ok (.getfield 109, 3) := dr_dd nD_R_stop_0 5 rfl
theorem d_R_stop_10 : decode prog_1_method_6_code 10 = .ok (.ifCond .ne 13, 3) := dr_dd nD_R_stop_0 6 rfl
theorem d_R_stop_13 : decode prog_1_method_6_code 13 = .ok (.new 82, 3) := dr_dd nD_R_stop_0 7 rfl
theorem d_R_stop_16 : decode prog_1_method_6_code 16 = .ok (.dup, 1) := dr_dd nD_R_stop_0 8 rfl
theorem d_R_stop_17 : decode prog_1_method_6_code 17 = .ok (.ldc 112, 2) := dr_dd nD_R_stop_0 9 rfl
theorem d_R_stop_19 : decode prog_1_method_6_code 19 = .ok (.invokespecial 86, 3) := dr_dd nD_R_stop_0 10 rfl
theorem d_R_stop_22 : decode prog_1_method_6_code 22 = .ok (.athrow, 1) := dr_dd nD_R_stop_0 11 rfl
theorem d_R_stop_23 : decode prog_1_method_6_code 23 = .ok (.aload_n 2, 1) := dr_dd nD_R_stop_0 12 rfl
theorem d_R_stop_24 : decode prog_1_method_6_code 24 = .ok (.iconst 0, 1) := dr_dd nD_R_stop_0 13 rfl
theorem d_R_stop_25 : decode prog_1_method_6_code 25 = .ok (.putfield 109, 3) := dr_dd nD_R_stop_0 14 rfl
theorem d_R_stop_28 : decode prog_1_method_6_code 28 = .ok (.iconst 0, 1) := dr_dd nD_R_stop_0 15 rfl
theorem d_R_stop_29 : decode prog_1_method_6_code 29 = .ok (.istore_n 3, 1) := dr_dd nD_R_stop_0 16 rfl
theorem d_R_stop_30 : decode prog_1_method_6_code 30 = .ok (.iload_n 3, 1) := dr_dd nD_R_stop_0 17 rfl
theorem d_R_stop_31 : decode prog_1_method_6_code 31 = .ok (.aload_n 0, 1) := dr_dd nD_R_stop_0 18 rfl
theorem d_R_stop_32 : decode prog_1_method_6_code 32 = .ok (.getfield 42, 3) := dr_dd nD_R_stop_0 19 rfl
theorem d_R_stop_35 : decode prog_1_method_6_code 35 = .ok (.arraylength, 1) := dr_dd nD_R_stop_0 20 rfl
theorem d_R_stop_36 : decode prog_1_method_6_code 36 = .ok (.if_icmp .ge 26, 3) := dr_dd nD_R_stop_0 21 rfl
theorem d_R_stop_39 : decode prog_1_method_6_code 39 = .ok (.aload_n 0, 1) := dr_dd nD_R_stop_0 22 rfl
theorem d_R_stop_40 : decode prog_1_method_6_code 40 = .ok (.getfield 42, 3) := dr_dd nD_R_stop_0 23 rfl
theorem d_R_stop_43 : decode prog_1_method_6_code 43 = .ok (.iload_n 3, 1) := dr_dd nD_R_stop_0 24 rfl
theorem d_R_stop_44 : decode prog_1_method_6_code 44 = .ok (.iaload, 1) := dr_dd nD_R_stop_0 25 rfl
theorem d_R_stop_45 : decode prog_1_method_6_code 45 = .ok (.iload_n 1, 1) := dr_dd nD_R_stop_0 26 rfl
theorem d_R_stop_46 : decode prog_1_method_6_code 46 = .ok (.if_icmp .ne 10, 3) := dr_dd nD_R_stop_0 27 rfl
theorem d_R_stop_49 : decode prog_1_method_6_code 49 = .ok (.aload_n 0, 1) := dr_dd nD_R_stop_0 28 rfl
theorem d_R_stop_50 : decode prog_1_method_6_code 50 = .ok (.getfield 42, 3) := dr_dd nD_R_stop_0 29 rfl
theorem d_R_stop_53 : decode prog_1_method_6_code 53 = .ok (.iload_n 3, 1) := dr_dd nD_R_stop_0 30 rfl
theorem d_R_stop_54 : decode prog_1_method_6_code 54 = .ok (.iconst (-1), 1) := dr_dd nD_R_stop_0 31 rfl
theorem d_R_stop_55 : decode prog_1_method_6_code 55 = .ok (.iastore, 1) := dr_dd nD_R_stop_0 32 rfl
theorem d_R_stop_56 : decode prog_1_method_6_code 56 = .ok (.iinc 3 1, 3) := dr_dd nD_R_stop_0 33 rfl
theorem d_R_stop_59 : decode prog_1_method_6_code 59 = .ok (.goto (-29), 3) := dr_dd nD_R_stop_0 34 rfl
theorem d_R_stop_62 : decode prog_1_method_6_code 62 = .ok (.return_, 1) := dr_dd nD_R_stop_0 35 rfl
abbrev nL_R_unit_0 : List (Nat × Instr × Nat) := [(0, .aload_n 0, 1), (1, .iload_n 1, 1), (2, .invokevirtual 105, 3), (5, .astore_n 3, 1), (6, .iload_n 2, 1), (7, .ifCond .lt 12, 3), (10, .iload_n 2, 1), (11, .aload_n 0, 1), (12, .getfield 42, 3), (15, .arraylength, 1), (16, .if_icmp .lt 13, 3), (19, .new 114, 3), (22, .dup, 1), (23, .ldc 116, 2), (25, .invokespecial 118, 3), (28, .athrow, 1), (29, .aload_n 3, 1), (30, .getfield 109, 3), (33, .ifCond .eq 13, 3), (36, .aload_n 0, 1), (37, .getfield 42, 3), (40, .iload_n 2, 1), (41, .iaload, 1), (42, .iconst (-1), 1), (43, .if_icmp .eq 13, 3), (46, .new 82, 3), (49, .dup, 1), (50, .ldc 119, 2), (52, .invokespecial 86, 3), (55, .athrow, 1), (56, .aload_n 0, 1), (57, .getfield 42, 3), (60, .iload_n 2, 1), (61, .iload_n 1, 1), (62, .iastore, 1), (63, .return_, 1)]
theorem nD_R_unit_0 : ∀ q ∈ nL_R_unit_0, decode prog_1_method_7_code q.1 = .ok (q.2.1, q.2.2) := by decide +kernel
theorem d_R_unit_0 : decode prog_1_method_7_code 0 = .ok (.aload_n 0, 1) := dr_dd nD_R_unit_0 0 rfl
theorem d_R_unit_1 : decode prog_1_method_7_code 1 = .ok (.iload_n 1, 1) := dr_dd nD_R_unit_0 1 rfl
theorem d_R_unit_2 : decode prog_1_method_7_code 2 = .ok (.invokevirtual 105, 3) := dr_dd nD_R_unit_0 2 rfl
theorem d_R_unit_5 : decode prog_1_method_7_code 5 = .ok (.astore_n 3, 1) := dr_dd nD_R_unit_0 3 rfl
theorem d_R_unit_6 : decode prog_1_method_7_code 6 = .ok (.iload_n 2, 1) := dr_dd nD_R_unit_0 4 rfl
theorem d_R_unit_7 : decode prog_1_method_7_code 7 = .ok (.ifCond .lt 12, 3) := dr_dd nD_R_unit_0 5 rfl
theorem d_R_unit_10 : decode prog_1_method_7_code 10 = .ok (.iload_n 2, 1) := dr_dd nD_R_unit_0 6 rfl
theorem d_R_unit_11 : decode prog_1_method_7_code 11 = .ok (.aload_n 0, 1) := dr_dd nD_R_unit_0 7 rfl
theorem d_R_unit_12 : decode prog_1_method_7_code 12 = .ok (.getfield 42, 3) := dr_dd nD_R_unit_0 8 rfl
theorem d_R_unit_15 : decode prog_1_method_7_code 15 = .ok (.arraylength, 1) := dr_dd nD_R_unit_0 9 rfl
theorem d_R_unit_16 : decode prog_1_method_7_code 16 = .ok (.if_icmp .lt 13, 3) := dr_dd nD_R_unit_0 10 rfl
theorem d_R_unit_19 : decode prog_1_method_7_code 19 = .ok (.new 114, 3) := dr_dd nD_R_unit_0 11 rfl
theorem d_R_unit_22 : decode prog_1_method_7_code 22 = .ok (.dup, 1) := dr_dd nD_R_unit_0 12 rfl
theorem d_R_unit_23 : decode prog_1_method_7_code 23 = .ok (.ldc 116, 2) := dr_dd nD_R_unit_0 13 rfl
theorem d_R_unit_25 : decode prog_1_method_7_code 25 = .ok (.invokespecial 118, 3) := dr_dd nD_R_unit_0 14 rfl
theorem d_R_unit_28 : decode prog_1_method_7_code 28 = .ok (.athrow, 1) := dr_dd nD_R_unit_0 15 rfl
theorem d_R_unit_29 : decode prog_1_method_7_code 29 = .ok (.aload_n 3, 1) := dr_dd nD_R_unit_0 16 rfl
theorem d_R_unit_30 : decode prog_1_method_7_code 30 = .ok (.getfield 109, 3) := dr_dd nD_R_unit_0 17 rfl
theorem d_R_unit_33 : decode prog_1_method_7_code 33 = .ok (.ifCond .eq 13, 3) := dr_dd nD_R_unit_0 18 rfl
theorem d_R_unit_36 : decode prog_1_method_7_code 36 = .ok (.aload_n 0, 1) := dr_dd nD_R_unit_0 19 rfl
theorem d_R_unit_37 : decode prog_1_method_7_code 37 = .ok (.getfield 42, 3) := dr_dd nD_R_unit_0 20 rfl
theorem d_R_unit_40 : decode prog_1_method_7_code 40 = .ok (.iload_n 2, 1) := dr_dd nD_R_unit_0 21 rfl
theorem d_R_unit_41 : decode prog_1_method_7_code 41 = .ok (.iaload, 1) := dr_dd nD_R_unit_0 22 rfl
theorem d_R_unit_42 : decode prog_1_method_7_code 42 = .ok (.iconst (-1), 1) := dr_dd nD_R_unit_0 23 rfl
theorem d_R_unit_43 : decode prog_1_method_7_code 43 = .ok (.if_icmp .eq 13, 3) := dr_dd nD_R_unit_0 24 rfl
theorem d_R_unit_46 : decode prog_1_method_7_code 46 = .ok (.new 82, 3) := dr_dd nD_R_unit_0 25 rfl
theorem d_R_unit_49 : decode prog_1_method_7_code 49 = .ok (.dup, 1) := dr_dd nD_R_unit_0 26 rfl
theorem d_R_unit_50 : decode prog_1_method_7_code 50 = .ok (.ldc 119, 2) := dr_dd nD_R_unit_0 27 rfl
theorem d_R_unit_52 : decode prog_1_method_7_code 52 = .ok (.invokespecial 86, 3) := dr_dd nD_R_unit_0 28 rfl
theorem d_R_unit_55 : decode prog_1_method_7_code 55 = .ok (.athrow, 1) := dr_dd nD_R_unit_0 29 rfl
theorem d_R_unit_56 : decode prog_1_method_7_code 56 = .ok (.aload_n 0, 1) := dr_dd nD_R_unit_0 30 rfl
theorem d_R_unit_57 : decode prog_1_method_7_code 57 = .ok (.getfield 42, 3) := dr_dd nD_R_unit_0 31 rfl
theorem d_R_unit_60 : decode prog_1_method_7_code 60 = .ok (.iload_n 2, 1) := dr_dd nD_R_unit_0 32 rfl
theorem d_R_unit_61 : decode prog_1_method_7_code 61 = .ok (.iload_n 1, 1) := dr_dd nD_R_unit_0 33 rfl
theorem d_R_unit_62 : decode prog_1_method_7_code 62 = .ok (.iastore, 1) := dr_dd nD_R_unit_0 34 rfl
theorem d_R_unit_63 : decode prog_1_method_7_code 63 = .ok (.return_, 1) := dr_dd nD_R_unit_0 35 rfl
abbrev nL_R_real_0 : List (Nat × Instr × Nat) := [(0, .iload_n 1, 1), (1, .ifCond .lt 12, 3), (4, .iload_n 1, 1), (5, .aload_n 0, 1), (6, .getfield 42, 3), (9, .arraylength, 1), (10, .if_icmp .lt 13, 3), (13, .new 114, 3), (16, .dup, 1), (17, .ldc 116, 2), (19, .invokespecial 118, 3), (22, .athrow, 1), (23, .aload_n 0, 1), (24, .getfield 42, 3), (27, .iload_n 1, 1), (28, .iaload, 1), (29, .istore_n 2, 1), (30, .aload_n 0, 1), (31, .getfield 42, 3), (34, .iload_n 1, 1), (35, .iconst (-1), 1), (36, .iastore, 1), (37, .iload_n 2, 1), (38, .ireturn, 1)]
theorem nD_R_real_0 : ∀ q ∈ nL_R_real_0, decode prog_1_method_8_code q.1 = .ok (q.2.1, q.2.2) := by decide +kernel
theorem d_R_real_0 : decode prog_1_method_8_code 0 = .ok (.iload_n 1, 1) := dr_dd nD_R_real_0 0 rfl
theorem d_R_real_1 : decode prog_1_method_8_code 1 = .ok (.ifCond .lt 12, 3) := dr_dd nD_R_real_0 1 rfl
theorem d_R_real_4 : decode prog_1_method_8_code 4 = .ok (.iload_n 1, 1) := dr_dd nD_R_real_0 2 rfl
theorem d_R_real_5 : decode prog_1_method_8_code 5 = .ok (.aload_n 0, 1) := dr_dd nD_R_real_0 3 rfl
theorem d_R_real_6 : decode prog_1_method_8_code 6 = .ok (.getfield 42, 3) := dr_dd nD_R_real_0 4 rfl
theorem d_R_real_9 : decode prog_1_method_8_code 9 = .ok (.arraylength, 1) := dr_dd nD_R_real_0 5 rfl
theorem d_R_real_10 : decode prog_1_method_8_code 10 = .ok (.if_icmp .lt 13, 3) := dr_dd nD_R_real_0 6 rfl
theorem d_R_real_13 : decode prog_1_method_8_code 13 = .ok (.new 114, 3) := dr_dd nD_R_real_0 7 rfl
theorem d_R_real_16 : decode prog_1_method_8_code 16 = .ok (.dup, 1) := dr_dd nD_R_real_0 8 rfl
theorem d_R_real_17 : decode prog_1_method_8_code 17 = .ok (.ldc 116, 2) := dr_dd nD_R_real_0 9 rfl
theorem d_R_real_19 : decode prog_1_method_8_code 19 = .ok (.invokespecial 118, 3) := dr_dd nD_R_real_0 10 rfl
theorem d_R_real_22 : decode prog_1_method_8_code 22 = .ok (.athrow, 1) := dr_dd nD_R_real_0 11 rfl
theorem d_R_real_23 : decode prog_1_method_8_code 23 = .ok (.aload_n 0, 1) := dr_dd nD_R_real_0 12 rfl
theorem d_R_real_24 : decode prog_1_method_8_code 24 = .ok (.getfield 42, 3) := dr_dd nD_R_real_0 13 rfl
theorem d_R_real_27 : decode prog_1_method_8_code 27 = .ok (.iload_n 1, 1) := dr_dd nD_R_real_0 14 rfl
theorem d_R_real_28 : decode prog_1_method_8_code 28 = .ok (.iaload, 1) := dr_dd nD_R_real_0 15 rfl
theorem d_R_real_29 : decode prog_1_method_8_code 29 = .ok (.istore_n 2, 1) := dr_dd nD_R_real_0 16 rfl
theorem d_R_real_30 : decode prog_1_method_8_code 30 = .ok (.aload_n 0, 1) := dr_dd nD_R_real_0 17 rfl
theorem d_R_real_31 : decode prog_1_method_8_code 31 = .ok (.getfield 42, 3) := dr_dd nD_R_real_0 18 rfl
theorem d_R_real_34 : decode prog_1_method_8_code 34 = .ok (.iload_n 1, 1) := dr_dd nD_R_real_0 19 rfl
theorem d_R_real_35 : decode prog_1_method_8_code 35 = .ok (.iconst (-1), 1) := dr_dd nD_R_real_0 20 rfl
theorem d_R_real_36 : decode prog_1_method_8_code 36 = .ok (.iastore, 1) := dr_dd nD_R_real_0 21 rfl
theorem d_R_real_37 : decode prog_1_method_8_code 37 = .ok (.iload_n 2, 1) := dr_dd nD_R_real_0 22 rfl
theorem d_R_real_38 : decode prog_1_method_8_code 38 = .ok (.ireturn, 1) := dr_dd nD_R_real_0 23 rfl
abbrev nL_R_act_0 : List (Nat × Instr × Nat) := [(0, .aload_n 0, 1), (1, .iload_n 1, 1), (2, .invokevirtual 105, 3), (5, .astore_n 3, 1), (6, .iload_n 2, 1), (7, .ifCond .lt 9, 3), (10, .iload_n 2, 1), (11, .bipush 20, 2), (13, .if_icmp .lt 13, 3), (16, .new 114, 3), (19, .dup, 1), (20, .ldc 121, 2), (22, .invokespecial 118, 3), (25, .athrow, 1), (26, .aload_n 3, 1), (27, .getfield 109, 3), (30, .ifCond .ne 13, 3), (33, .new 82, 3), (36, .dup, 1), (37, .ldc 112, 2), (39, .invokespecial 86, 3), (42, .athrow, 1), (43, .aload_n 3, 1), (44, .invokevirtual 123, 3), (47, .ifCond .ne 13, 3), (50, .new 69, 3), (53, .dup, 1), (54, .ldc 127, 2), (56, .invokespecial 73, 3), (59, .athrow, 1), (60, .aload_n 3, 1), (61, .iload_n 2, 1), (62, .aload_n 0, 1), (63, .getfield 30, 3), (66, .invokevirtual 129, 3), (69, .aload_n 3, 1), (70, .aload_n 0, 1), (71, .getfield 30, 3), (74, .invokevirtual 101, 3), (77, .ireturn, 1)]
theorem nD_R_act_0 : ∀ q ∈ nL_R_act_0, decode prog_1_method_9_code q.1 = .ok (q.2.1, q.2.2) := by decide +kernel
theorem d_R_act_0 : decode prog_1_method_9_code 0 = .ok (.aload_n 0, 1) := dr_dd nD_R_act_0 0 rfl
theorem d_R_act_1 : decode prog_1_method_9_code 1 = .ok (.iload_n 1, 1) := dr_dd nD_R_act_0 1 rfl
theorem d_R_act_2 : decode prog_1_method_9_code 2 = .ok (.invokevirtual 105, 3) := dr_dd nD_R_act_0 2 rfl
theorem d_R_act_5 : decode prog_1_method_9_code 5 = .ok (.astore_n 3, 1) := dr_dd nD_R_act_0 3 rfl
theorem d_R_act_6 : decode prog_1_method_9_code 6 = .ok (.iload_n 2, 1) := dr_dd nD_R_act_0 4 rfl
theorem d_R_act_7 : decode prog_1_method_9_code 7 = .ok (.ifCond .lt 9, 3) := dr_dd nD_R_act_0 5 rfl
theorem d_R_act_10 : decode prog_1_method_9_code 10 = .ok (.iload_n 2, 1) := dr_dd nD_R_act_0 6 rfl
theorem d_R_act_11 : decode prog_1_method_9_code 11 = .ok (.bipush 20, 2) := dr_dd nD_R_act_0 7 rfl
theorem d_R_act_13 : decode prog_1_method_9_code 13 = .ok (.if_icmp .lt 13, 3) := dr_dd nD_R_act_0 8 rfl
theorem d_R_act_16 : decode prog_1_method_9_code 16 = .ok (.new 114, 3) := dr_dd nD_R_act_0 9 rfl
theorem d_R_act_19 : decode prog_1_method_9_code 19 = .ok (.dup, 1) := dr_dd nD_R_act_0 10 rfl
theorem d_R_act_20 : decode prog_1_method_9_code 20 = .ok (.ldc 121, 2) := dr_dd nD_R_act_0 11 rfl
theorem d_R_act_22 : decode prog_1_method_9_code 22 = .ok (.invokespecial 118, 3) := dr_dd nD_R_act_0 12 rfl
theorem d_R_act_25 : decode prog_1_method_9_code 25 = .ok (.athrow, 1) := dr_dd nD_R_act_0 13 rfl
theorem d_R_act_26 : decode prog_1_method_9_code 26 = .ok (.aload_n 3, 1) := dr_dd nD_R_act_0 14 rfl
theorem d_R_act_27 : decode prog_1_method_9_code 27 = .ok (.getfield 109, 3) := dr_dd nD_R_act_0 15 rfl
theorem d_R_act_30 : decode prog_1_method_9_code 30 = .ok (.ifCond .ne 13, 3) := dr_dd nD_R_act_0 16 rfl
theorem d_R_act_33 : decode prog_1_method_9_code 33 = .ok (.new 82, 3) := dr_dd nD_R_act_0 17 rfl
theorem d_R_act_36 : decode prog_1_method_9_code 36 = .ok (.dup, 1) := dr_dd nD_R_act_0 18 rfl
theorem d_R_act_37 : decode prog_1_method_9_code 37 = .ok (.ldc 112, 2) := dr_dd nD_R_act_0 19 rfl
theorem d_R_act_39 : decode prog_1_method_9_code 39 = .ok (.invokespecial 86, 3) := dr_dd nD_R_act_0 20 rfl
theorem d_R_act_42 : decode prog_1_method_9_code 42 = .ok (.athrow, 1) := dr_dd nD_R_act_0 21 rfl
theorem d_R_act_43 : decode prog_1_method_9_code 43 = .ok (.aload_n 3, 1) := dr_dd nD_R_act_0 22 rfl
theorem d_R_act_44 : decode prog_1_method_9_code 44 = .ok (.invokevirtual 123, 3) := dr_dd nD_R_act_0 23 rfl
theorem d_R_act_47 : decode prog_1_method_9_code 47 = .ok (.ifCond .ne 13, 3) := dr_dd nD_R_act_0 24 rfl
theorem d_R_act_50 : decode prog_1_method_9_code 50 = .ok (.new 69, 3) := dr_dd nD_R_act_0 25 rfl
theorem d_R_act_53 : decode prog_1_method_9_code 53 = .ok (.dup, 1) := dr_dd nD_R_act_0 26 rfl
theorem d_R_act_54 : decode prog_1_method_9_code 54 = .ok (.ldc 127, 2) := dr_dd nD_R_act_0 27 rfl
theorem d_R_act_56 : decode prog_1_method_9_code 56 = .ok (.invokespecial 73, 3) := dr_dd nD_R_act_0 28 rfl
theorem d_R_act_59 : decode prog_1_method_9_code 59 = .ok (.athrow, 1) := dr_dd nD_R_act_0 29 rfl
theorem d_R_act_60 : decode prog_1_method_9_code 60 = .ok (.aload_n 3, 1) := dr_dd nD_R_act_0 30 rfl
theorem d_R_act_61 : decode prog_1_method_9_code 61 = .ok (.iload_n 2, 1) := dr_dd nD_R_act_0 31 rfl
theorem d_R_act_62 : decode prog_1_method_9_code 62 = .ok (.aload_n 0, 1) := dr_dd nD_R_act_0 32 rfl
theorem d_R_act_63 : decode prog_1_method_9_code 63 = .ok (.getfield 30, 3) := dr_dd nD_R_act_0 33 rfl
theorem d_R_act_66 : decode prog_1_method_9_code 66 = .ok (.invokevirtual 129, 3) := dr_dd nD_R_act_0 34 rfl
theorem d_R_act_69 : decode prog_1_method_9_code 69 = .ok (.aload_n 3, 1) := dr_dd nD_R_act_0 35 rfl
theorem d_R_act_70 : decode prog_1_method_9_code 70 = .ok (.aload_n 0, 1) := dr_dd nD_R_act_0 36 rfl
theorem d_R_act_71 : decode prog_1_method_9_code 71 = .ok (.getfield 30, 3) := dr_dd nD_R_act_0 37 rfl
theorem d_R_act_74 : decode prog_1_method_9_code 74 = .ok (.invokevirtual 101, 3) := dr_dd nD_R_act_0 38 rfl
theorem d_R_act_77 : decode prog_1_method_9_code 77 = .ok (.ireturn, 1) := dr_dd nD_R_act_0 39 rfl
abbrev nL_R_tick_0 : List (Nat × Instr × Nat) := [(0, .iload_n 1, 1), (1, .iconst 1, 1), (2, .if_icmp .lt 21, 3), (5, .iload_n 1, 1), (6, .sipush 5000, 3), (9, .if_icmp .gt 14, 3), (12, .aload_n 0, 1), (13, .getfield 30, 3), (16, .iload_n 1, 1), (17, .iadd, 1), (18, .ldc 133, 2), (20, .if_icmp .le 13, 3), (23, .new 58, 3), (26, .dup, 1), (27, .ldc 134, 2), (29, .invokespecial 62, 3), (32, .athrow, 1), (33, .aload_n 0, 1), (34, .dup, 1), (35, .getfield 30, 3), (38, .iload_n 1, 1), (39, .iadd, 1), (40, .putfield 30, 3), (43, .iconst 0, 1), (44, .istore_n 2, 1), (45, .aload_n 0, 1), (46, .getfield 35, 3), (49, .astore_n 3, 1), (50, .aload_n 3, 1), (51, .arraylength, 1), (52, .istore 4, 2), (54, .iconst 0, 1), (55, .istore 5, 2), (57, .iload 5, 2), (59, .iload 4, 2), (61, .if_icmp .ge 40, 3), (64, .aload_n 3, 1), (65, .iload 5, 2), (67, .aaload, 1), (68, .astore 6, 2)]
theorem nD_R_tick_0 : ∀ q ∈ nL_R_tick_0, decode prog_1_method_10_code q.1 = .ok (q.2.1, q.2.2) := by decide +kernel
theorem d_R_tick_0 : decode prog_1_method_10_code 0 = .ok (.iload_n 1, 1) := dr_dd nD_R_tick_0 0 rfl
theorem d_R_tick_1 : decode prog_1_method_10_code 1 = .ok (.iconst 1, 1) := dr_dd nD_R_tick_0 1 rfl
theorem d_R_tick_2 : decode prog_1_method_10_code 2 = .ok (.if_icmp .lt 21, 3) := dr_dd nD_R_tick_0 2 rfl
theorem d_R_tick_5 : decode prog_1_method_10_code 5 = .ok (.iload_n 1, 1) := dr_dd nD_R_tick_0 3 rfl
theorem d_R_tick_6 : decode prog_1_method_10_code 6 = .ok (.sipush 5000, 3) := dr_dd nD_R_tick_0 4 rfl
theorem d_R_tick_9 : decode prog_1_method_10_code 9 = .ok (.if_icmp .gt 14, 3) := dr_dd nD_R_tick_0 5 rfl
theorem d_R_tick_12 : decode prog_1_method_10_code 12 = .ok (.aload_n 0, 1) := dr_dd nD_R_tick_0 6 rfl
theorem d_R_tick_13 : decode prog_1_method_10_code 13 = .ok (.getfield 30, 3) := dr_dd nD_R_tick_0 7 rfl
theorem d_R_tick_16 : decode prog_1_method_10_code 16 = .ok (.iload_n 1, 1) := dr_dd nD_R_tick_0 8 rfl
theorem d_R_tick_17 : decode prog_1_method_10_code 17 = .ok (.iadd, 1) := dr_dd nD_R_tick_0 9 rfl
theorem d_R_tick_18 : decode prog_1_method_10_code 18 = .ok (.ldc 133, 2) := dr_dd nD_R_tick_0 10 rfl
theorem d_R_tick_20 : decode prog_1_method_10_code 20 = .ok (.if_icmp .le 13, 3) := dr_dd nD_R_tick_0 11 rfl
theorem d_R_tick_23 : decode prog_1_method_10_code 23 = .ok (.new 58, 3) := dr_dd nD_R_tick_0 12 rfl
theorem d_R_tick_26 : decode prog_1_method_10_code 26 = .ok (.dup, 1) := dr_dd nD_R_tick_0 13 rfl
theorem d_R_tick_27 : decode prog_1_method_10_code 27 = .ok (.ldc 134, 2) := dr_dd nD_R_tick_0 14 rfl
theorem d_R_tick_29 : decode prog_1_method_10_code 29 = .ok (.invokespecial 62, 3) := dr_dd nD_R_tick_0 15 rfl
theorem d_R_tick_32 : decode prog_1_method_10_code 32 = .ok (.athrow, 1) := dr_dd nD_R_tick_0 16 rfl
theorem d_R_tick_33 : decode prog_1_method_10_code 33 = .ok (.aload_n 0, 1) := dr_dd nD_R_tick_0 17 rfl
theorem d_R_tick_34 : decode prog_1_method_10_code 34 = .ok (.dup, 1) := dr_dd nD_R_tick_0 18 rfl
theorem d_R_tick_35 : decode prog_1_method_10_code 35 = .ok (.getfield 30, 3) := dr_dd nD_R_tick_0 19 rfl
theorem d_R_tick_38 : decode prog_1_method_10_code 38 = .ok (.iload_n 1, 1) := dr_dd nD_R_tick_0 20 rfl
theorem d_R_tick_39 : decode prog_1_method_10_code 39 = .ok (.iadd, 1) := dr_dd nD_R_tick_0 21 rfl
theorem d_R_tick_40 : decode prog_1_method_10_code 40 = .ok (.putfield 30, 3) := dr_dd nD_R_tick_0 22 rfl
theorem d_R_tick_43 : decode prog_1_method_10_code 43 = .ok (.iconst 0, 1) := dr_dd nD_R_tick_0 23 rfl
theorem d_R_tick_44 : decode prog_1_method_10_code 44 = .ok (.istore_n 2, 1) := dr_dd nD_R_tick_0 24 rfl
theorem d_R_tick_45 : decode prog_1_method_10_code 45 = .ok (.aload_n 0, 1) := dr_dd nD_R_tick_0 25 rfl
theorem d_R_tick_46 : decode prog_1_method_10_code 46 = .ok (.getfield 35, 3) := dr_dd nD_R_tick_0 26 rfl
theorem d_R_tick_49 : decode prog_1_method_10_code 49 = .ok (.astore_n 3, 1) := dr_dd nD_R_tick_0 27 rfl
theorem d_R_tick_50 : decode prog_1_method_10_code 50 = .ok (.aload_n 3, 1) := dr_dd nD_R_tick_0 28 rfl
theorem d_R_tick_51 : decode prog_1_method_10_code 51 = .ok (.arraylength, 1) := dr_dd nD_R_tick_0 29 rfl
theorem d_R_tick_52 : decode prog_1_method_10_code 52 = .ok (.istore 4, 2) := dr_dd nD_R_tick_0 30 rfl
theorem d_R_tick_54 : decode prog_1_method_10_code 54 = .ok (.iconst 0, 1) := dr_dd nD_R_tick_0 31 rfl
theorem d_R_tick_55 : decode prog_1_method_10_code 55 = .ok (.istore 5, 2) := dr_dd nD_R_tick_0 32 rfl
theorem d_R_tick_57 : decode prog_1_method_10_code 57 = .ok (.iload 5, 2) := dr_dd nD_R_tick_0 33 rfl
theorem d_R_tick_59 : decode prog_1_method_10_code 59 = .ok (.iload 4, 2) := dr_dd nD_R_tick_0 34 rfl
theorem d_R_tick_61 : decode prog_1_method_10_code 61 = .ok (.if_icmp .ge 40, 3) := dr_dd nD_R_tick_0 35 rfl
theorem d_R_tick_64 : decode prog_1_method_10_code 64 = .ok (.aload_n 3, 1) := dr_dd nD_R_tick_0 36 rfl
theorem d_R_tick_65 : decode prog_1_method_10_code 65 = .ok (.iload 5, 2) := dr_dd nD_R_tick_0 37 rfl
theorem d_R_tick_67 : decode prog_1_method_10_code 67 = .ok (.aaload, 1) := dr_dd nD_R_tick_0 38 rfl
theorem d_R_tick_68 : decode prog_1_method_10_code 68 = .ok (.astore 6, 2) := dr_dd nD_R_tick_0 39 rfl
abbrev nL_R_tick_1 : List (Nat × Instr × Nat) := [(70, .aload 6, 2), (72, .ifnull 23, 3), (75, .aload 6, 2), (77, .getfield 109, 3), (80, .ifCond .eq 15, 3), (83, .iload_n 2, 1), (84, .aload 6, 2), (86, .aload_n 0, 1), (87, .getfield 30, 3), (90, .invokevirtual 101, 3), (93, .iadd, 1), (94, .istore_n 2, 1), (95, .iinc 5 1, 3), (98, .goto (-41), 3), (101, .iload_n 2, 1), (102, .ireturn, 1)]
theorem nD_R_tick_1 : ∀ q ∈ nL_R_tick_1, decode prog_1_method_10_code q.1 = .ok (q.2.1, q.2.2) := by decide +kernel
theorem d_R_tick_70 : decode prog_1_method_10_code 70 = .ok (.aload 6, 2) := dr_dd nD_R_tick_1 0 rfl
theorem d_R_tick_72 : decode prog_1_method_10_code 72 = .ok (.ifnull 23, 3) := dr_dd nD_R_tick_1 1 rfl
theorem d_R_tick_75 : decode prog_1_method_10_code 75 = .ok (.aload 6, 2) := dr_dd nD_R_tick_1 2 rfl
theorem d_R_tick_77 : decode prog_1_method_10_code 77 = .ok (.getfield 109, 3) := dr_dd nD_R_tick_1 3 rfl
theorem d_R_tick_80 : decode prog_1_method_10_code 80 = .ok (.ifCond .eq 15, 3) := dr_dd nD_R_tick_1 4 rfl
theorem d_R_tick_83 : decode prog_1_method_10_code 83 = .ok (.iload_n 2, 1) := dr_dd nD_R_tick_1 5 rfl
theorem d_R_tick_84 : decode prog_1_method_10_code 84 = .ok (.aload 6, 2) := dr_dd nD_R_tick_1 6 rfl
theorem d_R_tick_86 : decode prog_1_method_10_code 86 = .ok (.aload_n 0, 1) := dr_dd nD_R_tick_1 7 rfl
theorem d_R_tick_87 : decode prog_1_method_10_code 87 = .ok (.getfield 30, 3) := dr_dd nD_R_tick_1 8 rfl
theorem d_R_tick_90 : decode prog_1_method_10_code 90 = .ok (.invokevirtual 101, 3) := dr_dd nD_R_tick_1 9 rfl
theorem d_R_tick_93 : decode prog_1_method_10_code 93 = .ok (.iadd, 1) := dr_dd nD_R_tick_1 10 rfl
theorem d_R_tick_94 : decode prog_1_method_10_code 94 = .ok (.istore_n 2, 1) := dr_dd nD_R_tick_1 11 rfl
theorem d_R_tick_95 : decode prog_1_method_10_code 95 = .ok (.iinc 5 1, 3) := dr_dd nD_R_tick_1 12 rfl
theorem d_R_tick_98 : decode prog_1_method_10_code 98 = .ok (.goto (-41), 3) := dr_dd nD_R_tick_1 13 rfl
theorem d_R_tick_101 : decode prog_1_method_10_code 101 = .ok (.iload_n 2, 1) := dr_dd nD_R_tick_1 14 rfl
theorem d_R_tick_102 : decode prog_1_method_10_code 102 = .ok (.ireturn, 1) := dr_dd nD_R_tick_1 15 rfl
abbrev nL_R_event_0 : List (Nat × Instr × Nat) := [(0, .aload_n 0, 1), (1, .iload_n 1, 1), (2, .invokevirtual 105, 3), (5, .astore 4, 2), (7, .aload 4, 2), (9, .getfield 136, 3), (12, .iload_n 2, 1), (13, .invokevirtual 137, 3), (16, .ifCond .ne 13, 3), (19, .new 114, 3), (22, .dup, 1), (23, .ldc 140, 2), (25, .invokespecial 118, 3), (28, .athrow, 1), (29, .iload_n 3, 1), (30, .tableswitch 78 0 3 #[30, 37, 48, 67], 30), (60, .aload 4, 2), (62, .iload_n 2, 1), (63, .invokevirtual 142, 3), (66, .ireturn, 1), (67, .aload 4, 2), (69, .getfield 136, 3), (72, .getfield 145, 3), (75, .iload_n 2, 1), (76, .iaload, 1), (77, .ireturn, 1), (78, .aload 4, 2), (80, .getfield 136, 3), (83, .getfield 148, 3), (86, .iload_n 2, 1), (87, .baload, 1), (88, .ifCond .eq 7, 3), (91, .iconst 1, 1), (92, .goto 4, 3), (95, .iconst 0, 1), (96, .ireturn, 1), (97, .aload 4, 2), (99, .getfield 136, 3), (102, .getfield 152, 3), (105, .iload_n 2, 1)]
theorem nD_R_event_0 : ∀ q ∈ nL_R_event_0, decode prog_1_method_11_code q.1 = .ok (q.2.1, q.2.2) := by decide +kernel
theorem d_R_event_0 : decode prog_1_method_11_code 0 = .ok (.aload_n 0, 1) := dr_dd nD_R_event_0 0 rfl
theorem d_R_event_1 : decode prog_1_method_11_code 1 = .ok (.iload_n 1, 1) := dr_dd nD_R_event_0 1 rfl
theorem d_R_event_2 : decode prog_1_method_11_code 2 = .ok (.invokevirtual 105, 3) := dr_dd nD_R_event_0 2 rfl
theorem d_R_event_5 : decode prog_1_method_11_code 5 = .ok (.astore 4, 2) := dr_dd nD_R_event_0 3 rfl
theorem d_R_event_7 : decode prog_1_method_11_code 7 = .ok (.aload 4, 2) := dr_dd nD_R_event_0 4 rfl
theorem d_R_event_9 : decode prog_1_method_11_code 9 = .ok (.getfield 136, 3) := dr_dd nD_R_event_0 5 rfl
theorem d_R_event_12 : decode prog_1_method_11_code 12 = .ok (.iload_n 2, 1) := dr_dd nD_R_event_0 6 rfl
theorem d_R_event_13 : decode prog_1_method_11_code 13 = .ok (.invokevirtual 137, 3) := dr_dd nD_R_event_0 7 rfl
theorem d_R_event_16 : decode prog_1_method_11_code 16 = .ok (.ifCond .ne 13, 3) := dr_dd nD_R_event_0 8 rfl
theorem d_R_event_19 : decode prog_1_method_11_code 19 = .ok (.new 114, 3) := dr_dd nD_R_event_0 9 rfl
theorem d_R_event_22 : decode prog_1_method_11_code 22 = .ok (.dup, 1) := dr_dd nD_R_event_0 10 rfl
theorem d_R_event_23 : decode prog_1_method_11_code 23 = .ok (.ldc 140, 2) := dr_dd nD_R_event_0 11 rfl
theorem d_R_event_25 : decode prog_1_method_11_code 25 = .ok (.invokespecial 118, 3) := dr_dd nD_R_event_0 12 rfl
theorem d_R_event_28 : decode prog_1_method_11_code 28 = .ok (.athrow, 1) := dr_dd nD_R_event_0 13 rfl
theorem d_R_event_29 : decode prog_1_method_11_code 29 = .ok (.iload_n 3, 1) := dr_dd nD_R_event_0 14 rfl
theorem d_R_event_30 : decode prog_1_method_11_code 30 = .ok (.tableswitch 78 0 3 #[30, 37, 48, 67], 30) := dr_dd nD_R_event_0 15 rfl
theorem d_R_event_60 : decode prog_1_method_11_code 60 = .ok (.aload 4, 2) := dr_dd nD_R_event_0 16 rfl
theorem d_R_event_62 : decode prog_1_method_11_code 62 = .ok (.iload_n 2, 1) := dr_dd nD_R_event_0 17 rfl
theorem d_R_event_63 : decode prog_1_method_11_code 63 = .ok (.invokevirtual 142, 3) := dr_dd nD_R_event_0 18 rfl
theorem d_R_event_66 : decode prog_1_method_11_code 66 = .ok (.ireturn, 1) := dr_dd nD_R_event_0 19 rfl
theorem d_R_event_67 : decode prog_1_method_11_code 67 = .ok (.aload 4, 2) := dr_dd nD_R_event_0 20 rfl
theorem d_R_event_69 : decode prog_1_method_11_code 69 = .ok (.getfield 136, 3) := dr_dd nD_R_event_0 21 rfl
theorem d_R_event_72 : decode prog_1_method_11_code 72 = .ok (.getfield 145, 3) := dr_dd nD_R_event_0 22 rfl
theorem d_R_event_75 : decode prog_1_method_11_code 75 = .ok (.iload_n 2, 1) := dr_dd nD_R_event_0 23 rfl
theorem d_R_event_76 : decode prog_1_method_11_code 76 = .ok (.iaload, 1) := dr_dd nD_R_event_0 24 rfl
theorem d_R_event_77 : decode prog_1_method_11_code 77 = .ok (.ireturn, 1) := dr_dd nD_R_event_0 25 rfl
theorem d_R_event_78 : decode prog_1_method_11_code 78 = .ok (.aload 4, 2) := dr_dd nD_R_event_0 26 rfl
theorem d_R_event_80 : decode prog_1_method_11_code 80 = .ok (.getfield 136, 3) := dr_dd nD_R_event_0 27 rfl
theorem d_R_event_83 : decode prog_1_method_11_code 83 = .ok (.getfield 148, 3) := dr_dd nD_R_event_0 28 rfl
theorem d_R_event_86 : decode prog_1_method_11_code 86 = .ok (.iload_n 2, 1) := dr_dd nD_R_event_0 29 rfl
theorem d_R_event_87 : decode prog_1_method_11_code 87 = .ok (.baload, 1) := dr_dd nD_R_event_0 30 rfl
theorem d_R_event_88 : decode prog_1_method_11_code 88 = .ok (.ifCond .eq 7, 3) := dr_dd nD_R_event_0 31 rfl
theorem d_R_event_91 : decode prog_1_method_11_code 91 = .ok (.iconst 1, 1) := dr_dd nD_R_event_0 32 rfl
theorem d_R_event_92 : decode prog_1_method_11_code 92 = .ok (.goto 4, 3) := dr_dd nD_R_event_0 33 rfl
theorem d_R_event_95 : decode prog_1_method_11_code 95 = .ok (.iconst 0, 1) := dr_dd nD_R_event_0 34 rfl
theorem d_R_event_96 : decode prog_1_method_11_code 96 = .ok (.ireturn, 1) := dr_dd nD_R_event_0 35 rfl
theorem d_R_event_97 : decode prog_1_method_11_code 97 = .ok (.aload 4, 2) := dr_dd nD_R_event_0 36 rfl
theorem d_R_event_99 : decode prog_1_method_11_code 99 = .ok (.getfield 136, 3) := dr_dd nD_R_event_0 37 rfl
theorem d_R_event_102 : decode prog_1_method_11_code 102 = .ok (.getfield 152, 3) := dr_dd nD_R_event_0 38 rfl
theorem d_R_event_105 : decode prog_1_method_11_code 105 = .ok (.iload_n 2, 1) := dr_dd nD_R_event_0 39 rfl
abbrev nL_R_event_1 : List (Nat × Instr × Nat) := [(106, .iaload, 1), (107, .ireturn, 1), (108, .new 114, 3), (111, .dup, 1), (112, .ldc 155, 2), (114, .invokespecial 118, 3), (117, .athrow, 1)]
theorem nD_R_event_1 : ∀ q ∈ nL_R_event_1, decode prog_1_method_11_code q.1 = .ok (q.2.1, q.2.2) := by decide +kernel
theorem d_R_event_106 : decode prog_1_method_11_code 106 = .ok (.iaload, 1) := dr_dd nD_R_event_1 0 rfl
theorem d_R_event_107 : decode prog_1_method_11_code 107 = .ok (.ireturn, 1) := dr_dd nD_R_event_1 1 rfl
theorem d_R_event_108 : decode prog_1_method_11_code 108 = .ok (.new 114, 3) := dr_dd nD_R_event_1 2 rfl
theorem d_R_event_111 : decode prog_1_method_11_code 111 = .ok (.dup, 1) := dr_dd nD_R_event_1 3 rfl
theorem d_R_event_112 : decode prog_1_method_11_code 112 = .ok (.ldc 155, 2) := dr_dd nD_R_event_1 4 rfl
theorem d_R_event_114 : decode prog_1_method_11_code 114 = .ok (.invokespecial 118, 3) := dr_dd nD_R_event_1 5 rfl
theorem d_R_event_117 : decode prog_1_method_11_code 117 = .ok (.athrow, 1) := dr_dd nD_R_event_1 6 rfl
abbrev nL_R_seen_0 : List (Nat × Instr × Nat) := [(0, .aload_n 0, 1), (1, .iload_n 1, 1), (2, .invokevirtual 105, 3), (5, .astore 4, 2), (7, .iload_n 2, 1), (8, .ifCond .lt 9, 3), (11, .iload_n 2, 1), (12, .bipush 9, 2), (14, .if_icmp .le 13, 3), (17, .new 114, 3), (20, .dup, 1), (21, .ldc 157, 2), (23, .invokespecial 118, 3), (26, .athrow, 1), (27, .iload_n 3, 1), (28, .ifCond .ge 13, 3), (31, .new 58, 3), (34, .dup, 1), (35, .ldc 159, 2), (37, .invokespecial 62, 3), (40, .athrow, 1), (41, .aload 4, 2), (43, .iload_n 2, 1), (44, .iload_n 3, 1), (45, .invokevirtual 161, 3), (48, .ireturn, 1)]
theorem nD_R_seen_0 : ∀ q ∈ nL_R_seen_0, decode prog_1_method_12_code q.1 = .ok (q.2.1, q.2.2) := by decide +kernel
theorem d_R_seen_0 : decode prog_1_method_12_code 0 = .ok (.aload_n 0, 1) := dr_dd nD_R_seen_0 0 rfl
theorem d_R_seen_1 : decode prog_1_method_12_code 1 = .ok (.iload_n 1, 1) := dr_dd nD_R_seen_0 1 rfl
theorem d_R_seen_2 : decode prog_1_method_12_code 2 = .ok (.invokevirtual 105, 3) := dr_dd nD_R_seen_0 2 rfl
theorem d_R_seen_5 : decode prog_1_method_12_code 5 = .ok (.astore 4, 2) := dr_dd nD_R_seen_0 3 rfl
theorem d_R_seen_7 : decode prog_1_method_12_code 7 = .ok (.iload_n 2, 1) := dr_dd nD_R_seen_0 4 rfl
theorem d_R_seen_8 : decode prog_1_method_12_code 8 = .ok (.ifCond .lt 9, 3) := dr_dd nD_R_seen_0 5 rfl
theorem d_R_seen_11 : decode prog_1_method_12_code 11 = .ok (.iload_n 2, 1) := dr_dd nD_R_seen_0 6 rfl
theorem d_R_seen_12 : decode prog_1_method_12_code 12 = .ok (.bipush 9, 2) := dr_dd nD_R_seen_0 7 rfl
theorem d_R_seen_14 : decode prog_1_method_12_code 14 = .ok (.if_icmp .le 13, 3) := dr_dd nD_R_seen_0 8 rfl
theorem d_R_seen_17 : decode prog_1_method_12_code 17 = .ok (.new 114, 3) := dr_dd nD_R_seen_0 9 rfl
theorem d_R_seen_20 : decode prog_1_method_12_code 20 = .ok (.dup, 1) := dr_dd nD_R_seen_0 10 rfl
theorem d_R_seen_21 : decode prog_1_method_12_code 21 = .ok (.ldc 157, 2) := dr_dd nD_R_seen_0 11 rfl
theorem d_R_seen_23 : decode prog_1_method_12_code 23 = .ok (.invokespecial 118, 3) := dr_dd nD_R_seen_0 12 rfl
theorem d_R_seen_26 : decode prog_1_method_12_code 26 = .ok (.athrow, 1) := dr_dd nD_R_seen_0 13 rfl
theorem d_R_seen_27 : decode prog_1_method_12_code 27 = .ok (.iload_n 3, 1) := dr_dd nD_R_seen_0 14 rfl
theorem d_R_seen_28 : decode prog_1_method_12_code 28 = .ok (.ifCond .ge 13, 3) := dr_dd nD_R_seen_0 15 rfl
theorem d_R_seen_31 : decode prog_1_method_12_code 31 = .ok (.new 58, 3) := dr_dd nD_R_seen_0 16 rfl
theorem d_R_seen_34 : decode prog_1_method_12_code 34 = .ok (.dup, 1) := dr_dd nD_R_seen_0 17 rfl
theorem d_R_seen_35 : decode prog_1_method_12_code 35 = .ok (.ldc 159, 2) := dr_dd nD_R_seen_0 18 rfl
theorem d_R_seen_37 : decode prog_1_method_12_code 37 = .ok (.invokespecial 62, 3) := dr_dd nD_R_seen_0 19 rfl
theorem d_R_seen_40 : decode prog_1_method_12_code 40 = .ok (.athrow, 1) := dr_dd nD_R_seen_0 20 rfl
theorem d_R_seen_41 : decode prog_1_method_12_code 41 = .ok (.aload 4, 2) := dr_dd nD_R_seen_0 21 rfl
theorem d_R_seen_43 : decode prog_1_method_12_code 43 = .ok (.iload_n 2, 1) := dr_dd nD_R_seen_0 22 rfl
theorem d_R_seen_44 : decode prog_1_method_12_code 44 = .ok (.iload_n 3, 1) := dr_dd nD_R_seen_0 23 rfl
theorem d_R_seen_45 : decode prog_1_method_12_code 45 = .ok (.invokevirtual 161, 3) := dr_dd nD_R_seen_0 24 rfl
theorem d_R_seen_48 : decode prog_1_method_12_code 48 = .ok (.ireturn, 1) := dr_dd nD_R_seen_0 25 rfl
abbrev nL_R_fault_0 : List (Nat × Instr × Nat) := [(0, .aload_n 0, 1), (1, .iload_n 1, 1), (2, .invokevirtual 105, 3), (5, .astore_n 3, 1), (6, .iload_n 2, 1), (7, .iconst 1, 1), (8, .if_icmp .lt 9, 3), (11, .iload_n 2, 1), (12, .bipush 9, 2), (14, .if_icmp .le 13, 3), (17, .new 114, 3), (20, .dup, 1), (21, .ldc 165, 2), (23, .invokespecial 118, 3), (26, .athrow, 1), (27, .aload_n 3, 1), (28, .getfield 109, 3), (31, .ifCond .eq 15, 3), (34, .aload_n 3, 1), (35, .iload_n 2, 1), (36, .invokevirtual 167, 3), (39, .ifCond .eq 7, 3), (42, .iconst 1, 1), (43, .goto 4, 3), (46, .iconst 0, 1), (47, .ireturn, 1)]
theorem nD_R_fault_0 : ∀ q ∈ nL_R_fault_0, decode prog_1_method_13_code q.1 = .ok (q.2.1, q.2.2) := by decide +kernel
theorem d_R_fault_0 : decode prog_1_method_13_code 0 = .ok (.aload_n 0, 1) := dr_dd nD_R_fault_0 0 rfl
theorem d_R_fault_1 : decode prog_1_method_13_code 1 = .ok (.iload_n 1, 1) := dr_dd nD_R_fault_0 1 rfl
theorem d_R_fault_2 : decode prog_1_method_13_code 2 = .ok (.invokevirtual 105, 3) := dr_dd nD_R_fault_0 2 rfl
theorem d_R_fault_5 : decode prog_1_method_13_code 5 = .ok (.astore_n 3, 1) := dr_dd nD_R_fault_0 3 rfl
theorem d_R_fault_6 : decode prog_1_method_13_code 6 = .ok (.iload_n 2, 1) := dr_dd nD_R_fault_0 4 rfl
theorem d_R_fault_7 : decode prog_1_method_13_code 7 = .ok (.iconst 1, 1) := dr_dd nD_R_fault_0 5 rfl
theorem d_R_fault_8 : decode prog_1_method_13_code 8 = .ok (.if_icmp .lt 9, 3) := dr_dd nD_R_fault_0 6 rfl
theorem d_R_fault_11 : decode prog_1_method_13_code 11 = .ok (.iload_n 2, 1) := dr_dd nD_R_fault_0 7 rfl
theorem d_R_fault_12 : decode prog_1_method_13_code 12 = .ok (.bipush 9, 2) := dr_dd nD_R_fault_0 8 rfl
theorem d_R_fault_14 : decode prog_1_method_13_code 14 = .ok (.if_icmp .le 13, 3) := dr_dd nD_R_fault_0 9 rfl
theorem d_R_fault_17 : decode prog_1_method_13_code 17 = .ok (.new 114, 3) := dr_dd nD_R_fault_0 10 rfl
theorem d_R_fault_20 : decode prog_1_method_13_code 20 = .ok (.dup, 1) := dr_dd nD_R_fault_0 11 rfl
theorem d_R_fault_21 : decode prog_1_method_13_code 21 = .ok (.ldc 165, 2) := dr_dd nD_R_fault_0 12 rfl
theorem d_R_fault_23 : decode prog_1_method_13_code 23 = .ok (.invokespecial 118, 3) := dr_dd nD_R_fault_0 13 rfl
theorem d_R_fault_26 : decode prog_1_method_13_code 26 = .ok (.athrow, 1) := dr_dd nD_R_fault_0 14 rfl
theorem d_R_fault_27 : decode prog_1_method_13_code 27 = .ok (.aload_n 3, 1) := dr_dd nD_R_fault_0 15 rfl
theorem d_R_fault_28 : decode prog_1_method_13_code 28 = .ok (.getfield 109, 3) := dr_dd nD_R_fault_0 16 rfl
theorem d_R_fault_31 : decode prog_1_method_13_code 31 = .ok (.ifCond .eq 15, 3) := dr_dd nD_R_fault_0 17 rfl
theorem d_R_fault_34 : decode prog_1_method_13_code 34 = .ok (.aload_n 3, 1) := dr_dd nD_R_fault_0 18 rfl
theorem d_R_fault_35 : decode prog_1_method_13_code 35 = .ok (.iload_n 2, 1) := dr_dd nD_R_fault_0 19 rfl
theorem d_R_fault_36 : decode prog_1_method_13_code 36 = .ok (.invokevirtual 167, 3) := dr_dd nD_R_fault_0 20 rfl
theorem d_R_fault_39 : decode prog_1_method_13_code 39 = .ok (.ifCond .eq 7, 3) := dr_dd nD_R_fault_0 21 rfl
theorem d_R_fault_42 : decode prog_1_method_13_code 42 = .ok (.iconst 1, 1) := dr_dd nD_R_fault_0 22 rfl
theorem d_R_fault_43 : decode prog_1_method_13_code 43 = .ok (.goto 4, 3) := dr_dd nD_R_fault_0 23 rfl
theorem d_R_fault_46 : decode prog_1_method_13_code 46 = .ok (.iconst 0, 1) := dr_dd nD_R_fault_0 24 rfl
theorem d_R_fault_47 : decode prog_1_method_13_code 47 = .ok (.ireturn, 1) := dr_dd nD_R_fault_0 25 rfl
abbrev nL_R_aim_0 : List (Nat × Instr × Nat) := [(0, .aload_n 0, 1), (1, .iload_n 1, 1), (2, .invokevirtual 105, 3), (5, .astore_n 3, 1), (6, .aload_n 3, 1), (7, .getfield 136, 3), (10, .iload_n 2, 1), (11, .invokevirtual 170, 3), (14, .ifCond .ne 13, 3), (17, .new 114, 3), (20, .dup, 1), (21, .ldc 173, 2), (23, .invokespecial 118, 3), (26, .athrow, 1), (27, .aload_n 3, 1), (28, .iload_n 2, 1), (29, .aload_n 0, 1), (30, .getfield 30, 3), (33, .invokevirtual 175, 3), (36, .ireturn, 1)]
theorem nD_R_aim_0 : ∀ q ∈ nL_R_aim_0, decode prog_1_method_14_code q.1 = .ok (q.2.1, q.2.2) := by decide +kernel
theorem d_R_aim_0 : decode prog_1_method_14_code 0 = .ok (.aload_n 0, 1) := dr_dd nD_R_aim_0 0 rfl
theorem d_R_aim_1 : decode prog_1_method_14_code 1 = .ok (.iload_n 1, 1) := dr_dd nD_R_aim_0 1 rfl
theorem d_R_aim_2 : decode prog_1_method_14_code 2 = .ok (.invokevirtual 105, 3) := dr_dd nD_R_aim_0 2 rfl
theorem d_R_aim_5 : decode prog_1_method_14_code 5 = .ok (.astore_n 3, 1) := dr_dd nD_R_aim_0 3 rfl
theorem d_R_aim_6 : decode prog_1_method_14_code 6 = .ok (.aload_n 3, 1) := dr_dd nD_R_aim_0 4 rfl
theorem d_R_aim_7 : decode prog_1_method_14_code 7 = .ok (.getfield 136, 3) := dr_dd nD_R_aim_0 5 rfl
theorem d_R_aim_10 : decode prog_1_method_14_code 10 = .ok (.iload_n 2, 1) := dr_dd nD_R_aim_0 6 rfl
theorem d_R_aim_11 : decode prog_1_method_14_code 11 = .ok (.invokevirtual 170, 3) := dr_dd nD_R_aim_0 7 rfl
theorem d_R_aim_14 : decode prog_1_method_14_code 14 = .ok (.ifCond .ne 13, 3) := dr_dd nD_R_aim_0 8 rfl
theorem d_R_aim_17 : decode prog_1_method_14_code 17 = .ok (.new 114, 3) := dr_dd nD_R_aim_0 9 rfl
theorem d_R_aim_20 : decode prog_1_method_14_code 20 = .ok (.dup, 1) := dr_dd nD_R_aim_0 10 rfl
theorem d_R_aim_21 : decode prog_1_method_14_code 21 = .ok (.ldc 173, 2) := dr_dd nD_R_aim_0 11 rfl
theorem d_R_aim_23 : decode prog_1_method_14_code 23 = .ok (.invokespecial 118, 3) := dr_dd nD_R_aim_0 12 rfl
theorem d_R_aim_26 : decode prog_1_method_14_code 26 = .ok (.athrow, 1) := dr_dd nD_R_aim_0 13 rfl
theorem d_R_aim_27 : decode prog_1_method_14_code 27 = .ok (.aload_n 3, 1) := dr_dd nD_R_aim_0 14 rfl
theorem d_R_aim_28 : decode prog_1_method_14_code 28 = .ok (.iload_n 2, 1) := dr_dd nD_R_aim_0 15 rfl
theorem d_R_aim_29 : decode prog_1_method_14_code 29 = .ok (.aload_n 0, 1) := dr_dd nD_R_aim_0 16 rfl
theorem d_R_aim_30 : decode prog_1_method_14_code 30 = .ok (.getfield 30, 3) := dr_dd nD_R_aim_0 17 rfl
theorem d_R_aim_33 : decode prog_1_method_14_code 33 = .ok (.invokevirtual 175, 3) := dr_dd nD_R_aim_0 18 rfl
theorem d_R_aim_36 : decode prog_1_method_14_code 36 = .ok (.ireturn, 1) := dr_dd nD_R_aim_0 19 rfl
abbrev nL_R_score_0 : List (Nat × Instr × Nat) := [(0, .aload_n 0, 1), (1, .iload_n 1, 1), (2, .invokevirtual 105, 3), (5, .astore_n 3, 1), (6, .iload_n 2, 1), (7, .ifCond .lt 8, 3), (10, .iload_n 2, 1), (11, .iconst 1, 1), (12, .if_icmp .le 13, 3), (15, .new 114, 3), (18, .dup, 1), (19, .ldc 155, 2), (21, .invokespecial 118, 3), (24, .athrow, 1), (25, .aload_n 3, 1), (26, .getfield 136, 3), (29, .invokevirtual 178, 3), (32, .istore 4, 2), (34, .iload 4, 2), (36, .ifCond .ne 13, 3), (39, .new 182, 3), (42, .dup, 1), (43, .ldc 184, 2), (45, .invokespecial 186, 3), (48, .athrow, 1), (49, .aload_n 3, 1), (50, .aload_n 0, 1), (51, .getfield 30, 3), (54, .invokevirtual 187, 3), (57, .istore 5, 2), (59, .iload_n 2, 1), (60, .ifCond .ne 8, 3), (63, .iload 5, 2), (65, .goto 5, 3), (68, .iload 4, 2), (70, .iload 5, 2), (72, .iload 4, 2), (74, .invokestatic 190, 3), (77, .ireturn, 1)]
theorem nD_R_score_0 : ∀ q ∈ nL_R_score_0, decode prog_1_method_15_code q.1 = .ok (q.2.1, q.2.2) := by decide +kernel
theorem d_R_score_0 : decode prog_1_method_15_code 0 = .ok (.aload_n 0, 1) := dr_dd nD_R_score_0 0 rfl
theorem d_R_score_1 : decode prog_1_method_15_code 1 = .ok (.iload_n 1, 1) := dr_dd nD_R_score_0 1 rfl
theorem d_R_score_2 : decode prog_1_method_15_code 2 = .ok (.invokevirtual 105, 3) := dr_dd nD_R_score_0 2 rfl
theorem d_R_score_5 : decode prog_1_method_15_code 5 = .ok (.astore_n 3, 1) := dr_dd nD_R_score_0 3 rfl
theorem d_R_score_6 : decode prog_1_method_15_code 6 = .ok (.iload_n 2, 1) := dr_dd nD_R_score_0 4 rfl
theorem d_R_score_7 : decode prog_1_method_15_code 7 = .ok (.ifCond .lt 8, 3) := dr_dd nD_R_score_0 5 rfl
theorem d_R_score_10 : decode prog_1_method_15_code 10 = .ok (.iload_n 2, 1) := dr_dd nD_R_score_0 6 rfl
theorem d_R_score_11 : decode prog_1_method_15_code 11 = .ok (.iconst 1, 1) := dr_dd nD_R_score_0 7 rfl
theorem d_R_score_12 : decode prog_1_method_15_code 12 = .ok (.if_icmp .le 13, 3) := dr_dd nD_R_score_0 8 rfl
theorem d_R_score_15 : decode prog_1_method_15_code 15 = .ok (.new 114, 3) := dr_dd nD_R_score_0 9 rfl
theorem d_R_score_18 : decode prog_1_method_15_code 18 = .ok (.dup, 1) := dr_dd nD_R_score_0 10 rfl
theorem d_R_score_19 : decode prog_1_method_15_code 19 = .ok (.ldc 155, 2) := dr_dd nD_R_score_0 11 rfl
theorem d_R_score_21 : decode prog_1_method_15_code 21 = .ok (.invokespecial 118, 3) := dr_dd nD_R_score_0 12 rfl
theorem d_R_score_24 : decode prog_1_method_15_code 24 = .ok (.athrow, 1) := dr_dd nD_R_score_0 13 rfl
theorem d_R_score_25 : decode prog_1_method_15_code 25 = .ok (.aload_n 3, 1) := dr_dd nD_R_score_0 14 rfl
theorem d_R_score_26 : decode prog_1_method_15_code 26 = .ok (.getfield 136, 3) := dr_dd nD_R_score_0 15 rfl
theorem d_R_score_29 : decode prog_1_method_15_code 29 = .ok (.invokevirtual 178, 3) := dr_dd nD_R_score_0 16 rfl
theorem d_R_score_32 : decode prog_1_method_15_code 32 = .ok (.istore 4, 2) := dr_dd nD_R_score_0 17 rfl
theorem d_R_score_34 : decode prog_1_method_15_code 34 = .ok (.iload 4, 2) := dr_dd nD_R_score_0 18 rfl
theorem d_R_score_36 : decode prog_1_method_15_code 36 = .ok (.ifCond .ne 13, 3) := dr_dd nD_R_score_0 19 rfl
theorem d_R_score_39 : decode prog_1_method_15_code 39 = .ok (.new 182, 3) := dr_dd nD_R_score_0 20 rfl
theorem d_R_score_42 : decode prog_1_method_15_code 42 = .ok (.dup, 1) := dr_dd nD_R_score_0 21 rfl
theorem d_R_score_43 : decode prog_1_method_15_code 43 = .ok (.ldc 184, 2) := dr_dd nD_R_score_0 22 rfl
theorem d_R_score_45 : decode prog_1_method_15_code 45 = .ok (.invokespecial 186, 3) := dr_dd nD_R_score_0 23 rfl
theorem d_R_score_48 : decode prog_1_method_15_code 48 = .ok (.athrow, 1) := dr_dd nD_R_score_0 24 rfl
theorem d_R_score_49 : decode prog_1_method_15_code 49 = .ok (.aload_n 3, 1) := dr_dd nD_R_score_0 25 rfl
theorem d_R_score_50 : decode prog_1_method_15_code 50 = .ok (.aload_n 0, 1) := dr_dd nD_R_score_0 26 rfl
theorem d_R_score_51 : decode prog_1_method_15_code 51 = .ok (.getfield 30, 3) := dr_dd nD_R_score_0 27 rfl
theorem d_R_score_54 : decode prog_1_method_15_code 54 = .ok (.invokevirtual 187, 3) := dr_dd nD_R_score_0 28 rfl
theorem d_R_score_57 : decode prog_1_method_15_code 57 = .ok (.istore 5, 2) := dr_dd nD_R_score_0 29 rfl
theorem d_R_score_59 : decode prog_1_method_15_code 59 = .ok (.iload_n 2, 1) := dr_dd nD_R_score_0 30 rfl
theorem d_R_score_60 : decode prog_1_method_15_code 60 = .ok (.ifCond .ne 8, 3) := dr_dd nD_R_score_0 31 rfl
theorem d_R_score_63 : decode prog_1_method_15_code 63 = .ok (.iload 5, 2) := dr_dd nD_R_score_0 32 rfl
theorem d_R_score_65 : decode prog_1_method_15_code 65 = .ok (.goto 5, 3) := dr_dd nD_R_score_0 33 rfl
theorem d_R_score_68 : decode prog_1_method_15_code 68 = .ok (.iload 4, 2) := dr_dd nD_R_score_0 34 rfl
theorem d_R_score_70 : decode prog_1_method_15_code 70 = .ok (.iload 5, 2) := dr_dd nD_R_score_0 35 rfl
theorem d_R_score_72 : decode prog_1_method_15_code 72 = .ok (.iload 4, 2) := dr_dd nD_R_score_0 36 rfl
theorem d_R_score_74 : decode prog_1_method_15_code 74 = .ok (.invokestatic 190, 3) := dr_dd nD_R_score_0 37 rfl
theorem d_R_score_77 : decode prog_1_method_15_code 77 = .ok (.ireturn, 1) := dr_dd nD_R_score_0 38 rfl
abbrev nL_R_compare_0 : List (Nat × Instr × Nat) := [(0, .aload_n 0, 1), (1, .iload_n 1, 1), (2, .invokevirtual 105, 3), (5, .astore_n 3, 1), (6, .aload_n 0, 1), (7, .iload_n 2, 1), (8, .invokevirtual 105, 3), (11, .astore 4, 2), (13, .iconst 0, 1), (14, .istore 5, 2), (16, .iconst 1, 1), (17, .istore 6, 2), (19, .iload 6, 2), (21, .bipush 20, 2), (23, .if_icmp .gt 73, 3), (26, .aload_n 3, 1), (27, .getfield 136, 3), (30, .iload 6, 2), (32, .invokevirtual 170, 3), (35, .ifCond .eq 20, 3), (38, .aload 4, 2), (40, .getfield 136, 3), (43, .iload 6, 2), (45, .invokevirtual 170, 3), (48, .ifCond .eq 7, 3), (51, .iconst 1, 1), (52, .goto 4, 3), (55, .iconst 0, 1), (56, .istore 7, 2), (58, .iload 7, 2), (60, .ifCond .eq 30, 3), (63, .aload_n 3, 1), (64, .iload 6, 2), (66, .aload_n 0, 1), (67, .getfield 30, 3), (70, .invokevirtual 175, 3), (73, .aload 4, 2), (75, .iload 6, 2), (77, .aload_n 0, 1), (78, .getfield 30, 3)]
theorem nD_R_compare_0 : ∀ q ∈ nL_R_compare_0, decode prog_1_method_16_code q.1 = .ok (q.2.1, q.2.2) := by decide +kernel
theorem d_R_compare_0 : decode prog_1_method_16_code 0 = .ok (.aload_n 0, 1) := dr_dd nD_R_compare_0 0 rfl
theorem d_R_compare_1 : decode prog_1_method_16_code 1 = .ok (.iload_n 1, 1) := dr_dd nD_R_compare_0 1 rfl
theorem d_R_compare_2 : decode prog_1_method_16_code 2 = .ok (.invokevirtual 105, 3) := dr_dd nD_R_compare_0 2 rfl
theorem d_R_compare_5 : decode prog_1_method_16_code 5 = .ok (.astore_n 3, 1) := dr_dd nD_R_compare_0 3 rfl
theorem d_R_compare_6 : decode prog_1_method_16_code 6 = .ok (.aload_n 0, 1) := dr_dd nD_R_compare_0 4 rfl
theorem d_R_compare_7 : decode prog_1_method_16_code 7 = .ok (.iload_n 2, 1) := dr_dd nD_R_compare_0 5 rfl
theorem d_R_compare_8 : decode prog_1_method_16_code 8 = .ok (.invokevirtual 105, 3) := dr_dd nD_R_compare_0 6 rfl
theorem d_R_compare_11 : decode prog_1_method_16_code 11 = .ok (.astore 4, 2) := dr_dd nD_R_compare_0 7 rfl
theorem d_R_compare_13 : decode prog_1_method_16_code 13 = .ok (.iconst 0, 1) := dr_dd nD_R_compare_0 8 rfl
theorem d_R_compare_14 : decode prog_1_method_16_code 14 = .ok (.istore 5, 2) := dr_dd nD_R_compare_0 9 rfl
theorem d_R_compare_16 : decode prog_1_method_16_code 16 = .ok (.iconst 1, 1) := dr_dd nD_R_compare_0 10 rfl
theorem d_R_compare_17 : decode prog_1_method_16_code 17 = .ok (.istore 6, 2) := dr_dd nD_R_compare_0 11 rfl
theorem d_R_compare_19 : decode prog_1_method_16_code 19 = .ok (.iload 6, 2) := dr_dd nD_R_compare_0 12 rfl
theorem d_R_compare_21 : decode prog_1_method_16_code 21 = .ok (.bipush 20, 2) := dr_dd nD_R_compare_0 13 rfl
theorem d_R_compare_23 : decode prog_1_method_16_code 23 = .ok (.if_icmp .gt 73, 3) := dr_dd nD_R_compare_0 14 rfl
theorem d_R_compare_26 : decode prog_1_method_16_code 26 = .ok (.aload_n 3, 1) := dr_dd nD_R_compare_0 15 rfl
theorem d_R_compare_27 : decode prog_1_method_16_code 27 = .ok (.getfield 136, 3) := dr_dd nD_R_compare_0 16 rfl
theorem d_R_compare_30 : decode prog_1_method_16_code 30 = .ok (.iload 6, 2) := dr_dd nD_R_compare_0 17 rfl
theorem d_R_compare_32 : decode prog_1_method_16_code 32 = .ok (.invokevirtual 170, 3) := dr_dd nD_R_compare_0 18 rfl
theorem d_R_compare_35 : decode prog_1_method_16_code 35 = .ok (.ifCond .eq 20, 3) := dr_dd nD_R_compare_0 19 rfl
theorem d_R_compare_38 : decode prog_1_method_16_code 38 = .ok (.aload 4, 2) := dr_dd nD_R_compare_0 20 rfl
theorem d_R_compare_40 : decode prog_1_method_16_code 40 = .ok (.getfield 136, 3) := dr_dd nD_R_compare_0 21 rfl
theorem d_R_compare_43 : decode prog_1_method_16_code 43 = .ok (.iload 6, 2) := dr_dd nD_R_compare_0 22 rfl
theorem d_R_compare_45 : decode prog_1_method_16_code 45 = .ok (.invokevirtual 170, 3) := dr_dd nD_R_compare_0 23 rfl
theorem d_R_compare_48 : decode prog_1_method_16_code 48 = .ok (.ifCond .eq 7, 3) := dr_dd nD_R_compare_0 24 rfl
theorem d_R_compare_51 : decode prog_1_method_16_code 51 = .ok (.iconst 1, 1) := dr_dd nD_R_compare_0 25 rfl
theorem d_R_compare_52 : decode prog_1_method_16_code 52 = .ok (.goto 4, 3) := dr_dd nD_R_compare_0 26 rfl
theorem d_R_compare_55 : decode prog_1_method_16_code 55 = .ok (.iconst 0, 1) := dr_dd nD_R_compare_0 27 rfl
theorem d_R_compare_56 : decode prog_1_method_16_code 56 = .ok (.istore 7, 2) := dr_dd nD_R_compare_0 28 rfl
theorem d_R_compare_58 : decode prog_1_method_16_code 58 = .ok (.iload 7, 2) := dr_dd nD_R_compare_0 29 rfl
theorem d_R_compare_60 : decode prog_1_method_16_code 60 = .ok (.ifCond .eq 30, 3) := dr_dd nD_R_compare_0 30 rfl
theorem d_R_compare_63 : decode prog_1_method_16_code 63 = .ok (.aload_n 3, 1) := dr_dd nD_R_compare_0 31 rfl
theorem d_R_compare_64 : decode prog_1_method_16_code 64 = .ok (.iload 6, 2) := dr_dd nD_R_compare_0 32 rfl
theorem d_R_compare_66 : decode prog_1_method_16_code 66 = .ok (.aload_n 0, 1) := dr_dd nD_R_compare_0 33 rfl
theorem d_R_compare_67 : decode prog_1_method_16_code 67 = .ok (.getfield 30, 3) := dr_dd nD_R_compare_0 34 rfl
theorem d_R_compare_70 : decode prog_1_method_16_code 70 = .ok (.invokevirtual 175, 3) := dr_dd nD_R_compare_0 35 rfl
theorem d_R_compare_73 : decode prog_1_method_16_code 73 = .ok (.aload 4, 2) := dr_dd nD_R_compare_0 36 rfl
theorem d_R_compare_75 : decode prog_1_method_16_code 75 = .ok (.iload 6, 2) := dr_dd nD_R_compare_0 37 rfl
theorem d_R_compare_77 : decode prog_1_method_16_code 77 = .ok (.aload_n 0, 1) := dr_dd nD_R_compare_0 38 rfl
theorem d_R_compare_78 : decode prog_1_method_16_code 78 = .ok (.getfield 30, 3) := dr_dd nD_R_compare_0 39 rfl
abbrev nL_R_compare_1 : List (Nat × Instr × Nat) := [(81, .invokevirtual 175, 3), (84, .if_icmp .eq 6, 3), (87, .iinc 5 1, 3), (90, .iinc 6 1, 3), (93, .goto (-74), 3), (96, .iload 5, 2), (98, .ireturn, 1)]
theorem nD_R_compare_1 : ∀ q ∈ nL_R_compare_1, decode prog_1_method_16_code q.1 = .ok (q.2.1, q.2.2) := by decide +kernel
theorem d_R_compare_81 : decode prog_1_method_16_code 81 = .ok (.invokevirtual 175, 3) := dr_dd nD_R_compare_1 0 rfl
theorem d_R_compare_84 : decode prog_1_method_16_code 84 = .ok (.if_icmp .eq 6, 3) := dr_dd nD_R_compare_1 1 rfl
theorem d_R_compare_87 : decode prog_1_method_16_code 87 = .ok (.iinc 5 1, 3) := dr_dd nD_R_compare_1 2 rfl
theorem d_R_compare_90 : decode prog_1_method_16_code 90 = .ok (.iinc 6 1, 3) := dr_dd nD_R_compare_1 3 rfl
theorem d_R_compare_93 : decode prog_1_method_16_code 93 = .ok (.goto (-74), 3) := dr_dd nD_R_compare_1 4 rfl
theorem d_R_compare_96 : decode prog_1_method_16_code 96 = .ok (.iload 5, 2) := dr_dd nD_R_compare_1 5 rfl
theorem d_R_compare_98 : decode prog_1_method_16_code 98 = .ok (.ireturn, 1) := dr_dd nD_R_compare_1 6 rfl
abbrev nL_R_observe_0 : List (Nat × Instr × Nat) := [(0, .aload_n 0, 1), (1, .iload_n 1, 1), (2, .invokevirtual 105, 3), (5, .astore 4, 2), (7, .aload 4, 2), (9, .aload_n 0, 1), (10, .getfield 30, 3), (13, .invokevirtual 194, 3), (16, .istore 5, 2), (18, .iload_n 2, 1), (19, .ifCond .lt 19, 3), (22, .iload_n 2, 1), (23, .iload 5, 2), (25, .if_icmp .gt 13, 3), (28, .iload_n 3, 1), (29, .ifCond .lt 9, 3), (32, .iload_n 3, 1), (33, .bipush 9, 2), (35, .if_icmp .le 13, 3), (38, .new 58, 3), (41, .dup, 1), (42, .ldc 197, 2), (44, .invokespecial 62, 3), (47, .athrow, 1), (48, .aload_n 0, 1), (49, .getfield 49, 3), (52, .iconst 4, 1), (53, .imul, 1), (54, .istore 6, 2), (56, .iload 6, 2), (58, .ifCond .lt 15, 3), (61, .iload 6, 2), (63, .iconst 4, 1), (64, .iadd, 1), (65, .aload_n 0, 1), (66, .getfield 46, 3), (69, .arraylength, 1), (70, .if_icmp .le 13, 3), (73, .new 69, 3), (76, .dup, 1)]
theorem nD_R_observe_0 : ∀ q ∈ nL_R_observe_0, decode prog_1_method_17_code q.1 = .ok (q.2.1, q.2.2) := by decide +kernel
theorem d_R_observe_0 : decode prog_1_method_17_code 0 = .ok (.aload_n 0, 1) := dr_dd nD_R_observe_0 0 rfl
theorem d_R_observe_1 : decode prog_1_method_17_code 1 = .ok (.iload_n 1, 1) := dr_dd nD_R_observe_0 1 rfl
theorem d_R_observe_2 : decode prog_1_method_17_code 2 = .ok (.invokevirtual 105, 3) := dr_dd nD_R_observe_0 2 rfl
theorem d_R_observe_5 : decode prog_1_method_17_code 5 = .ok (.astore 4, 2) := dr_dd nD_R_observe_0 3 rfl
theorem d_R_observe_7 : decode prog_1_method_17_code 7 = .ok (.aload 4, 2) := dr_dd nD_R_observe_0 4 rfl
theorem d_R_observe_9 : decode prog_1_method_17_code 9 = .ok (.aload_n 0, 1) := dr_dd nD_R_observe_0 5 rfl
theorem d_R_observe_10 : decode prog_1_method_17_code 10 = .ok (.getfield 30, 3) := dr_dd nD_R_observe_0 6 rfl
theorem d_R_observe_13 : decode prog_1_method_17_code 13 = .ok (.invokevirtual 194, 3) := dr_dd nD_R_observe_0 7 rfl
theorem d_R_observe_16 : decode prog_1_method_17_code 16 = .ok (.istore 5, 2) := dr_dd nD_R_observe_0 8 rfl
theorem d_R_observe_18 : decode prog_1_method_17_code 18 = .ok (.iload_n 2, 1) := dr_dd nD_R_observe_0 9 rfl
theorem d_R_observe_19 : decode prog_1_method_17_code 19 = .ok (.ifCond .lt 19, 3) := dr_dd nD_R_observe_0 10 rfl
theorem d_R_observe_22 : decode prog_1_method_17_code 22 = .ok (.iload_n 2, 1) := dr_dd nD_R_observe_0 11 rfl
theorem d_R_observe_23 : decode prog_1_method_17_code 23 = .ok (.iload 5, 2) := dr_dd nD_R_observe_0 12 rfl
theorem d_R_observe_25 : decode prog_1_method_17_code 25 = .ok (.if_icmp .gt 13, 3) := dr_dd nD_R_observe_0 13 rfl
theorem d_R_observe_28 : decode prog_1_method_17_code 28 = .ok (.iload_n 3, 1) := dr_dd nD_R_observe_0 14 rfl
theorem d_R_observe_29 : decode prog_1_method_17_code 29 = .ok (.ifCond .lt 9, 3) := dr_dd nD_R_observe_0 15 rfl
theorem d_R_observe_32 : decode prog_1_method_17_code 32 = .ok (.iload_n 3, 1) := dr_dd nD_R_observe_0 16 rfl
theorem d_R_observe_33 : decode prog_1_method_17_code 33 = .ok (.bipush 9, 2) := dr_dd nD_R_observe_0 17 rfl
theorem d_R_observe_35 : decode prog_1_method_17_code 35 = .ok (.if_icmp .le 13, 3) := dr_dd nD_R_observe_0 18 rfl
theorem d_R_observe_38 : decode prog_1_method_17_code 38 = .ok (.new 58, 3) := dr_dd nD_R_observe_0 19 rfl
theorem d_R_observe_41 : decode prog_1_method_17_code 41 = .ok (.dup, 1) := dr_dd nD_R_observe_0 20 rfl
theorem d_R_observe_42 : decode prog_1_method_17_code 42 = .ok (.ldc 197, 2) := dr_dd nD_R_observe_0 21 rfl
theorem d_R_observe_44 : decode prog_1_method_17_code 44 = .ok (.invokespecial 62, 3) := dr_dd nD_R_observe_0 22 rfl
theorem d_R_observe_47 : decode prog_1_method_17_code 47 = .ok (.athrow, 1) := dr_dd nD_R_observe_0 23 rfl
theorem d_R_observe_48 : decode prog_1_method_17_code 48 = .ok (.aload_n 0, 1) := dr_dd nD_R_observe_0 24 rfl
theorem d_R_observe_49 : decode prog_1_method_17_code 49 = .ok (.getfield 49, 3) := dr_dd nD_R_observe_0 25 rfl
theorem d_R_observe_52 : decode prog_1_method_17_code 52 = .ok (.iconst 4, 1) := dr_dd nD_R_observe_0 26 rfl
theorem d_R_observe_53 : decode prog_1_method_17_code 53 = .ok (.imul, 1) := dr_dd nD_R_observe_0 27 rfl
theorem d_R_observe_54 : decode prog_1_method_17_code 54 = .ok (.istore 6, 2) := dr_dd nD_R_observe_0 28 rfl
theorem d_R_observe_56 : decode prog_1_method_17_code 56 = .ok (.iload 6, 2) := dr_dd nD_R_observe_0 29 rfl
theorem d_R_observe_58 : decode prog_1_method_17_code 58 = .ok (.ifCond .lt 15, 3) := dr_dd nD_R_observe_0 30 rfl
theorem d_R_observe_61 : decode prog_1_method_17_code 61 = .ok (.iload 6, 2) := dr_dd nD_R_observe_0 31 rfl
theorem d_R_observe_63 : decode prog_1_method_17_code 63 = .ok (.iconst 4, 1) := dr_dd nD_R_observe_0 32 rfl
theorem d_R_observe_64 : decode prog_1_method_17_code 64 = .ok (.iadd, 1) := dr_dd nD_R_observe_0 33 rfl
theorem d_R_observe_65 : decode prog_1_method_17_code 65 = .ok (.aload_n 0, 1) := dr_dd nD_R_observe_0 34 rfl
theorem d_R_observe_66 : decode prog_1_method_17_code 66 = .ok (.getfield 46, 3) := dr_dd nD_R_observe_0 35 rfl
theorem d_R_observe_69 : decode prog_1_method_17_code 69 = .ok (.arraylength, 1) := dr_dd nD_R_observe_0 36 rfl
theorem d_R_observe_70 : decode prog_1_method_17_code 70 = .ok (.if_icmp .le 13, 3) := dr_dd nD_R_observe_0 37 rfl
theorem d_R_observe_73 : decode prog_1_method_17_code 73 = .ok (.new 69, 3) := dr_dd nD_R_observe_0 38 rfl
theorem d_R_observe_76 : decode prog_1_method_17_code 76 = .ok (.dup, 1) := dr_dd nD_R_observe_0 39 rfl
abbrev nL_R_observe_1 : List (Nat × Instr × Nat) := [(77, .ldc 199, 2), (79, .invokespecial 73, 3), (82, .athrow, 1), (83, .aload_n 0, 1), (84, .getfield 46, 3), (87, .iload 6, 2), (89, .iload_n 1, 1), (90, .iastore, 1), (91, .aload_n 0, 1), (92, .getfield 46, 3), (95, .iload 6, 2), (97, .iconst 1, 1), (98, .iadd, 1), (99, .iload_n 2, 1), (100, .iastore, 1), (101, .aload_n 0, 1), (102, .getfield 46, 3), (105, .iload 6, 2), (107, .iconst 2, 1), (108, .iadd, 1), (109, .iload_n 3, 1), (110, .iastore, 1), (111, .aload_n 0, 1), (112, .getfield 46, 3), (115, .iload 6, 2), (117, .iconst 3, 1), (118, .iadd, 1), (119, .iload 5, 2), (121, .iload_n 2, 1), (122, .isub, 1), (123, .bipush 60, 2), (125, .if_icmp .le 7, 3), (128, .iconst 1, 1), (129, .goto 4, 3), (132, .iconst 0, 1), (133, .iastore, 1), (134, .aload_n 0, 1), (135, .dup, 1), (136, .getfield 49, 3), (139, .iconst 1, 1)]
theorem nD_R_observe_1 : ∀ q ∈ nL_R_observe_1, decode prog_1_method_17_code q.1 = .ok (q.2.1, q.2.2) := by decide +kernel
theorem d_R_observe_77 : decode prog_1_method_17_code 77 = .ok (.ldc 199, 2) := dr_dd nD_R_observe_1 0 rfl
theorem d_R_observe_79 : decode prog_1_method_17_code 79 = .ok (.invokespecial 73, 3) := dr_dd nD_R_observe_1 1 rfl
theorem d_R_observe_82 : decode prog_1_method_17_code 82 = .ok (.athrow, 1) := dr_dd nD_R_observe_1 2 rfl
theorem d_R_observe_83 : decode prog_1_method_17_code 83 = .ok (.aload_n 0, 1) := dr_dd nD_R_observe_1 3 rfl
theorem d_R_observe_84 : decode prog_1_method_17_code 84 = .ok (.getfield 46, 3) := dr_dd nD_R_observe_1 4 rfl
theorem d_R_observe_87 : decode prog_1_method_17_code 87 = .ok (.iload 6, 2) := dr_dd nD_R_observe_1 5 rfl
theorem d_R_observe_89 : decode prog_1_method_17_code 89 = .ok (.iload_n 1, 1) := dr_dd nD_R_observe_1 6 rfl
theorem d_R_observe_90 : decode prog_1_method_17_code 90 = .ok (.iastore, 1) := dr_dd nD_R_observe_1 7 rfl
theorem d_R_observe_91 : decode prog_1_method_17_code 91 = .ok (.aload_n 0, 1) := dr_dd nD_R_observe_1 8 rfl
theorem d_R_observe_92 : decode prog_1_method_17_code 92 = .ok (.getfield 46, 3) := dr_dd nD_R_observe_1 9 rfl
theorem d_R_observe_95 : decode prog_1_method_17_code 95 = .ok (.iload 6, 2) := dr_dd nD_R_observe_1 10 rfl
theorem d_R_observe_97 : decode prog_1_method_17_code 97 = .ok (.iconst 1, 1) := dr_dd nD_R_observe_1 11 rfl
theorem d_R_observe_98 : decode prog_1_method_17_code 98 = .ok (.iadd, 1) := dr_dd nD_R_observe_1 12 rfl
theorem d_R_observe_99 : decode prog_1_method_17_code 99 = .ok (.iload_n 2, 1) := dr_dd nD_R_observe_1 13 rfl
theorem d_R_observe_100 : decode prog_1_method_17_code 100 = .ok (.iastore, 1) := dr_dd nD_R_observe_1 14 rfl
theorem d_R_observe_101 : decode prog_1_method_17_code 101 = .ok (.aload_n 0, 1) := dr_dd nD_R_observe_1 15 rfl
theorem d_R_observe_102 : decode prog_1_method_17_code 102 = .ok (.getfield 46, 3) := dr_dd nD_R_observe_1 16 rfl
theorem d_R_observe_105 : decode prog_1_method_17_code 105 = .ok (.iload 6, 2) := dr_dd nD_R_observe_1 17 rfl
theorem d_R_observe_107 : decode prog_1_method_17_code 107 = .ok (.iconst 2, 1) := dr_dd nD_R_observe_1 18 rfl
theorem d_R_observe_108 : decode prog_1_method_17_code 108 = .ok (.iadd, 1) := dr_dd nD_R_observe_1 19 rfl
theorem d_R_observe_109 : decode prog_1_method_17_code 109 = .ok (.iload_n 3, 1) := dr_dd nD_R_observe_1 20 rfl
theorem d_R_observe_110 : decode prog_1_method_17_code 110 = .ok (.iastore, 1) := dr_dd nD_R_observe_1 21 rfl
theorem d_R_observe_111 : decode prog_1_method_17_code 111 = .ok (.aload_n 0, 1) := dr_dd nD_R_observe_1 22 rfl
theorem d_R_observe_112 : decode prog_1_method_17_code 112 = .ok (.getfield 46, 3) := dr_dd nD_R_observe_1 23 rfl
theorem d_R_observe_115 : decode prog_1_method_17_code 115 = .ok (.iload 6, 2) := dr_dd nD_R_observe_1 24 rfl
theorem d_R_observe_117 : decode prog_1_method_17_code 117 = .ok (.iconst 3, 1) := dr_dd nD_R_observe_1 25 rfl
theorem d_R_observe_118 : decode prog_1_method_17_code 118 = .ok (.iadd, 1) := dr_dd nD_R_observe_1 26 rfl
theorem d_R_observe_119 : decode prog_1_method_17_code 119 = .ok (.iload 5, 2) := dr_dd nD_R_observe_1 27 rfl
theorem d_R_observe_121 : decode prog_1_method_17_code 121 = .ok (.iload_n 2, 1) := dr_dd nD_R_observe_1 28 rfl
theorem d_R_observe_122 : decode prog_1_method_17_code 122 = .ok (.isub, 1) := dr_dd nD_R_observe_1 29 rfl
theorem d_R_observe_123 : decode prog_1_method_17_code 123 = .ok (.bipush 60, 2) := dr_dd nD_R_observe_1 30 rfl
theorem d_R_observe_125 : decode prog_1_method_17_code 125 = .ok (.if_icmp .le 7, 3) := dr_dd nD_R_observe_1 31 rfl
theorem d_R_observe_128 : decode prog_1_method_17_code 128 = .ok (.iconst 1, 1) := dr_dd nD_R_observe_1 32 rfl
theorem d_R_observe_129 : decode prog_1_method_17_code 129 = .ok (.goto 4, 3) := dr_dd nD_R_observe_1 33 rfl
theorem d_R_observe_132 : decode prog_1_method_17_code 132 = .ok (.iconst 0, 1) := dr_dd nD_R_observe_1 34 rfl
theorem d_R_observe_133 : decode prog_1_method_17_code 133 = .ok (.iastore, 1) := dr_dd nD_R_observe_1 35 rfl
theorem d_R_observe_134 : decode prog_1_method_17_code 134 = .ok (.aload_n 0, 1) := dr_dd nD_R_observe_1 36 rfl
theorem d_R_observe_135 : decode prog_1_method_17_code 135 = .ok (.dup, 1) := dr_dd nD_R_observe_1 37 rfl
theorem d_R_observe_136 : decode prog_1_method_17_code 136 = .ok (.getfield 49, 3) := dr_dd nD_R_observe_1 38 rfl
theorem d_R_observe_139 : decode prog_1_method_17_code 139 = .ok (.iconst 1, 1) := dr_dd nD_R_observe_1 39 rfl
abbrev nL_R_observe_2 : List (Nat × Instr × Nat) := [(140, .iadd, 1), (141, .putfield 49, 3), (144, .aload_n 0, 1), (145, .getfield 49, 3), (148, .iconst 1, 1), (149, .isub, 1), (150, .ireturn, 1)]
theorem nD_R_observe_2 : ∀ q ∈ nL_R_observe_2, decode prog_1_method_17_code q.1 = .ok (q.2.1, q.2.2) := by decide +kernel
theorem d_R_observe_140 : decode prog_1_method_17_code 140 = .ok (.iadd, 1) := dr_dd nD_R_observe_2 0 rfl
theorem d_R_observe_141 : decode prog_1_method_17_code 141 = .ok (.putfield 49, 3) := dr_dd nD_R_observe_2 1 rfl
theorem d_R_observe_144 : decode prog_1_method_17_code 144 = .ok (.aload_n 0, 1) := dr_dd nD_R_observe_2 2 rfl
theorem d_R_observe_145 : decode prog_1_method_17_code 145 = .ok (.getfield 49, 3) := dr_dd nD_R_observe_2 3 rfl
theorem d_R_observe_148 : decode prog_1_method_17_code 148 = .ok (.iconst 1, 1) := dr_dd nD_R_observe_2 4 rfl
theorem d_R_observe_149 : decode prog_1_method_17_code 149 = .ok (.isub, 1) := dr_dd nD_R_observe_2 5 rfl
theorem d_R_observe_150 : decode prog_1_method_17_code 150 = .ok (.ireturn, 1) := dr_dd nD_R_observe_2 6 rfl
abbrev nL_R_row_0 : List (Nat × Instr × Nat) := [(0, .iload_n 1, 1), (1, .ifCond .lt 20, 3), (4, .iload_n 1, 1), (5, .aload_n 0, 1), (6, .getfield 49, 3), (9, .if_icmp .ge 12, 3), (12, .iload_n 2, 1), (13, .ifCond .lt 8, 3), (16, .iload_n 2, 1), (17, .iconst 4, 1), (18, .if_icmp .lt 13, 3), (21, .new 114, 3), (24, .dup, 1), (25, .ldc 201, 2), (27, .invokespecial 118, 3), (30, .athrow, 1), (31, .aload_n 0, 1), (32, .getfield 46, 3), (35, .iload_n 1, 1), (36, .iconst 4, 1), (37, .imul, 1), (38, .iload_n 2, 1), (39, .iadd, 1), (40, .iaload, 1), (41, .ireturn, 1)]
theorem nD_R_row_0 : ∀ q ∈ nL_R_row_0, decode prog_1_method_18_code q.1 = .ok (q.2.1, q.2.2) := by decide +kernel
theorem d_R_row_0 : decode prog_1_method_18_code 0 = .ok (.iload_n 1, 1) := dr_dd nD_R_row_0 0 rfl
theorem d_R_row_1 : decode prog_1_method_18_code 1 = .ok (.ifCond .lt 20, 3) := dr_dd nD_R_row_0 1 rfl
theorem d_R_row_4 : decode prog_1_method_18_code 4 = .ok (.iload_n 1, 1) := dr_dd nD_R_row_0 2 rfl
theorem d_R_row_5 : decode prog_1_method_18_code 5 = .ok (.aload_n 0, 1) := dr_dd nD_R_row_0 3 rfl
theorem d_R_row_6 : decode prog_1_method_18_code 6 = .ok (.getfield 49, 3) := dr_dd nD_R_row_0 4 rfl
theorem d_R_row_9 : decode prog_1_method_18_code 9 = .ok (.if_icmp .ge 12, 3) := dr_dd nD_R_row_0 5 rfl
theorem d_R_row_12 : decode prog_1_method_18_code 12 = .ok (.iload_n 2, 1) := dr_dd nD_R_row_0 6 rfl
theorem d_R_row_13 : decode prog_1_method_18_code 13 = .ok (.ifCond .lt 8, 3) := dr_dd nD_R_row_0 7 rfl
theorem d_R_row_16 : decode prog_1_method_18_code 16 = .ok (.iload_n 2, 1) := dr_dd nD_R_row_0 8 rfl
theorem d_R_row_17 : decode prog_1_method_18_code 17 = .ok (.iconst 4, 1) := dr_dd nD_R_row_0 9 rfl
theorem d_R_row_18 : decode prog_1_method_18_code 18 = .ok (.if_icmp .lt 13, 3) := dr_dd nD_R_row_0 10 rfl
theorem d_R_row_21 : decode prog_1_method_18_code 21 = .ok (.new 114, 3) := dr_dd nD_R_row_0 11 rfl
theorem d_R_row_24 : decode prog_1_method_18_code 24 = .ok (.dup, 1) := dr_dd nD_R_row_0 12 rfl
theorem d_R_row_25 : decode prog_1_method_18_code 25 = .ok (.ldc 201, 2) := dr_dd nD_R_row_0 13 rfl
theorem d_R_row_27 : decode prog_1_method_18_code 27 = .ok (.invokespecial 118, 3) := dr_dd nD_R_row_0 14 rfl
theorem d_R_row_30 : decode prog_1_method_18_code 30 = .ok (.athrow, 1) := dr_dd nD_R_row_0 15 rfl
theorem d_R_row_31 : decode prog_1_method_18_code 31 = .ok (.aload_n 0, 1) := dr_dd nD_R_row_0 16 rfl
theorem d_R_row_32 : decode prog_1_method_18_code 32 = .ok (.getfield 46, 3) := dr_dd nD_R_row_0 17 rfl
theorem d_R_row_35 : decode prog_1_method_18_code 35 = .ok (.iload_n 1, 1) := dr_dd nD_R_row_0 18 rfl
theorem d_R_row_36 : decode prog_1_method_18_code 36 = .ok (.iconst 4, 1) := dr_dd nD_R_row_0 19 rfl
theorem d_R_row_37 : decode prog_1_method_18_code 37 = .ok (.imul, 1) := dr_dd nD_R_row_0 20 rfl
theorem d_R_row_38 : decode prog_1_method_18_code 38 = .ok (.iload_n 2, 1) := dr_dd nD_R_row_0 21 rfl
theorem d_R_row_39 : decode prog_1_method_18_code 39 = .ok (.iadd, 1) := dr_dd nD_R_row_0 22 rfl
theorem d_R_row_40 : decode prog_1_method_18_code 40 = .ok (.iaload, 1) := dr_dd nD_R_row_0 23 rfl
theorem d_R_row_41 : decode prog_1_method_18_code 41 = .ok (.ireturn, 1) := dr_dd nD_R_row_0 24 rfl
abbrev nL_R_play_0 : List (Nat × Instr × Nat) := [(0, .iload_n 2, 1), (1, .ldc 203, 2), (3, .imul, 1), (4, .sipush 12345, 3), (7, .iadd, 1), (8, .istore_n 3, 1), (9, .aload_n 0, 1), (10, .iload_n 1, 1), (11, .iload_n 3, 1), (12, .bipush 16, 2), (14, .iushr, 1), (15, .bipush 20, 2), (17, .irem, 1), (18, .invokevirtual 204, 3), (21, .ireturn, 1)]
theorem nD_R_play_0 : ∀ q ∈ nL_R_play_0, decode prog_1_method_19_code q.1 = .ok (q.2.1, q.2.2) := by decide +kernel
theorem d_R_play_0 : decode prog_1_method_19_code 0 = .ok (.iload_n 2, 1) := dr_dd nD_R_play_0 0 rfl
theorem d_R_play_1 : decode prog_1_method_19_code 1 = .ok (.ldc 203, 2) := dr_dd nD_R_play_0 1 rfl
theorem d_R_play_3 : decode prog_1_method_19_code 3 = .ok (.imul, 1) := dr_dd nD_R_play_0 2 rfl
theorem d_R_play_4 : decode prog_1_method_19_code 4 = .ok (.sipush 12345, 3) := dr_dd nD_R_play_0 3 rfl
theorem d_R_play_7 : decode prog_1_method_19_code 7 = .ok (.iadd, 1) := dr_dd nD_R_play_0 4 rfl
theorem d_R_play_8 : decode prog_1_method_19_code 8 = .ok (.istore_n 3, 1) := dr_dd nD_R_play_0 5 rfl
theorem d_R_play_9 : decode prog_1_method_19_code 9 = .ok (.aload_n 0, 1) := dr_dd nD_R_play_0 6 rfl
theorem d_R_play_10 : decode prog_1_method_19_code 10 = .ok (.iload_n 1, 1) := dr_dd nD_R_play_0 7 rfl
theorem d_R_play_11 : decode prog_1_method_19_code 11 = .ok (.iload_n 3, 1) := dr_dd nD_R_play_0 8 rfl
theorem d_R_play_12 : decode prog_1_method_19_code 12 = .ok (.bipush 16, 2) := dr_dd nD_R_play_0 9 rfl
theorem d_R_play_14 : decode prog_1_method_19_code 14 = .ok (.iushr, 1) := dr_dd nD_R_play_0 10 rfl
theorem d_R_play_15 : decode prog_1_method_19_code 15 = .ok (.bipush 20, 2) := dr_dd nD_R_play_0 11 rfl
theorem d_R_play_17 : decode prog_1_method_19_code 17 = .ok (.irem, 1) := dr_dd nD_R_play_0 12 rfl
theorem d_R_play_18 : decode prog_1_method_19_code 18 = .ok (.invokevirtual 204, 3) := dr_dd nD_R_play_0 13 rfl
theorem d_R_play_21 : decode prog_1_method_19_code 21 = .ok (.ireturn, 1) := dr_dd nD_R_play_0 14 rfl
abbrev nL_R_drill_0 : List (Nat × Instr × Nat) := [(0, .aload_n 0, 1), (1, .iload_n 1, 1), (2, .invokevirtual 105, 3), (5, .astore_n 3, 1), (6, .iload_n 2, 1), (7, .tableswitch 67 0 4 #[33, 46, 51, 56, 62], 33), (40, .aload_n 3, 1), (41, .getfield 109, 3), (44, .ifCond .eq 7, 3), (47, .iconst 1, 1), (48, .goto 4, 3), (51, .iconst 0, 1), (52, .ireturn, 1), (53, .aload_n 3, 1), (54, .getfield 207, 3), (57, .ireturn, 1), (58, .aload_n 3, 1), (59, .getfield 210, 3), (62, .ireturn, 1), (63, .aload_n 0, 1), (64, .iload_n 1, 1), (65, .invokevirtual 213, 3), (68, .ireturn, 1), (69, .aload_n 3, 1), (70, .getfield 216, 3), (73, .ireturn, 1), (74, .new 114, 3), (77, .dup, 1), (78, .ldc 155, 2), (80, .invokespecial 118, 3), (83, .athrow, 1)]
theorem nD_R_drill_0 : ∀ q ∈ nL_R_drill_0, decode prog_1_method_20_code q.1 = .ok (q.2.1, q.2.2) := by decide +kernel
theorem d_R_drill_0 : decode prog_1_method_20_code 0 = .ok (.aload_n 0, 1) := dr_dd nD_R_drill_0 0 rfl
theorem d_R_drill_1 : decode prog_1_method_20_code 1 = .ok (.iload_n 1, 1) := dr_dd nD_R_drill_0 1 rfl
theorem d_R_drill_2 : decode prog_1_method_20_code 2 = .ok (.invokevirtual 105, 3) := dr_dd nD_R_drill_0 2 rfl
theorem d_R_drill_5 : decode prog_1_method_20_code 5 = .ok (.astore_n 3, 1) := dr_dd nD_R_drill_0 3 rfl
theorem d_R_drill_6 : decode prog_1_method_20_code 6 = .ok (.iload_n 2, 1) := dr_dd nD_R_drill_0 4 rfl
theorem d_R_drill_7 : decode prog_1_method_20_code 7 = .ok (.tableswitch 67 0 4 #[33, 46, 51, 56, 62], 33) := dr_dd nD_R_drill_0 5 rfl
theorem d_R_drill_40 : decode prog_1_method_20_code 40 = .ok (.aload_n 3, 1) := dr_dd nD_R_drill_0 6 rfl
theorem d_R_drill_41 : decode prog_1_method_20_code 41 = .ok (.getfield 109, 3) := dr_dd nD_R_drill_0 7 rfl
theorem d_R_drill_44 : decode prog_1_method_20_code 44 = .ok (.ifCond .eq 7, 3) := dr_dd nD_R_drill_0 8 rfl
theorem d_R_drill_47 : decode prog_1_method_20_code 47 = .ok (.iconst 1, 1) := dr_dd nD_R_drill_0 9 rfl
theorem d_R_drill_48 : decode prog_1_method_20_code 48 = .ok (.goto 4, 3) := dr_dd nD_R_drill_0 10 rfl
theorem d_R_drill_51 : decode prog_1_method_20_code 51 = .ok (.iconst 0, 1) := dr_dd nD_R_drill_0 11 rfl
theorem d_R_drill_52 : decode prog_1_method_20_code 52 = .ok (.ireturn, 1) := dr_dd nD_R_drill_0 12 rfl
theorem d_R_drill_53 : decode prog_1_method_20_code 53 = .ok (.aload_n 3, 1) := dr_dd nD_R_drill_0 13 rfl
theorem d_R_drill_54 : decode prog_1_method_20_code 54 = .ok (.getfield 207, 3) := dr_dd nD_R_drill_0 14 rfl
theorem d_R_drill_57 : decode prog_1_method_20_code 57 = .ok (.ireturn, 1) := dr_dd nD_R_drill_0 15 rfl
theorem d_R_drill_58 : decode prog_1_method_20_code 58 = .ok (.aload_n 3, 1) := dr_dd nD_R_drill_0 16 rfl
theorem d_R_drill_59 : decode prog_1_method_20_code 59 = .ok (.getfield 210, 3) := dr_dd nD_R_drill_0 17 rfl
theorem d_R_drill_62 : decode prog_1_method_20_code 62 = .ok (.ireturn, 1) := dr_dd nD_R_drill_0 18 rfl
theorem d_R_drill_63 : decode prog_1_method_20_code 63 = .ok (.aload_n 0, 1) := dr_dd nD_R_drill_0 19 rfl
theorem d_R_drill_64 : decode prog_1_method_20_code 64 = .ok (.iload_n 1, 1) := dr_dd nD_R_drill_0 20 rfl
theorem d_R_drill_65 : decode prog_1_method_20_code 65 = .ok (.invokevirtual 213, 3) := dr_dd nD_R_drill_0 21 rfl
theorem d_R_drill_68 : decode prog_1_method_20_code 68 = .ok (.ireturn, 1) := dr_dd nD_R_drill_0 22 rfl
theorem d_R_drill_69 : decode prog_1_method_20_code 69 = .ok (.aload_n 3, 1) := dr_dd nD_R_drill_0 23 rfl
theorem d_R_drill_70 : decode prog_1_method_20_code 70 = .ok (.getfield 216, 3) := dr_dd nD_R_drill_0 24 rfl
theorem d_R_drill_73 : decode prog_1_method_20_code 73 = .ok (.ireturn, 1) := dr_dd nD_R_drill_0 25 rfl
theorem d_R_drill_74 : decode prog_1_method_20_code 74 = .ok (.new 114, 3) := dr_dd nD_R_drill_0 26 rfl
theorem d_R_drill_77 : decode prog_1_method_20_code 77 = .ok (.dup, 1) := dr_dd nD_R_drill_0 27 rfl
theorem d_R_drill_78 : decode prog_1_method_20_code 78 = .ok (.ldc 155, 2) := dr_dd nD_R_drill_0 28 rfl
theorem d_R_drill_80 : decode prog_1_method_20_code 80 = .ok (.invokespecial 118, 3) := dr_dd nD_R_drill_0 29 rfl
theorem d_R_drill_83 : decode prog_1_method_20_code 83 = .ok (.athrow, 1) := dr_dd nD_R_drill_0 30 rfl
abbrev nL_R_knownDrill_0 : List (Nat × Instr × Nat) := [(0, .iload_n 1, 1), (1, .ifCond .lt 21, 3), (4, .iload_n 1, 1), (5, .aload_n 0, 1), (6, .getfield 35, 3), (9, .arraylength, 1), (10, .if_icmp .ge 12, 3), (13, .aload_n 0, 1), (14, .getfield 35, 3), (17, .iload_n 1, 1), (18, .aaload, 1), (19, .goto 4, 3), (22, .aconst_null, 1), (23, .astore_n 2, 1), (24, .aload_n 2, 1), (25, .ifnonnull 13, 3), (28, .new 114, 3), (31, .dup, 1), (32, .ldc 219, 2), (34, .invokespecial 118, 3), (37, .athrow, 1), (38, .aload_n 2, 1), (39, .areturn, 1)]
theorem nD_R_knownDrill_0 : ∀ q ∈ nL_R_knownDrill_0, decode prog_1_method_21_code q.1 = .ok (q.2.1, q.2.2) := by decide +kernel
theorem d_R_knownDrill_0 : decode prog_1_method_21_code 0 = .ok (.iload_n 1, 1) := dr_dd nD_R_knownDrill_0 0 rfl
theorem d_R_knownDrill_1 : decode prog_1_method_21_code 1 = .ok (.ifCond .lt 21, 3) := dr_dd nD_R_knownDrill_0 1 rfl
theorem d_R_knownDrill_4 : decode prog_1_method_21_code 4 = .ok (.iload_n 1, 1) := dr_dd nD_R_knownDrill_0 2 rfl
theorem d_R_knownDrill_5 : decode prog_1_method_21_code 5 = .ok (.aload_n 0, 1) := dr_dd nD_R_knownDrill_0 3 rfl
theorem d_R_knownDrill_6 : decode prog_1_method_21_code 6 = .ok (.getfield 35, 3) := dr_dd nD_R_knownDrill_0 4 rfl
theorem d_R_knownDrill_9 : decode prog_1_method_21_code 9 = .ok (.arraylength, 1) := dr_dd nD_R_knownDrill_0 5 rfl
theorem d_R_knownDrill_10 : decode prog_1_method_21_code 10 = .ok (.if_icmp .ge 12, 3) := dr_dd nD_R_knownDrill_0 6 rfl
theorem d_R_knownDrill_13 : decode prog_1_method_21_code 13 = .ok (.aload_n 0, 1) := dr_dd nD_R_knownDrill_0 7 rfl
theorem d_R_knownDrill_14 : decode prog_1_method_21_code 14 = .ok (.getfield 35, 3) := dr_dd nD_R_knownDrill_0 8 rfl
theorem d_R_knownDrill_17 : decode prog_1_method_21_code 17 = .ok (.iload_n 1, 1) := dr_dd nD_R_knownDrill_0 9 rfl
theorem d_R_knownDrill_18 : decode prog_1_method_21_code 18 = .ok (.aaload, 1) := dr_dd nD_R_knownDrill_0 10 rfl
theorem d_R_knownDrill_19 : decode prog_1_method_21_code 19 = .ok (.goto 4, 3) := dr_dd nD_R_knownDrill_0 11 rfl
theorem d_R_knownDrill_22 : decode prog_1_method_21_code 22 = .ok (.aconst_null, 1) := dr_dd nD_R_knownDrill_0 12 rfl
theorem d_R_knownDrill_23 : decode prog_1_method_21_code 23 = .ok (.astore_n 2, 1) := dr_dd nD_R_knownDrill_0 13 rfl
theorem d_R_knownDrill_24 : decode prog_1_method_21_code 24 = .ok (.aload_n 2, 1) := dr_dd nD_R_knownDrill_0 14 rfl
theorem d_R_knownDrill_25 : decode prog_1_method_21_code 25 = .ok (.ifnonnull 13, 3) := dr_dd nD_R_knownDrill_0 15 rfl
theorem d_R_knownDrill_28 : decode prog_1_method_21_code 28 = .ok (.new 114, 3) := dr_dd nD_R_knownDrill_0 16 rfl
theorem d_R_knownDrill_31 : decode prog_1_method_21_code 31 = .ok (.dup, 1) := dr_dd nD_R_knownDrill_0 17 rfl
theorem d_R_knownDrill_32 : decode prog_1_method_21_code 32 = .ok (.ldc 219, 2) := dr_dd nD_R_knownDrill_0 18 rfl
theorem d_R_knownDrill_34 : decode prog_1_method_21_code 34 = .ok (.invokespecial 118, 3) := dr_dd nD_R_knownDrill_0 19 rfl
theorem d_R_knownDrill_37 : decode prog_1_method_21_code 37 = .ok (.athrow, 1) := dr_dd nD_R_knownDrill_0 20 rfl
theorem d_R_knownDrill_38 : decode prog_1_method_21_code 38 = .ok (.aload_n 2, 1) := dr_dd nD_R_knownDrill_0 21 rfl
theorem d_R_knownDrill_39 : decode prog_1_method_21_code 39 = .ok (.areturn, 1) := dr_dd nD_R_knownDrill_0 22 rfl
abbrev nL_R_countUnits_0 : List (Nat × Instr × Nat) := [(0, .iconst 0, 1), (1, .istore_n 2, 1), (2, .aload_n 0, 1), (3, .getfield 42, 3), (6, .astore_n 3, 1), (7, .aload_n 3, 1), (8, .arraylength, 1), (9, .istore 4, 2), (11, .iconst 0, 1), (12, .istore 5, 2), (14, .iload 5, 2), (16, .iload 4, 2), (18, .if_icmp .ge 24, 3), (21, .aload_n 3, 1), (22, .iload 5, 2), (24, .iaload, 1), (25, .istore 6, 2), (27, .iload 6, 2), (29, .iload_n 1, 1), (30, .if_icmp .ne 6, 3), (33, .iinc 2 1, 3), (36, .iinc 5 1, 3), (39, .goto (-25), 3), (42, .iload_n 2, 1), (43, .ireturn, 1)]
theorem nD_R_countUnits_0 : ∀ q ∈ nL_R_countUnits_0, decode prog_1_method_22_code q.1 = .ok (q.2.1, q.2.2) := by decide +kernel
theorem d_R_countUnits_0 : decode prog_1_method_22_code 0 = .ok (.iconst 0, 1) := dr_dd nD_R_countUnits_0 0 rfl
theorem d_R_countUnits_1 : decode prog_1_method_22_code 1 = .ok (.istore_n 2, 1) := dr_dd nD_R_countUnits_0 1 rfl
theorem d_R_countUnits_2 : decode prog_1_method_22_code 2 = .ok (.aload_n 0, 1) := dr_dd nD_R_countUnits_0 2 rfl
theorem d_R_countUnits_3 : decode prog_1_method_22_code 3 = .ok (.getfield 42, 3) := dr_dd nD_R_countUnits_0 3 rfl
theorem d_R_countUnits_6 : decode prog_1_method_22_code 6 = .ok (.astore_n 3, 1) := dr_dd nD_R_countUnits_0 4 rfl
theorem d_R_countUnits_7 : decode prog_1_method_22_code 7 = .ok (.aload_n 3, 1) := dr_dd nD_R_countUnits_0 5 rfl
theorem d_R_countUnits_8 : decode prog_1_method_22_code 8 = .ok (.arraylength, 1) := dr_dd nD_R_countUnits_0 6 rfl
theorem d_R_countUnits_9 : decode prog_1_method_22_code 9 = .ok (.istore 4, 2) := dr_dd nD_R_countUnits_0 7 rfl
theorem d_R_countUnits_11 : decode prog_1_method_22_code 11 = .ok (.iconst 0, 1) := dr_dd nD_R_countUnits_0 8 rfl
theorem d_R_countUnits_12 : decode prog_1_method_22_code 12 = .ok (.istore 5, 2) := dr_dd nD_R_countUnits_0 9 rfl
theorem d_R_countUnits_14 : decode prog_1_method_22_code 14 = .ok (.iload 5, 2) := dr_dd nD_R_countUnits_0 10 rfl
theorem d_R_countUnits_16 : decode prog_1_method_22_code 16 = .ok (.iload 4, 2) := dr_dd nD_R_countUnits_0 11 rfl
theorem d_R_countUnits_18 : decode prog_1_method_22_code 18 = .ok (.if_icmp .ge 24, 3) := dr_dd nD_R_countUnits_0 12 rfl
theorem d_R_countUnits_21 : decode prog_1_method_22_code 21 = .ok (.aload_n 3, 1) := dr_dd nD_R_countUnits_0 13 rfl
theorem d_R_countUnits_22 : decode prog_1_method_22_code 22 = .ok (.iload 5, 2) := dr_dd nD_R_countUnits_0 14 rfl
theorem d_R_countUnits_24 : decode prog_1_method_22_code 24 = .ok (.iaload, 1) := dr_dd nD_R_countUnits_0 15 rfl
theorem d_R_countUnits_25 : decode prog_1_method_22_code 25 = .ok (.istore 6, 2) := dr_dd nD_R_countUnits_0 16 rfl
theorem d_R_countUnits_27 : decode prog_1_method_22_code 27 = .ok (.iload 6, 2) := dr_dd nD_R_countUnits_0 17 rfl
theorem d_R_countUnits_29 : decode prog_1_method_22_code 29 = .ok (.iload_n 1, 1) := dr_dd nD_R_countUnits_0 18 rfl
theorem d_R_countUnits_30 : decode prog_1_method_22_code 30 = .ok (.if_icmp .ne 6, 3) := dr_dd nD_R_countUnits_0 19 rfl
theorem d_R_countUnits_33 : decode prog_1_method_22_code 33 = .ok (.iinc 2 1, 3) := dr_dd nD_R_countUnits_0 20 rfl
theorem d_R_countUnits_36 : decode prog_1_method_22_code 36 = .ok (.iinc 5 1, 3) := dr_dd nD_R_countUnits_0 21 rfl
theorem d_R_countUnits_39 : decode prog_1_method_22_code 39 = .ok (.goto (-25), 3) := dr_dd nD_R_countUnits_0 22 rfl
theorem d_R_countUnits_42 : decode prog_1_method_22_code 42 = .ok (.iload_n 2, 1) := dr_dd nD_R_countUnits_0 23 rfl
theorem d_R_countUnits_43 : decode prog_1_method_22_code 43 = .ok (.ireturn, 1) := dr_dd nD_R_countUnits_0 24 rfl
abbrev nL_R_inLowestTerms_0 : List (Nat × Instr × Nat) := [(0, .iload_n 2, 1), (1, .istore_n 3, 1), (2, .iload_n 3, 1), (3, .iconst 1, 1), (4, .if_icmp .le 25, 3), (7, .iload_n 1, 1), (8, .iload_n 3, 1), (9, .irem, 1), (10, .ifCond .ne 13, 3), (13, .iload_n 2, 1), (14, .iload_n 3, 1), (15, .irem, 1), (16, .ifCond .ne 7, 3), (19, .iload_n 0, 1), (20, .iload_n 3, 1), (21, .idiv, 1), (22, .ireturn, 1), (23, .iinc 3 (-1), 3), (26, .goto (-24), 3), (29, .iload_n 0, 1), (30, .ireturn, 1)]
theorem nD_R_inLowestTerms_0 : ∀ q ∈ nL_R_inLowestTerms_0, decode prog_1_method_23_code q.1 = .ok (q.2.1, q.2.2) := by decide +kernel
theorem d_R_inLowestTerms_0 : decode prog_1_method_23_code 0 = .ok (.iload_n 2, 1) := dr_dd nD_R_inLowestTerms_0 0 rfl
theorem d_R_inLowestTerms_1 : decode prog_1_method_23_code 1 = .ok (.istore_n 3, 1) := dr_dd nD_R_inLowestTerms_0 1 rfl
theorem d_R_inLowestTerms_2 : decode prog_1_method_23_code 2 = .ok (.iload_n 3, 1) := dr_dd nD_R_inLowestTerms_0 2 rfl
theorem d_R_inLowestTerms_3 : decode prog_1_method_23_code 3 = .ok (.iconst 1, 1) := dr_dd nD_R_inLowestTerms_0 3 rfl
theorem d_R_inLowestTerms_4 : decode prog_1_method_23_code 4 = .ok (.if_icmp .le 25, 3) := dr_dd nD_R_inLowestTerms_0 4 rfl
theorem d_R_inLowestTerms_7 : decode prog_1_method_23_code 7 = .ok (.iload_n 1, 1) := dr_dd nD_R_inLowestTerms_0 5 rfl
theorem d_R_inLowestTerms_8 : decode prog_1_method_23_code 8 = .ok (.iload_n 3, 1) := dr_dd nD_R_inLowestTerms_0 6 rfl
theorem d_R_inLowestTerms_9 : decode prog_1_method_23_code 9 = .ok (.irem, 1) := dr_dd nD_R_inLowestTerms_0 7 rfl
theorem d_R_inLowestTerms_10 : decode prog_1_method_23_code 10 = .ok (.ifCond .ne 13, 3) := dr_dd nD_R_inLowestTerms_0 8 rfl
theorem d_R_inLowestTerms_13 : decode prog_1_method_23_code 13 = .ok (.iload_n 2, 1) := dr_dd nD_R_inLowestTerms_0 9 rfl
theorem d_R_inLowestTerms_14 : decode prog_1_method_23_code 14 = .ok (.iload_n 3, 1) := dr_dd nD_R_inLowestTerms_0 10 rfl
theorem d_R_inLowestTerms_15 : decode prog_1_method_23_code 15 = .ok (.irem, 1) := dr_dd nD_R_inLowestTerms_0 11 rfl
theorem d_R_inLowestTerms_16 : decode prog_1_method_23_code 16 = .ok (.ifCond .ne 7, 3) := dr_dd nD_R_inLowestTerms_0 12 rfl
theorem d_R_inLowestTerms_19 : decode prog_1_method_23_code 19 = .ok (.iload_n 0, 1) := dr_dd nD_R_inLowestTerms_0 13 rfl
theorem d_R_inLowestTerms_20 : decode prog_1_method_23_code 20 = .ok (.iload_n 3, 1) := dr_dd nD_R_inLowestTerms_0 14 rfl
theorem d_R_inLowestTerms_21 : decode prog_1_method_23_code 21 = .ok (.idiv, 1) := dr_dd nD_R_inLowestTerms_0 15 rfl
theorem d_R_inLowestTerms_22 : decode prog_1_method_23_code 22 = .ok (.ireturn, 1) := dr_dd nD_R_inLowestTerms_0 16 rfl
theorem d_R_inLowestTerms_23 : decode prog_1_method_23_code 23 = .ok (.iinc 3 (-1), 3) := dr_dd nD_R_inLowestTerms_0 17 rfl
theorem d_R_inLowestTerms_26 : decode prog_1_method_23_code 26 = .ok (.goto (-24), 3) := dr_dd nD_R_inLowestTerms_0 18 rfl
theorem d_R_inLowestTerms_29 : decode prog_1_method_23_code 29 = .ok (.iload_n 0, 1) := dr_dd nD_R_inLowestTerms_0 19 rfl
theorem d_R_inLowestTerms_30 : decode prog_1_method_23_code 30 = .ok (.ireturn, 1) := dr_dd nD_R_inLowestTerms_0 20 rfl
abbrev nL_D_init_0 : List (Nat × Instr × Nat) := [(0, .aload_n 0, 1), (1, .invokespecial 3, 3), (4, .aload_n 0, 1), (5, .iconst 1, 1), (6, .putfield 9, 3), (9, .aload_n 0, 1), (10, .bipush 41, 2), (12, .newarray .int, 2), (14, .putfield 15, 3), (17, .aload_n 0, 1), (18, .iconst 0, 1), (19, .putfield 19, 3), (22, .aload_n 0, 1), (23, .bipush 20, 2), (25, .newarray .int, 2), (27, .putfield 23, 3), (30, .aload_n 0, 1), (31, .bipush 60, 2), (33, .newarray .int, 2), (35, .putfield 26, 3), (38, .aload_n 0, 1), (39, .bipush 60, 2), (41, .newarray .int, 2), (43, .putfield 29, 3), (46, .aload_n 0, 1), (47, .iconst 0, 1), (48, .putfield 32, 3), (51, .aload_n 0, 1), (52, .aload_n 1, 1), (53, .putfield 35, 3), (56, .aload_n 0, 1), (57, .iload_n 2, 1), (58, .putfield 39, 3), (61, .aload_n 0, 1), (62, .getfield 15, 3), (65, .iconst (-1), 1), (66, .invokestatic 42, 3), (69, .aload_n 0, 1), (70, .getfield 23, 3), (73, .iconst (-1), 1)]
theorem nD_D_init_0 : ∀ q ∈ nL_D_init_0, decode prog_2_method_1_code q.1 = .ok (q.2.1, q.2.2) := by decide +kernel
theorem d_D_init_0 : decode prog_2_method_1_code 0 = .ok (.aload_n 0, 1) := dr_dd nD_D_init_0 0 rfl
theorem d_D_init_1 : decode prog_2_method_1_code 1 = .ok (.invokespecial 3, 3) := dr_dd nD_D_init_0 1 rfl
theorem d_D_init_4 : decode prog_2_method_1_code 4 = .ok (.aload_n 0, 1) := dr_dd nD_D_init_0 2 rfl
theorem d_D_init_5 : decode prog_2_method_1_code 5 = .ok (.iconst 1, 1) := dr_dd nD_D_init_0 3 rfl
theorem d_D_init_6 : decode prog_2_method_1_code 6 = .ok (.putfield 9, 3) := dr_dd nD_D_init_0 4 rfl
theorem d_D_init_9 : decode prog_2_method_1_code 9 = .ok (.aload_n 0, 1) := dr_dd nD_D_init_0 5 rfl
theorem d_D_init_10 : decode prog_2_method_1_code 10 = .ok (.bipush 41, 2) := dr_dd nD_D_init_0 6 rfl
theorem d_D_init_12 : decode prog_2_method_1_code 12 = .ok (.newarray .int, 2) := dr_dd nD_D_init_0 7 rfl
theorem d_D_init_14 : decode prog_2_method_1_code 14 = .ok (.putfield 15, 3) := dr_dd nD_D_init_0 8 rfl
theorem d_D_init_17 : decode prog_2_method_1_code 17 = .ok (.aload_n 0, 1) := dr_dd nD_D_init_0 9 rfl
theorem d_D_init_18 : decode prog_2_method_1_code 18 = .ok (.iconst 0, 1) := dr_dd nD_D_init_0 10 rfl
theorem d_D_init_19 : decode prog_2_method_1_code 19 = .ok (.putfield 19, 3) := dr_dd nD_D_init_0 11 rfl
theorem d_D_init_22 : decode prog_2_method_1_code 22 = .ok (.aload_n 0, 1) := dr_dd nD_D_init_0 12 rfl
theorem d_D_init_23 : decode prog_2_method_1_code 23 = .ok (.bipush 20, 2) := dr_dd nD_D_init_0 13 rfl
theorem d_D_init_25 : decode prog_2_method_1_code 25 = .ok (.newarray .int, 2) := dr_dd nD_D_init_0 14 rfl
theorem d_D_init_27 : decode prog_2_method_1_code 27 = .ok (.putfield 23, 3) := dr_dd nD_D_init_0 15 rfl
theorem d_D_init_30 : decode prog_2_method_1_code 30 = .ok (.aload_n 0, 1) := dr_dd nD_D_init_0 16 rfl
theorem d_D_init_31 : decode prog_2_method_1_code 31 = .ok (.bipush 60, 2) := dr_dd nD_D_init_0 17 rfl
theorem d_D_init_33 : decode prog_2_method_1_code 33 = .ok (.newarray .int, 2) := dr_dd nD_D_init_0 18 rfl
theorem d_D_init_35 : decode prog_2_method_1_code 35 = .ok (.putfield 26, 3) := dr_dd nD_D_init_0 19 rfl
theorem d_D_init_38 : decode prog_2_method_1_code 38 = .ok (.aload_n 0, 1) := dr_dd nD_D_init_0 20 rfl
theorem d_D_init_39 : decode prog_2_method_1_code 39 = .ok (.bipush 60, 2) := dr_dd nD_D_init_0 21 rfl
theorem d_D_init_41 : decode prog_2_method_1_code 41 = .ok (.newarray .int, 2) := dr_dd nD_D_init_0 22 rfl
theorem d_D_init_43 : decode prog_2_method_1_code 43 = .ok (.putfield 29, 3) := dr_dd nD_D_init_0 23 rfl
theorem d_D_init_46 : decode prog_2_method_1_code 46 = .ok (.aload_n 0, 1) := dr_dd nD_D_init_0 24 rfl
theorem d_D_init_47 : decode prog_2_method_1_code 47 = .ok (.iconst 0, 1) := dr_dd nD_D_init_0 25 rfl
theorem d_D_init_48 : decode prog_2_method_1_code 48 = .ok (.putfield 32, 3) := dr_dd nD_D_init_0 26 rfl
theorem d_D_init_51 : decode prog_2_method_1_code 51 = .ok (.aload_n 0, 1) := dr_dd nD_D_init_0 27 rfl
theorem d_D_init_52 : decode prog_2_method_1_code 52 = .ok (.aload_n 1, 1) := dr_dd nD_D_init_0 28 rfl
theorem d_D_init_53 : decode prog_2_method_1_code 53 = .ok (.putfield 35, 3) := dr_dd nD_D_init_0 29 rfl
theorem d_D_init_56 : decode prog_2_method_1_code 56 = .ok (.aload_n 0, 1) := dr_dd nD_D_init_0 30 rfl
theorem d_D_init_57 : decode prog_2_method_1_code 57 = .ok (.iload_n 2, 1) := dr_dd nD_D_init_0 31 rfl
theorem d_D_init_58 : decode prog_2_method_1_code 58 = .ok (.putfield 39, 3) := dr_dd nD_D_init_0 32 rfl
theorem d_D_init_61 : decode prog_2_method_1_code 61 = .ok (.aload_n 0, 1) := dr_dd nD_D_init_0 33 rfl
theorem d_D_init_62 : decode prog_2_method_1_code 62 = .ok (.getfield 15, 3) := dr_dd nD_D_init_0 34 rfl
theorem d_D_init_65 : decode prog_2_method_1_code 65 = .ok (.iconst (-1), 1) := dr_dd nD_D_init_0 35 rfl
theorem d_D_init_66 : decode prog_2_method_1_code 66 = .ok (.invokestatic 42, 3) := dr_dd nD_D_init_0 36 rfl
theorem d_D_init_69 : decode prog_2_method_1_code 69 = .ok (.aload_n 0, 1) := dr_dd nD_D_init_0 37 rfl
theorem d_D_init_70 : decode prog_2_method_1_code 70 = .ok (.getfield 23, 3) := dr_dd nD_D_init_0 38 rfl
theorem d_D_init_73 : decode prog_2_method_1_code 73 = .ok (.iconst (-1), 1) := dr_dd nD_D_init_0 39 rfl
abbrev nL_D_init_1 : List (Nat × Instr × Nat) := [(74, .invokestatic 42, 3), (77, .return_, 1)]
theorem nD_D_init_1 : ∀ q ∈ nL_D_init_1, decode prog_2_method_1_code q.1 = .ok (q.2.1, q.2.2) := by decide +kernel
theorem d_D_init_74 : decode prog_2_method_1_code 74 = .ok (.invokestatic 42, 3) := dr_dd nD_D_init_1 0 rfl
theorem d_D_init_77 : decode prog_2_method_1_code 77 = .ok (.return_, 1) := dr_dd nD_D_init_1 1 rfl
abbrev nL_D_drillSecond_0 : List (Nat × Instr × Nat) := [(0, .iload_n 1, 1), (1, .aload_n 0, 1), (2, .getfield 39, 3), (5, .isub, 1), (6, .ireturn, 1)]
theorem nD_D_drillSecond_0 : ∀ q ∈ nL_D_drillSecond_0, decode prog_2_method_2_code q.1 = .ok (q.2.1, q.2.2) := by decide +kernel
theorem d_D_drillSecond_0 : decode prog_2_method_2_code 0 = .ok (.iload_n 1, 1) := dr_dd nD_D_drillSecond_0 0 rfl
theorem d_D_drillSecond_1 : decode prog_2_method_2_code 1 = .ok (.aload_n 0, 1) := dr_dd nD_D_drillSecond_0 1 rfl
theorem d_D_drillSecond_2 : decode prog_2_method_2_code 2 = .ok (.getfield 39, 3) := dr_dd nD_D_drillSecond_0 2 rfl
theorem d_D_drillSecond_5 : decode prog_2_method_2_code 5 = .ok (.isub, 1) := dr_dd nD_D_drillSecond_0 3 rfl
theorem d_D_drillSecond_6 : decode prog_2_method_2_code 6 = .ok (.ireturn, 1) := dr_dd nD_D_drillSecond_0 4 rfl
abbrev nL_D_beginOf_0 : List (Nat × Instr × Nat) := [(0, .iload_n 1, 1), (1, .ifCond .lt 21, 3), (4, .iload_n 1, 1), (5, .aload_n 0, 1), (6, .getfield 15, 3), (9, .arraylength, 1), (10, .if_icmp .ge 12, 3), (13, .aload_n 0, 1), (14, .getfield 15, 3), (17, .iload_n 1, 1), (18, .iaload, 1), (19, .goto 4, 3), (22, .iconst (-1), 1), (23, .ireturn, 1)]
theorem nD_D_beginOf_0 : ∀ q ∈ nL_D_beginOf_0, decode prog_2_method_3_code q.1 = .ok (q.2.1, q.2.2) := by decide +kernel
theorem d_D_beginOf_0 : decode prog_2_method_3_code 0 = .ok (.iload_n 1, 1) := dr_dd nD_D_beginOf_0 0 rfl
theorem d_D_beginOf_1 : decode prog_2_method_3_code 1 = .ok (.ifCond .lt 21, 3) := dr_dd nD_D_beginOf_0 1 rfl
theorem d_D_beginOf_4 : decode prog_2_method_3_code 4 = .ok (.iload_n 1, 1) := dr_dd nD_D_beginOf_0 2 rfl
theorem d_D_beginOf_5 : decode prog_2_method_3_code 5 = .ok (.aload_n 0, 1) := dr_dd nD_D_beginOf_0 3 rfl
theorem d_D_beginOf_6 : decode prog_2_method_3_code 6 = .ok (.getfield 15, 3) := dr_dd nD_D_beginOf_0 4 rfl
theorem d_D_beginOf_9 : decode prog_2_method_3_code 9 = .ok (.arraylength, 1) := dr_dd nD_D_beginOf_0 5 rfl
theorem d_D_beginOf_10 : decode prog_2_method_3_code 10 = .ok (.if_icmp .ge 12, 3) := dr_dd nD_D_beginOf_0 6 rfl
theorem d_D_beginOf_13 : decode prog_2_method_3_code 13 = .ok (.aload_n 0, 1) := dr_dd nD_D_beginOf_0 7 rfl
theorem d_D_beginOf_14 : decode prog_2_method_3_code 14 = .ok (.getfield 15, 3) := dr_dd nD_D_beginOf_0 8 rfl
theorem d_D_beginOf_17 : decode prog_2_method_3_code 17 = .ok (.iload_n 1, 1) := dr_dd nD_D_beginOf_0 9 rfl
theorem d_D_beginOf_18 : decode prog_2_method_3_code 18 = .ok (.iaload, 1) := dr_dd nD_D_beginOf_0 10 rfl
theorem d_D_beginOf_19 : decode prog_2_method_3_code 19 = .ok (.goto 4, 3) := dr_dd nD_D_beginOf_0 11 rfl
theorem d_D_beginOf_22 : decode prog_2_method_3_code 22 = .ok (.iconst (-1), 1) := dr_dd nD_D_beginOf_0 12 rfl
theorem d_D_beginOf_23 : decode prog_2_method_3_code 23 = .ok (.ireturn, 1) := dr_dd nD_D_beginOf_0 13 rfl
abbrev nL_D_hasRoomForAct_0 : List (Nat × Instr × Nat) := [(0, .aload_n 0, 1), (1, .getfield 32, 3), (4, .bipush 60, 2), (6, .if_icmp .ge 7, 3), (9, .iconst 1, 1), (10, .goto 4, 3), (13, .iconst 0, 1), (14, .ireturn, 1)]
theorem nD_D_hasRoomForAct_0 : ∀ q ∈ nL_D_hasRoomForAct_0, decode prog_2_method_4_code q.1 = .ok (q.2.1, q.2.2) := by decide +kernel
theorem d_D_hasRoomForAct_0 : decode prog_2_method_4_code 0 = .ok (.aload_n 0, 1) := dr_dd nD_D_hasRoomForAct_0 0 rfl
theorem d_D_hasRoomForAct_1 : decode prog_2_method_4_code 1 = .ok (.getfield 32, 3) := dr_dd nD_D_hasRoomForAct_0 1 rfl
theorem d_D_hasRoomForAct_4 : decode prog_2_method_4_code 4 = .ok (.bipush 60, 2) := dr_dd nD_D_hasRoomForAct_0 2 rfl
theorem d_D_hasRoomForAct_6 : decode prog_2_method_4_code 6 = .ok (.if_icmp .ge 7, 3) := dr_dd nD_D_hasRoomForAct_0 3 rfl
theorem d_D_hasRoomForAct_9 : decode prog_2_method_4_code 9 = .ok (.iconst 1, 1) := dr_dd nD_D_hasRoomForAct_0 4 rfl
theorem d_D_hasRoomForAct_10 : decode prog_2_method_4_code 10 = .ok (.goto 4, 3) := dr_dd nD_D_hasRoomForAct_0 5 rfl
theorem d_D_hasRoomForAct_13 : decode prog_2_method_4_code 13 = .ok (.iconst 0, 1) := dr_dd nD_D_hasRoomForAct_0 6 rfl
theorem d_D_hasRoomForAct_14 : decode prog_2_method_4_code 14 = .ok (.ireturn, 1) := dr_dd nD_D_hasRoomForAct_0 7 rfl
abbrev nL_D_noteAct_0 : List (Nat × Instr × Nat) := [(0, .iload_n 1, 1), (1, .ifCond .lt 28, 3), (4, .iload_n 1, 1), (5, .aload_n 0, 1), (6, .getfield 23, 3), (9, .arraylength, 1), (10, .if_icmp .ge 19, 3), (13, .aload_n 0, 1), (14, .getfield 32, 3), (17, .ifCond .lt 12, 3), (20, .aload_n 0, 1), (21, .getfield 32, 3), (24, .bipush 60, 2), (26, .if_icmp .lt 4, 3), (29, .return_, 1), (30, .aload_n 0, 1), (31, .iload_n 2, 1), (32, .invokevirtual 48, 3), (35, .istore_n 3, 1), (36, .aload_n 0, 1), (37, .getfield 26, 3), (40, .aload_n 0, 1), (41, .getfield 32, 3), (44, .iload_n 1, 1), (45, .iastore, 1), (46, .aload_n 0, 1), (47, .getfield 29, 3), (50, .aload_n 0, 1), (51, .getfield 32, 3), (54, .iload_n 3, 1), (55, .iastore, 1), (56, .aload_n 0, 1), (57, .dup, 1), (58, .getfield 32, 3), (61, .iconst 1, 1), (62, .iadd, 1), (63, .putfield 32, 3), (66, .aload_n 0, 1), (67, .getfield 23, 3), (70, .iload_n 1, 1)]
theorem nD_D_noteAct_0 : ∀ q ∈ nL_D_noteAct_0, decode prog_2_method_5_code q.1 = .ok (q.2.1, q.2.2) := by decide +kernel
theorem d_D_noteAct_0 : decode prog_2_method_5_code 0 = .ok (.iload_n 1, 1) := dr_dd nD_D_noteAct_0 0 rfl
theorem d_D_noteAct_1 : decode prog_2_method_5_code 1 = .ok (.ifCond .lt 28, 3) := dr_dd nD_D_noteAct_0 1 rfl
theorem d_D_noteAct_4 : decode prog_2_method_5_code 4 = .ok (.iload_n 1, 1) := dr_dd nD_D_noteAct_0 2 rfl
theorem d_D_noteAct_5 : decode prog_2_method_5_code 5 = .ok (.aload_n 0, 1) := dr_dd nD_D_noteAct_0 3 rfl
theorem d_D_noteAct_6 : decode prog_2_method_5_code 6 = .ok (.getfield 23, 3) := dr_dd nD_D_noteAct_0 4 rfl
theorem d_D_noteAct_9 : decode prog_2_method_5_code 9 = .ok (.arraylength, 1) := dr_dd nD_D_noteAct_0 5 rfl
theorem d_D_noteAct_10 : decode prog_2_method_5_code 10 = .ok (.if_icmp .ge 19, 3) := dr_dd nD_D_noteAct_0 6 rfl
theorem d_D_noteAct_13 : decode prog_2_method_5_code 13 = .ok (.aload_n 0, 1) := dr_dd nD_D_noteAct_0 7 rfl
theorem d_D_noteAct_14 : decode prog_2_method_5_code 14 = .ok (.getfield 32, 3) := dr_dd nD_D_noteAct_0 8 rfl
theorem d_D_noteAct_17 : decode prog_2_method_5_code 17 = .ok (.ifCond .lt 12, 3) := dr_dd nD_D_noteAct_0 9 rfl
theorem d_D_noteAct_20 : decode prog_2_method_5_code 20 = .ok (.aload_n 0, 1) := dr_dd nD_D_noteAct_0 10 rfl
theorem d_D_noteAct_21 : decode prog_2_method_5_code 21 = .ok (.getfield 32, 3) := dr_dd nD_D_noteAct_0 11 rfl
theorem d_D_noteAct_24 : decode prog_2_method_5_code 24 = .ok (.bipush 60, 2) := dr_dd nD_D_noteAct_0 12 rfl
theorem d_D_noteAct_26 : decode prog_2_method_5_code 26 = .ok (.if_icmp .lt 4, 3) := dr_dd nD_D_noteAct_0 13 rfl
theorem d_D_noteAct_29 : decode prog_2_method_5_code 29 = .ok (.return_, 1) := dr_dd nD_D_noteAct_0 14 rfl
theorem d_D_noteAct_30 : decode prog_2_method_5_code 30 = .ok (.aload_n 0, 1) := dr_dd nD_D_noteAct_0 15 rfl
theorem d_D_noteAct_31 : decode prog_2_method_5_code 31 = .ok (.iload_n 2, 1) := dr_dd nD_D_noteAct_0 16 rfl
theorem d_D_noteAct_32 : decode prog_2_method_5_code 32 = .ok (.invokevirtual 48, 3) := dr_dd nD_D_noteAct_0 17 rfl
theorem d_D_noteAct_35 : decode prog_2_method_5_code 35 = .ok (.istore_n 3, 1) := dr_dd nD_D_noteAct_0 18 rfl
theorem d_D_noteAct_36 : decode prog_2_method_5_code 36 = .ok (.aload_n 0, 1) := dr_dd nD_D_noteAct_0 19 rfl
theorem d_D_noteAct_37 : decode prog_2_method_5_code 37 = .ok (.getfield 26, 3) := dr_dd nD_D_noteAct_0 20 rfl
theorem d_D_noteAct_40 : decode prog_2_method_5_code 40 = .ok (.aload_n 0, 1) := dr_dd nD_D_noteAct_0 21 rfl
theorem d_D_noteAct_41 : decode prog_2_method_5_code 41 = .ok (.getfield 32, 3) := dr_dd nD_D_noteAct_0 22 rfl
theorem d_D_noteAct_44 : decode prog_2_method_5_code 44 = .ok (.iload_n 1, 1) := dr_dd nD_D_noteAct_0 23 rfl
theorem d_D_noteAct_45 : decode prog_2_method_5_code 45 = .ok (.iastore, 1) := dr_dd nD_D_noteAct_0 24 rfl
theorem d_D_noteAct_46 : decode prog_2_method_5_code 46 = .ok (.aload_n 0, 1) := dr_dd nD_D_noteAct_0 25 rfl
theorem d_D_noteAct_47 : decode prog_2_method_5_code 47 = .ok (.getfield 29, 3) := dr_dd nD_D_noteAct_0 26 rfl
theorem d_D_noteAct_50 : decode prog_2_method_5_code 50 = .ok (.aload_n 0, 1) := dr_dd nD_D_noteAct_0 27 rfl
theorem d_D_noteAct_51 : decode prog_2_method_5_code 51 = .ok (.getfield 32, 3) := dr_dd nD_D_noteAct_0 28 rfl
theorem d_D_noteAct_54 : decode prog_2_method_5_code 54 = .ok (.iload_n 3, 1) := dr_dd nD_D_noteAct_0 29 rfl
theorem d_D_noteAct_55 : decode prog_2_method_5_code 55 = .ok (.iastore, 1) := dr_dd nD_D_noteAct_0 30 rfl
theorem d_D_noteAct_56 : decode prog_2_method_5_code 56 = .ok (.aload_n 0, 1) := dr_dd nD_D_noteAct_0 31 rfl
theorem d_D_noteAct_57 : decode prog_2_method_5_code 57 = .ok (.dup, 1) := dr_dd nD_D_noteAct_0 32 rfl
theorem d_D_noteAct_58 : decode prog_2_method_5_code 58 = .ok (.getfield 32, 3) := dr_dd nD_D_noteAct_0 33 rfl
theorem d_D_noteAct_61 : decode prog_2_method_5_code 61 = .ok (.iconst 1, 1) := dr_dd nD_D_noteAct_0 34 rfl
theorem d_D_noteAct_62 : decode prog_2_method_5_code 62 = .ok (.iadd, 1) := dr_dd nD_D_noteAct_0 35 rfl
theorem d_D_noteAct_63 : decode prog_2_method_5_code 63 = .ok (.putfield 32, 3) := dr_dd nD_D_noteAct_0 36 rfl
theorem d_D_noteAct_66 : decode prog_2_method_5_code 66 = .ok (.aload_n 0, 1) := dr_dd nD_D_noteAct_0 37 rfl
theorem d_D_noteAct_67 : decode prog_2_method_5_code 67 = .ok (.getfield 23, 3) := dr_dd nD_D_noteAct_0 38 rfl
theorem d_D_noteAct_70 : decode prog_2_method_5_code 70 = .ok (.iload_n 1, 1) := dr_dd nD_D_noteAct_0 39 rfl
abbrev nL_D_noteAct_1 : List (Nat × Instr × Nat) := [(71, .iaload, 1), (72, .iconst (-1), 1), (73, .if_icmp .ne 10, 3), (76, .aload_n 0, 1), (77, .getfield 23, 3), (80, .iload_n 1, 1), (81, .iload_n 3, 1), (82, .iastore, 1), (83, .return_, 1)]
theorem nD_D_noteAct_1 : ∀ q ∈ nL_D_noteAct_1, decode prog_2_method_5_code q.1 = .ok (q.2.1, q.2.2) := by decide +kernel
theorem d_D_noteAct_71 : decode prog_2_method_5_code 71 = .ok (.iaload, 1) := dr_dd nD_D_noteAct_1 0 rfl
theorem d_D_noteAct_72 : decode prog_2_method_5_code 72 = .ok (.iconst (-1), 1) := dr_dd nD_D_noteAct_1 1 rfl
theorem d_D_noteAct_73 : decode prog_2_method_5_code 73 = .ok (.if_icmp .ne 10, 3) := dr_dd nD_D_noteAct_1 2 rfl
theorem d_D_noteAct_76 : decode prog_2_method_5_code 76 = .ok (.aload_n 0, 1) := dr_dd nD_D_noteAct_1 3 rfl
theorem d_D_noteAct_77 : decode prog_2_method_5_code 77 = .ok (.getfield 23, 3) := dr_dd nD_D_noteAct_1 4 rfl
theorem d_D_noteAct_80 : decode prog_2_method_5_code 80 = .ok (.iload_n 1, 1) := dr_dd nD_D_noteAct_1 5 rfl
theorem d_D_noteAct_81 : decode prog_2_method_5_code 81 = .ok (.iload_n 3, 1) := dr_dd nD_D_noteAct_1 6 rfl
theorem d_D_noteAct_82 : decode prog_2_method_5_code 82 = .ok (.iastore, 1) := dr_dd nD_D_noteAct_1 7 rfl
theorem d_D_noteAct_83 : decode prog_2_method_5_code 83 = .ok (.return_, 1) := dr_dd nD_D_noteAct_1 8 rfl
abbrev nL_D_beginDueEvents_0 : List (Nat × Instr × Nat) := [(0, .aload_n 0, 1), (1, .iload_n 1, 1), (2, .invokevirtual 48, 3), (5, .istore_n 2, 1), (6, .iconst 0, 1), (7, .istore_n 3, 1), (8, .iconst 1, 1), (9, .istore 4, 2), (11, .iload 4, 2), (13, .aload_n 0, 1), (14, .getfield 15, 3), (17, .arraylength, 1), (18, .if_icmp .ge 58, 3), (21, .aload_n 0, 1), (22, .getfield 35, 3), (25, .iload 4, 2), (27, .invokevirtual 52, 3), (30, .ifCond .eq 40, 3), (33, .aload_n 0, 1), (34, .getfield 15, 3), (37, .iload 4, 2), (39, .iaload, 1), (40, .iconst (-1), 1), (41, .if_icmp .ne 29, 3), (44, .aload_n 0, 1), (45, .iload 4, 2), (47, .invokevirtual 58, 3), (50, .istore 5, 2), (52, .iload 5, 2), (54, .iload_n 2, 1), (55, .if_icmp .gt 15, 3), (58, .aload_n 0, 1), (59, .getfield 15, 3), (62, .iload 4, 2), (64, .iload 5, 2), (66, .iastore, 1), (67, .iinc 3 1, 3), (70, .iinc 4 1, 3), (73, .goto (-62), 3), (76, .aload_n 0, 1)]
theorem nD_D_beginDueEvents_0 : ∀ q ∈ nL_D_beginDueEvents_0, decode prog_2_method_6_code q.1 = .ok (q.2.1, q.2.2) := by decide +kernel
theorem d_D_beginDueEvents_0 : decode prog_2_method_6_code 0 = .ok (.aload_n 0, 1) := dr_dd nD_D_beginDueEvents_0 0 rfl
theorem d_D_beginDueEvents_1 : decode prog_2_method_6_code 1 = .ok (.iload_n 1, 1) := dr_dd nD_D_beginDueEvents_0 1 rfl
theorem d_D_beginDueEvents_2 : decode prog_2_method_6_code 2 = .ok (.invokevirtual 48, 3) := dr_dd nD_D_beginDueEvents_0 2 rfl
theorem d_D_beginDueEvents_5 : decode prog_2_method_6_code 5 = .ok (.istore_n 2, 1) := dr_dd nD_D_beginDueEvents_0 3 rfl
theorem d_D_beginDueEvents_6 : decode prog_2_method_6_code 6 = .ok (.iconst 0, 1) := dr_dd nD_D_beginDueEvents_0 4 rfl
theorem d_D_beginDueEvents_7 : decode prog_2_method_6_code 7 = .ok (.istore_n 3, 1) := dr_dd nD_D_beginDueEvents_0 5 rfl
theorem d_D_beginDueEvents_8 : decode prog_2_method_6_code 8 = .ok (.iconst 1, 1) := dr_dd nD_D_beginDueEvents_0 6 rfl
theorem d_D_beginDueEvents_9 : decode prog_2_method_6_code 9 = .ok (.istore 4, 2) := dr_dd nD_D_beginDueEvents_0 7 rfl
theorem d_D_beginDueEvents_11 : decode prog_2_method_6_code 11 = .ok (.iload 4, 2) := dr_dd nD_D_beginDueEvents_0 8 rfl
theorem d_D_beginDueEvents_13 : decode prog_2_method_6_code 13 = .ok (.aload_n 0, 1) := dr_dd nD_D_beginDueEvents_0 9 rfl
theorem d_D_beginDueEvents_14 : decode prog_2_method_6_code 14 = .ok (.getfield 15, 3) := dr_dd nD_D_beginDueEvents_0 10 rfl
theorem d_D_beginDueEvents_17 : decode prog_2_method_6_code 17 = .ok (.arraylength, 1) := dr_dd nD_D_beginDueEvents_0 11 rfl
theorem d_D_beginDueEvents_18 : decode prog_2_method_6_code 18 = .ok (.if_icmp .ge 58, 3) := dr_dd nD_D_beginDueEvents_0 12 rfl
theorem d_D_beginDueEvents_21 : decode prog_2_method_6_code 21 = .ok (.aload_n 0, 1) := dr_dd nD_D_beginDueEvents_0 13 rfl
theorem d_D_beginDueEvents_22 : decode prog_2_method_6_code 22 = .ok (.getfield 35, 3) := dr_dd nD_D_beginDueEvents_0 14 rfl
theorem d_D_beginDueEvents_25 : decode prog_2_method_6_code 25 = .ok (.iload 4, 2) := dr_dd nD_D_beginDueEvents_0 15 rfl
theorem d_D_beginDueEvents_27 : decode prog_2_method_6_code 27 = .ok (.invokevirtual 52, 3) := dr_dd nD_D_beginDueEvents_0 16 rfl
theorem d_D_beginDueEvents_30 : decode prog_2_method_6_code 30 = .ok (.ifCond .eq 40, 3) := dr_dd nD_D_beginDueEvents_0 17 rfl
theorem d_D_beginDueEvents_33 : decode prog_2_method_6_code 33 = .ok (.aload_n 0, 1) := dr_dd nD_D_beginDueEvents_0 18 rfl
theorem d_D_beginDueEvents_34 : decode prog_2_method_6_code 34 = .ok (.getfield 15, 3) := dr_dd nD_D_beginDueEvents_0 19 rfl
theorem d_D_beginDueEvents_37 : decode prog_2_method_6_code 37 = .ok (.iload 4, 2) := dr_dd nD_D_beginDueEvents_0 20 rfl
theorem d_D_beginDueEvents_39 : decode prog_2_method_6_code 39 = .ok (.iaload, 1) := dr_dd nD_D_beginDueEvents_0 21 rfl
theorem d_D_beginDueEvents_40 : decode prog_2_method_6_code 40 = .ok (.iconst (-1), 1) := dr_dd nD_D_beginDueEvents_0 22 rfl
theorem d_D_beginDueEvents_41 : decode prog_2_method_6_code 41 = .ok (.if_icmp .ne 29, 3) := dr_dd nD_D_beginDueEvents_0 23 rfl
theorem d_D_beginDueEvents_44 : decode prog_2_method_6_code 44 = .ok (.aload_n 0, 1) := dr_dd nD_D_beginDueEvents_0 24 rfl
theorem d_D_beginDueEvents_45 : decode prog_2_method_6_code 45 = .ok (.iload 4, 2) := dr_dd nD_D_beginDueEvents_0 25 rfl
theorem d_D_beginDueEvents_47 : decode prog_2_method_6_code 47 = .ok (.invokevirtual 58, 3) := dr_dd nD_D_beginDueEvents_0 26 rfl
theorem d_D_beginDueEvents_50 : decode prog_2_method_6_code 50 = .ok (.istore 5, 2) := dr_dd nD_D_beginDueEvents_0 27 rfl
theorem d_D_beginDueEvents_52 : decode prog_2_method_6_code 52 = .ok (.iload 5, 2) := dr_dd nD_D_beginDueEvents_0 28 rfl
theorem d_D_beginDueEvents_54 : decode prog_2_method_6_code 54 = .ok (.iload_n 2, 1) := dr_dd nD_D_beginDueEvents_0 29 rfl
theorem d_D_beginDueEvents_55 : decode prog_2_method_6_code 55 = .ok (.if_icmp .gt 15, 3) := dr_dd nD_D_beginDueEvents_0 30 rfl
theorem d_D_beginDueEvents_58 : decode prog_2_method_6_code 58 = .ok (.aload_n 0, 1) := dr_dd nD_D_beginDueEvents_0 31 rfl
theorem d_D_beginDueEvents_59 : decode prog_2_method_6_code 59 = .ok (.getfield 15, 3) := dr_dd nD_D_beginDueEvents_0 32 rfl
theorem d_D_beginDueEvents_62 : decode prog_2_method_6_code 62 = .ok (.iload 4, 2) := dr_dd nD_D_beginDueEvents_0 33 rfl
theorem d_D_beginDueEvents_64 : decode prog_2_method_6_code 64 = .ok (.iload 5, 2) := dr_dd nD_D_beginDueEvents_0 34 rfl
theorem d_D_beginDueEvents_66 : decode prog_2_method_6_code 66 = .ok (.iastore, 1) := dr_dd nD_D_beginDueEvents_0 35 rfl
theorem d_D_beginDueEvents_67 : decode prog_2_method_6_code 67 = .ok (.iinc 3 1, 3) := dr_dd nD_D_beginDueEvents_0 36 rfl
theorem d_D_beginDueEvents_70 : decode prog_2_method_6_code 70 = .ok (.iinc 4 1, 3) := dr_dd nD_D_beginDueEvents_0 37 rfl
theorem d_D_beginDueEvents_73 : decode prog_2_method_6_code 73 = .ok (.goto (-62), 3) := dr_dd nD_D_beginDueEvents_0 38 rfl
theorem d_D_beginDueEvents_76 : decode prog_2_method_6_code 76 = .ok (.aload_n 0, 1) := dr_dd nD_D_beginDueEvents_0 39 rfl
abbrev nL_D_beginDueEvents_1 : List (Nat × Instr × Nat) := [(77, .dup, 1), (78, .getfield 19, 3), (81, .iload_n 3, 1), (82, .iadd, 1), (83, .putfield 19, 3), (86, .iload_n 3, 1), (87, .ireturn, 1)]
theorem nD_D_beginDueEvents_1 : ∀ q ∈ nL_D_beginDueEvents_1, decode prog_2_method_6_code q.1 = .ok (q.2.1, q.2.2) := by decide +kernel
theorem d_D_beginDueEvents_77 : decode prog_2_method_6_code 77 = .ok (.dup, 1) := dr_dd nD_D_beginDueEvents_1 0 rfl
theorem d_D_beginDueEvents_78 : decode prog_2_method_6_code 78 = .ok (.getfield 19, 3) := dr_dd nD_D_beginDueEvents_1 1 rfl
theorem d_D_beginDueEvents_81 : decode prog_2_method_6_code 81 = .ok (.iload_n 3, 1) := dr_dd nD_D_beginDueEvents_1 2 rfl
theorem d_D_beginDueEvents_82 : decode prog_2_method_6_code 82 = .ok (.iadd, 1) := dr_dd nD_D_beginDueEvents_1 3 rfl
theorem d_D_beginDueEvents_83 : decode prog_2_method_6_code 83 = .ok (.putfield 19, 3) := dr_dd nD_D_beginDueEvents_1 4 rfl
theorem d_D_beginDueEvents_86 : decode prog_2_method_6_code 86 = .ok (.iload_n 3, 1) := dr_dd nD_D_beginDueEvents_1 5 rfl
theorem d_D_beginDueEvents_87 : decode prog_2_method_6_code 87 = .ok (.ireturn, 1) := dr_dd nD_D_beginDueEvents_1 6 rfl
abbrev nL_D_dueSecond_0 : List (Nat × Instr × Nat) := [(0, .aload_n 0, 1), (1, .getfield 35, 3), (4, .getfield 61, 3), (7, .iload_n 1, 1), (8, .iaload, 1), (9, .istore_n 2, 1), (10, .aload_n 0, 1), (11, .aload_n 0, 1), (12, .getfield 35, 3), (15, .getfield 64, 3), (18, .iload_n 1, 1), (19, .iaload, 1), (20, .invokevirtual 67, 3), (23, .istore_n 3, 1), (24, .iload_n 3, 1), (25, .iconst (-1), 1), (26, .if_icmp .ne 7, 3), (29, .iload_n 2, 1), (30, .goto 18, 3), (33, .iload_n 3, 1), (34, .aload_n 0, 1), (35, .getfield 35, 3), (38, .getfield 70, 3), (41, .iload_n 1, 1), (42, .iaload, 1), (43, .iadd, 1), (44, .iload_n 2, 1), (45, .invokestatic 73, 3), (48, .ireturn, 1)]
theorem nD_D_dueSecond_0 : ∀ q ∈ nL_D_dueSecond_0, decode prog_2_method_7_code q.1 = .ok (q.2.1, q.2.2) := by decide +kernel
theorem d_D_dueSecond_0 : decode prog_2_method_7_code 0 = .ok (.aload_n 0, 1) := dr_dd nD_D_dueSecond_0 0 rfl
theorem d_D_dueSecond_1 : decode prog_2_method_7_code 1 = .ok (.getfield 35, 3) := dr_dd nD_D_dueSecond_0 1 rfl
theorem d_D_dueSecond_4 : decode prog_2_method_7_code 4 = .ok (.getfield 61, 3) := dr_dd nD_D_dueSecond_0 2 rfl
theorem d_D_dueSecond_7 : decode prog_2_method_7_code 7 = .ok (.iload_n 1, 1) := dr_dd nD_D_dueSecond_0 3 rfl
theorem d_D_dueSecond_8 : decode prog_2_method_7_code 8 = .ok (.iaload, 1) := dr_dd nD_D_dueSecond_0 4 rfl
theorem d_D_dueSecond_9 : decode prog_2_method_7_code 9 = .ok (.istore_n 2, 1) := dr_dd nD_D_dueSecond_0 5 rfl
theorem d_D_dueSecond_10 : decode prog_2_method_7_code 10 = .ok (.aload_n 0, 1) := dr_dd nD_D_dueSecond_0 6 rfl
theorem d_D_dueSecond_11 : decode prog_2_method_7_code 11 = .ok (.aload_n 0, 1) := dr_dd nD_D_dueSecond_0 7 rfl
theorem d_D_dueSecond_12 : decode prog_2_method_7_code 12 = .ok (.getfield 35, 3) := dr_dd nD_D_dueSecond_0 8 rfl
theorem d_D_dueSecond_15 : decode prog_2_method_7_code 15 = .ok (.getfield 64, 3) := dr_dd nD_D_dueSecond_0 9 rfl
theorem d_D_dueSecond_18 : decode prog_2_method_7_code 18 = .ok (.iload_n 1, 1) := dr_dd nD_D_dueSecond_0 10 rfl
theorem d_D_dueSecond_19 : decode prog_2_method_7_code 19 = .ok (.iaload, 1) := dr_dd nD_D_dueSecond_0 11 rfl
theorem d_D_dueSecond_20 : decode prog_2_method_7_code 20 = .ok (.invokevirtual 67, 3) := dr_dd nD_D_dueSecond_0 12 rfl
theorem d_D_dueSecond_23 : decode prog_2_method_7_code 23 = .ok (.istore_n 3, 1) := dr_dd nD_D_dueSecond_0 13 rfl
theorem d_D_dueSecond_24 : decode prog_2_method_7_code 24 = .ok (.iload_n 3, 1) := dr_dd nD_D_dueSecond_0 14 rfl
theorem d_D_dueSecond_25 : decode prog_2_method_7_code 25 = .ok (.iconst (-1), 1) := dr_dd nD_D_dueSecond_0 15 rfl
theorem d_D_dueSecond_26 : decode prog_2_method_7_code 26 = .ok (.if_icmp .ne 7, 3) := dr_dd nD_D_dueSecond_0 16 rfl
theorem d_D_dueSecond_29 : decode prog_2_method_7_code 29 = .ok (.iload_n 2, 1) := dr_dd nD_D_dueSecond_0 17 rfl
theorem d_D_dueSecond_30 : decode prog_2_method_7_code 30 = .ok (.goto 18, 3) := dr_dd nD_D_dueSecond_0 18 rfl
theorem d_D_dueSecond_33 : decode prog_2_method_7_code 33 = .ok (.iload_n 3, 1) := dr_dd nD_D_dueSecond_0 19 rfl
theorem d_D_dueSecond_34 : decode prog_2_method_7_code 34 = .ok (.aload_n 0, 1) := dr_dd nD_D_dueSecond_0 20 rfl
theorem d_D_dueSecond_35 : decode prog_2_method_7_code 35 = .ok (.getfield 35, 3) := dr_dd nD_D_dueSecond_0 21 rfl
theorem d_D_dueSecond_38 : decode prog_2_method_7_code 38 = .ok (.getfield 70, 3) := dr_dd nD_D_dueSecond_0 22 rfl
theorem d_D_dueSecond_41 : decode prog_2_method_7_code 41 = .ok (.iload_n 1, 1) := dr_dd nD_D_dueSecond_0 23 rfl
theorem d_D_dueSecond_42 : decode prog_2_method_7_code 42 = .ok (.iaload, 1) := dr_dd nD_D_dueSecond_0 24 rfl
theorem d_D_dueSecond_43 : decode prog_2_method_7_code 43 = .ok (.iadd, 1) := dr_dd nD_D_dueSecond_0 25 rfl
theorem d_D_dueSecond_44 : decode prog_2_method_7_code 44 = .ok (.iload_n 2, 1) := dr_dd nD_D_dueSecond_0 26 rfl
theorem d_D_dueSecond_45 : decode prog_2_method_7_code 45 = .ok (.invokestatic 73, 3) := dr_dd nD_D_dueSecond_0 27 rfl
theorem d_D_dueSecond_48 : decode prog_2_method_7_code 48 = .ok (.ireturn, 1) := dr_dd nD_D_dueSecond_0 28 rfl
abbrev nL_D_firstSecondOf_0 : List (Nat × Instr × Nat) := [(0, .iload_n 1, 1), (1, .ifCond .lt 21, 3), (4, .iload_n 1, 1), (5, .aload_n 0, 1), (6, .getfield 23, 3), (9, .arraylength, 1), (10, .if_icmp .ge 12, 3), (13, .aload_n 0, 1), (14, .getfield 23, 3), (17, .iload_n 1, 1), (18, .iaload, 1), (19, .goto 4, 3), (22, .iconst (-1), 1), (23, .ireturn, 1)]
theorem nD_D_firstSecondOf_0 : ∀ q ∈ nL_D_firstSecondOf_0, decode prog_2_method_8_code q.1 = .ok (q.2.1, q.2.2) := by decide +kernel
theorem d_D_firstSecondOf_0 : decode prog_2_method_8_code 0 = .ok (.iload_n 1, 1) := dr_dd nD_D_firstSecondOf_0 0 rfl
theorem d_D_firstSecondOf_1 : decode prog_2_method_8_code 1 = .ok (.ifCond .lt 21, 3) := dr_dd nD_D_firstSecondOf_0 1 rfl
theorem d_D_firstSecondOf_4 : decode prog_2_method_8_code 4 = .ok (.iload_n 1, 1) := dr_dd nD_D_firstSecondOf_0 2 rfl
theorem d_D_firstSecondOf_5 : decode prog_2_method_8_code 5 = .ok (.aload_n 0, 1) := dr_dd nD_D_firstSecondOf_0 3 rfl
theorem d_D_firstSecondOf_6 : decode prog_2_method_8_code 6 = .ok (.getfield 23, 3) := dr_dd nD_D_firstSecondOf_0 4 rfl
theorem d_D_firstSecondOf_9 : decode prog_2_method_8_code 9 = .ok (.arraylength, 1) := dr_dd nD_D_firstSecondOf_0 5 rfl
theorem d_D_firstSecondOf_10 : decode prog_2_method_8_code 10 = .ok (.if_icmp .ge 12, 3) := dr_dd nD_D_firstSecondOf_0 6 rfl
theorem d_D_firstSecondOf_13 : decode prog_2_method_8_code 13 = .ok (.aload_n 0, 1) := dr_dd nD_D_firstSecondOf_0 7 rfl
theorem d_D_firstSecondOf_14 : decode prog_2_method_8_code 14 = .ok (.getfield 23, 3) := dr_dd nD_D_firstSecondOf_0 8 rfl
theorem d_D_firstSecondOf_17 : decode prog_2_method_8_code 17 = .ok (.iload_n 1, 1) := dr_dd nD_D_firstSecondOf_0 9 rfl
theorem d_D_firstSecondOf_18 : decode prog_2_method_8_code 18 = .ok (.iaload, 1) := dr_dd nD_D_firstSecondOf_0 10 rfl
theorem d_D_firstSecondOf_19 : decode prog_2_method_8_code 19 = .ok (.goto 4, 3) := dr_dd nD_D_firstSecondOf_0 11 rfl
theorem d_D_firstSecondOf_22 : decode prog_2_method_8_code 22 = .ok (.iconst (-1), 1) := dr_dd nD_D_firstSecondOf_0 12 rfl
theorem d_D_firstSecondOf_23 : decode prog_2_method_8_code 23 = .ok (.ireturn, 1) := dr_dd nD_D_firstSecondOf_0 13 rfl
abbrev nL_D_eventSeenBy_0 : List (Nat × Instr × Nat) := [(0, .iconst 0, 1), (1, .istore_n 3, 1), (2, .iconst 1, 1), (3, .istore 4, 2), (5, .iload 4, 2), (7, .aload_n 0, 1), (8, .getfield 15, 3), (11, .arraylength, 1), (12, .if_icmp .ge 41, 3), (15, .aload_n 0, 1), (16, .getfield 15, 3), (19, .iload 4, 2), (21, .iaload, 1), (22, .iconst (-1), 1), (23, .if_icmp .eq 24, 3), (26, .aload_n 0, 1), (27, .iload_n 1, 1), (28, .iload 4, 2), (30, .invokevirtual 79, 3), (33, .ifCond .eq 14, 3), (36, .iload_n 3, 1), (37, .iload_n 2, 1), (38, .if_icmp .ne 6, 3), (41, .iload 4, 2), (43, .ireturn, 1), (44, .iinc 3 1, 3), (47, .iinc 4 1, 3), (50, .goto (-45), 3), (53, .iconst (-1), 1), (54, .ireturn, 1)]
theorem nD_D_eventSeenBy_0 : ∀ q ∈ nL_D_eventSeenBy_0, decode prog_2_method_9_code q.1 = .ok (q.2.1, q.2.2) := by decide +kernel
theorem d_D_eventSeenBy_0 : decode prog_2_method_9_code 0 = .ok (.iconst 0, 1) := dr_dd nD_D_eventSeenBy_0 0 rfl
theorem d_D_eventSeenBy_1 : decode prog_2_method_9_code 1 = .ok (.istore_n 3, 1) := dr_dd nD_D_eventSeenBy_0 1 rfl
theorem d_D_eventSeenBy_2 : decode prog_2_method_9_code 2 = .ok (.iconst 1, 1) := dr_dd nD_D_eventSeenBy_0 2 rfl
theorem d_D_eventSeenBy_3 : decode prog_2_method_9_code 3 = .ok (.istore 4, 2) := dr_dd nD_D_eventSeenBy_0 3 rfl
theorem d_D_eventSeenBy_5 : decode prog_2_method_9_code 5 = .ok (.iload 4, 2) := dr_dd nD_D_eventSeenBy_0 4 rfl
theorem d_D_eventSeenBy_7 : decode prog_2_method_9_code 7 = .ok (.aload_n 0, 1) := dr_dd nD_D_eventSeenBy_0 5 rfl
theorem d_D_eventSeenBy_8 : decode prog_2_method_9_code 8 = .ok (.getfield 15, 3) := dr_dd nD_D_eventSeenBy_0 6 rfl
theorem d_D_eventSeenBy_11 : decode prog_2_method_9_code 11 = .ok (.arraylength, 1) := dr_dd nD_D_eventSeenBy_0 7 rfl
theorem d_D_eventSeenBy_12 : decode prog_2_method_9_code 12 = .ok (.if_icmp .ge 41, 3) := dr_dd nD_D_eventSeenBy_0 8 rfl
theorem d_D_eventSeenBy_15 : decode prog_2_method_9_code 15 = .ok (.aload_n 0, 1) := dr_dd nD_D_eventSeenBy_0 9 rfl
theorem d_D_eventSeenBy_16 : decode prog_2_method_9_code 16 = .ok (.getfield 15, 3) := dr_dd nD_D_eventSeenBy_0 10 rfl
theorem d_D_eventSeenBy_19 : decode prog_2_method_9_code 19 = .ok (.iload 4, 2) := dr_dd nD_D_eventSeenBy_0 11 rfl
theorem d_D_eventSeenBy_21 : decode prog_2_method_9_code 21 = .ok (.iaload, 1) := dr_dd nD_D_eventSeenBy_0 12 rfl
theorem d_D_eventSeenBy_22 : decode prog_2_method_9_code 22 = .ok (.iconst (-1), 1) := dr_dd nD_D_eventSeenBy_0 13 rfl
theorem d_D_eventSeenBy_23 : decode prog_2_method_9_code 23 = .ok (.if_icmp .eq 24, 3) := dr_dd nD_D_eventSeenBy_0 14 rfl
theorem d_D_eventSeenBy_26 : decode prog_2_method_9_code 26 = .ok (.aload_n 0, 1) := dr_dd nD_D_eventSeenBy_0 15 rfl
theorem d_D_eventSeenBy_27 : decode prog_2_method_9_code 27 = .ok (.iload_n 1, 1) := dr_dd nD_D_eventSeenBy_0 16 rfl
theorem d_D_eventSeenBy_28 : decode prog_2_method_9_code 28 = .ok (.iload 4, 2) := dr_dd nD_D_eventSeenBy_0 17 rfl
theorem d_D_eventSeenBy_30 : decode prog_2_method_9_code 30 = .ok (.invokevirtual 79, 3) := dr_dd nD_D_eventSeenBy_0 18 rfl
theorem d_D_eventSeenBy_33 : decode prog_2_method_9_code 33 = .ok (.ifCond .eq 14, 3) := dr_dd nD_D_eventSeenBy_0 19 rfl
theorem d_D_eventSeenBy_36 : decode prog_2_method_9_code 36 = .ok (.iload_n 3, 1) := dr_dd nD_D_eventSeenBy_0 20 rfl
theorem d_D_eventSeenBy_37 : decode prog_2_method_9_code 37 = .ok (.iload_n 2, 1) := dr_dd nD_D_eventSeenBy_0 21 rfl
theorem d_D_eventSeenBy_38 : decode prog_2_method_9_code 38 = .ok (.if_icmp .ne 6, 3) := dr_dd nD_D_eventSeenBy_0 22 rfl
theorem d_D_eventSeenBy_41 : decode prog_2_method_9_code 41 = .ok (.iload 4, 2) := dr_dd nD_D_eventSeenBy_0 23 rfl
theorem d_D_eventSeenBy_43 : decode prog_2_method_9_code 43 = .ok (.ireturn, 1) := dr_dd nD_D_eventSeenBy_0 24 rfl
theorem d_D_eventSeenBy_44 : decode prog_2_method_9_code 44 = .ok (.iinc 3 1, 3) := dr_dd nD_D_eventSeenBy_0 25 rfl
theorem d_D_eventSeenBy_47 : decode prog_2_method_9_code 47 = .ok (.iinc 4 1, 3) := dr_dd nD_D_eventSeenBy_0 26 rfl
theorem d_D_eventSeenBy_50 : decode prog_2_method_9_code 50 = .ok (.goto (-45), 3) := dr_dd nD_D_eventSeenBy_0 27 rfl
theorem d_D_eventSeenBy_53 : decode prog_2_method_9_code 53 = .ok (.iconst (-1), 1) := dr_dd nD_D_eventSeenBy_0 28 rfl
theorem d_D_eventSeenBy_54 : decode prog_2_method_9_code 54 = .ok (.ireturn, 1) := dr_dd nD_D_eventSeenBy_0 29 rfl
abbrev nL_D_maySee_0 : List (Nat × Instr × Nat) := [(0, .aload_n 0, 1), (1, .getfield 35, 3), (4, .getfield 83, 3), (7, .iload_n 2, 1), (8, .baload, 1), (9, .ifCond .eq 16, 3), (12, .aload_n 0, 1), (13, .getfield 35, 3), (16, .getfield 87, 3), (19, .iload_n 2, 1), (20, .iaload, 1), (21, .iload_n 1, 1), (22, .if_icmp .ne 7, 3), (25, .iconst 1, 1), (26, .goto 4, 3), (29, .iconst 0, 1), (30, .ireturn, 1)]
theorem nD_D_maySee_0 : ∀ q ∈ nL_D_maySee_0, decode prog_2_method_10_code q.1 = .ok (q.2.1, q.2.2) := by decide +kernel
theorem d_D_maySee_0 : decode prog_2_method_10_code 0 = .ok (.aload_n 0, 1) := dr_dd nD_D_maySee_0 0 rfl
theorem d_D_maySee_1 : decode prog_2_method_10_code 1 = .ok (.getfield 35, 3) := dr_dd nD_D_maySee_0 1 rfl
theorem d_D_maySee_4 : decode prog_2_method_10_code 4 = .ok (.getfield 83, 3) := dr_dd nD_D_maySee_0 2 rfl
theorem d_D_maySee_7 : decode prog_2_method_10_code 7 = .ok (.iload_n 2, 1) := dr_dd nD_D_maySee_0 3 rfl
theorem d_D_maySee_8 : decode prog_2_method_10_code 8 = .ok (.baload, 1) := dr_dd nD_D_maySee_0 4 rfl
theorem d_D_maySee_9 : decode prog_2_method_10_code 9 = .ok (.ifCond .eq 16, 3) := dr_dd nD_D_maySee_0 5 rfl
theorem d_D_maySee_12 : decode prog_2_method_10_code 12 = .ok (.aload_n 0, 1) := dr_dd nD_D_maySee_0 6 rfl
theorem d_D_maySee_13 : decode prog_2_method_10_code 13 = .ok (.getfield 35, 3) := dr_dd nD_D_maySee_0 7 rfl
theorem d_D_maySee_16 : decode prog_2_method_10_code 16 = .ok (.getfield 87, 3) := dr_dd nD_D_maySee_0 8 rfl
theorem d_D_maySee_19 : decode prog_2_method_10_code 19 = .ok (.iload_n 2, 1) := dr_dd nD_D_maySee_0 9 rfl
theorem d_D_maySee_20 : decode prog_2_method_10_code 20 = .ok (.iaload, 1) := dr_dd nD_D_maySee_0 10 rfl
theorem d_D_maySee_21 : decode prog_2_method_10_code 21 = .ok (.iload_n 1, 1) := dr_dd nD_D_maySee_0 11 rfl
theorem d_D_maySee_22 : decode prog_2_method_10_code 22 = .ok (.if_icmp .ne 7, 3) := dr_dd nD_D_maySee_0 12 rfl
theorem d_D_maySee_25 : decode prog_2_method_10_code 25 = .ok (.iconst 1, 1) := dr_dd nD_D_maySee_0 13 rfl
theorem d_D_maySee_26 : decode prog_2_method_10_code 26 = .ok (.goto 4, 3) := dr_dd nD_D_maySee_0 14 rfl
theorem d_D_maySee_29 : decode prog_2_method_10_code 29 = .ok (.iconst 0, 1) := dr_dd nD_D_maySee_0 15 rfl
theorem d_D_maySee_30 : decode prog_2_method_10_code 30 = .ok (.ireturn, 1) := dr_dd nD_D_maySee_0 16 rfl
abbrev nL_D_hasBegunFault_0 : List (Nat × Instr × Nat) := [(0, .iconst 1, 1), (1, .istore_n 2, 1), (2, .iload_n 2, 1), (3, .aload_n 0, 1), (4, .getfield 15, 3), (7, .arraylength, 1), (8, .if_icmp .ge 34, 3), (11, .aload_n 0, 1), (12, .getfield 15, 3), (15, .iload_n 2, 1), (16, .iaload, 1), (17, .iconst (-1), 1), (18, .if_icmp .eq 18, 3), (21, .aload_n 0, 1), (22, .getfield 35, 3), (25, .getfield 90, 3), (28, .iload_n 2, 1), (29, .iaload, 1), (30, .iload_n 1, 1), (31, .if_icmp .ne 5, 3), (34, .iconst 1, 1), (35, .ireturn, 1), (36, .iinc 2 1, 3), (39, .goto (-37), 3), (42, .iconst 0, 1), (43, .ireturn, 1)]
theorem nD_D_hasBegunFault_0 : ∀ q ∈ nL_D_hasBegunFault_0, decode prog_2_method_11_code q.1 = .ok (q.2.1, q.2.2) := by decide +kernel
theorem d_D_hasBegunFault_0 : decode prog_2_method_11_code 0 = .ok (.iconst 1, 1) := dr_dd nD_D_hasBegunFault_0 0 rfl
theorem d_D_hasBegunFault_1 : decode prog_2_method_11_code 1 = .ok (.istore_n 2, 1) := dr_dd nD_D_hasBegunFault_0 1 rfl
theorem d_D_hasBegunFault_2 : decode prog_2_method_11_code 2 = .ok (.iload_n 2, 1) := dr_dd nD_D_hasBegunFault_0 2 rfl
theorem d_D_hasBegunFault_3 : decode prog_2_method_11_code 3 = .ok (.aload_n 0, 1) := dr_dd nD_D_hasBegunFault_0 3 rfl
theorem d_D_hasBegunFault_4 : decode prog_2_method_11_code 4 = .ok (.getfield 15, 3) := dr_dd nD_D_hasBegunFault_0 4 rfl
theorem d_D_hasBegunFault_7 : decode prog_2_method_11_code 7 = .ok (.arraylength, 1) := dr_dd nD_D_hasBegunFault_0 5 rfl
theorem d_D_hasBegunFault_8 : decode prog_2_method_11_code 8 = .ok (.if_icmp .ge 34, 3) := dr_dd nD_D_hasBegunFault_0 6 rfl
theorem d_D_hasBegunFault_11 : decode prog_2_method_11_code 11 = .ok (.aload_n 0, 1) := dr_dd nD_D_hasBegunFault_0 7 rfl
theorem d_D_hasBegunFault_12 : decode prog_2_method_11_code 12 = .ok (.getfield 15, 3) := dr_dd nD_D_hasBegunFault_0 8 rfl
theorem d_D_hasBegunFault_15 : decode prog_2_method_11_code 15 = .ok (.iload_n 2, 1) := dr_dd nD_D_hasBegunFault_0 9 rfl
theorem d_D_hasBegunFault_16 : decode prog_2_method_11_code 16 = .ok (.iaload, 1) := dr_dd nD_D_hasBegunFault_0 10 rfl
theorem d_D_hasBegunFault_17 : decode prog_2_method_11_code 17 = .ok (.iconst (-1), 1) := dr_dd nD_D_hasBegunFault_0 11 rfl
theorem d_D_hasBegunFault_18 : decode prog_2_method_11_code 18 = .ok (.if_icmp .eq 18, 3) := dr_dd nD_D_hasBegunFault_0 12 rfl
theorem d_D_hasBegunFault_21 : decode prog_2_method_11_code 21 = .ok (.aload_n 0, 1) := dr_dd nD_D_hasBegunFault_0 13 rfl
theorem d_D_hasBegunFault_22 : decode prog_2_method_11_code 22 = .ok (.getfield 35, 3) := dr_dd nD_D_hasBegunFault_0 14 rfl
theorem d_D_hasBegunFault_25 : decode prog_2_method_11_code 25 = .ok (.getfield 90, 3) := dr_dd nD_D_hasBegunFault_0 15 rfl
theorem d_D_hasBegunFault_28 : decode prog_2_method_11_code 28 = .ok (.iload_n 2, 1) := dr_dd nD_D_hasBegunFault_0 16 rfl
theorem d_D_hasBegunFault_29 : decode prog_2_method_11_code 29 = .ok (.iaload, 1) := dr_dd nD_D_hasBegunFault_0 17 rfl
theorem d_D_hasBegunFault_30 : decode prog_2_method_11_code 30 = .ok (.iload_n 1, 1) := dr_dd nD_D_hasBegunFault_0 18 rfl
theorem d_D_hasBegunFault_31 : decode prog_2_method_11_code 31 = .ok (.if_icmp .ne 5, 3) := dr_dd nD_D_hasBegunFault_0 19 rfl
theorem d_D_hasBegunFault_34 : decode prog_2_method_11_code 34 = .ok (.iconst 1, 1) := dr_dd nD_D_hasBegunFault_0 20 rfl
theorem d_D_hasBegunFault_35 : decode prog_2_method_11_code 35 = .ok (.ireturn, 1) := dr_dd nD_D_hasBegunFault_0 21 rfl
theorem d_D_hasBegunFault_36 : decode prog_2_method_11_code 36 = .ok (.iinc 2 1, 3) := dr_dd nD_D_hasBegunFault_0 22 rfl
theorem d_D_hasBegunFault_39 : decode prog_2_method_11_code 39 = .ok (.goto (-37), 3) := dr_dd nD_D_hasBegunFault_0 23 rfl
theorem d_D_hasBegunFault_42 : decode prog_2_method_11_code 42 = .ok (.iconst 0, 1) := dr_dd nD_D_hasBegunFault_0 24 rfl
theorem d_D_hasBegunFault_43 : decode prog_2_method_11_code 43 = .ok (.ireturn, 1) := dr_dd nD_D_hasBegunFault_0 25 rfl
abbrev nL_D_stateOfAim_0 : List (Nat × Instr × Nat) := [(0, .aload_n 0, 1), (1, .getfield 35, 3), (4, .iload_n 1, 1), (5, .invokevirtual 93, 3), (8, .ifCond .ne 5, 3), (11, .iconst 0, 1), (12, .ireturn, 1), (13, .aload_n 0, 1), (14, .aload_n 0, 1), (15, .getfield 35, 3), (18, .getfield 96, 3), (21, .iload_n 1, 1), (22, .iaload, 1), (23, .invokevirtual 99, 3), (26, .istore_n 3, 1), (27, .iload_n 3, 1), (28, .aload_n 0, 1), (29, .getfield 35, 3), (32, .getfield 102, 3), (35, .iload_n 1, 1), (36, .iaload, 1), (37, .iadd, 1), (38, .istore 4, 2), (40, .iload_n 3, 1), (41, .iconst (-1), 1), (42, .if_icmp .eq 24, 3), (45, .aload_n 0, 1), (46, .aload_n 0, 1), (47, .getfield 35, 3), (50, .getfield 105, 3), (53, .iload_n 1, 1), (54, .iaload, 1), (55, .iload_n 3, 1), (56, .iload 4, 2), (58, .invokevirtual 108, 3), (61, .ifCond .eq 5, 3), (64, .iconst 1, 1), (65, .ireturn, 1), (66, .iload_n 3, 1), (67, .iconst (-1), 1)]
theorem nD_D_stateOfAim_0 : ∀ q ∈ nL_D_stateOfAim_0, decode prog_2_method_12_code q.1 = .ok (q.2.1, q.2.2) := by decide +kernel
theorem d_D_stateOfAim_0 : decode prog_2_method_12_code 0 = .ok (.aload_n 0, 1) := dr_dd nD_D_stateOfAim_0 0 rfl
theorem d_D_stateOfAim_1 : decode prog_2_method_12_code 1 = .ok (.getfield 35, 3) := dr_dd nD_D_stateOfAim_0 1 rfl
theorem d_D_stateOfAim_4 : decode prog_2_method_12_code 4 = .ok (.iload_n 1, 1) := dr_dd nD_D_stateOfAim_0 2 rfl
theorem d_D_stateOfAim_5 : decode prog_2_method_12_code 5 = .ok (.invokevirtual 93, 3) := dr_dd nD_D_stateOfAim_0 3 rfl
theorem d_D_stateOfAim_8 : decode prog_2_method_12_code 8 = .ok (.ifCond .ne 5, 3) := dr_dd nD_D_stateOfAim_0 4 rfl
theorem d_D_stateOfAim_11 : decode prog_2_method_12_code 11 = .ok (.iconst 0, 1) := dr_dd nD_D_stateOfAim_0 5 rfl
theorem d_D_stateOfAim_12 : decode prog_2_method_12_code 12 = .ok (.ireturn, 1) := dr_dd nD_D_stateOfAim_0 6 rfl
theorem d_D_stateOfAim_13 : decode prog_2_method_12_code 13 = .ok (.aload_n 0, 1) := dr_dd nD_D_stateOfAim_0 7 rfl
theorem d_D_stateOfAim_14 : decode prog_2_method_12_code 14 = .ok (.aload_n 0, 1) := dr_dd nD_D_stateOfAim_0 8 rfl
theorem d_D_stateOfAim_15 : decode prog_2_method_12_code 15 = .ok (.getfield 35, 3) := dr_dd nD_D_stateOfAim_0 9 rfl
theorem d_D_stateOfAim_18 : decode prog_2_method_12_code 18 = .ok (.getfield 96, 3) := dr_dd nD_D_stateOfAim_0 10 rfl
theorem d_D_stateOfAim_21 : decode prog_2_method_12_code 21 = .ok (.iload_n 1, 1) := dr_dd nD_D_stateOfAim_0 11 rfl
theorem d_D_stateOfAim_22 : decode prog_2_method_12_code 22 = .ok (.iaload, 1) := dr_dd nD_D_stateOfAim_0 12 rfl
theorem d_D_stateOfAim_23 : decode prog_2_method_12_code 23 = .ok (.invokevirtual 99, 3) := dr_dd nD_D_stateOfAim_0 13 rfl
theorem d_D_stateOfAim_26 : decode prog_2_method_12_code 26 = .ok (.istore_n 3, 1) := dr_dd nD_D_stateOfAim_0 14 rfl
theorem d_D_stateOfAim_27 : decode prog_2_method_12_code 27 = .ok (.iload_n 3, 1) := dr_dd nD_D_stateOfAim_0 15 rfl
theorem d_D_stateOfAim_28 : decode prog_2_method_12_code 28 = .ok (.aload_n 0, 1) := dr_dd nD_D_stateOfAim_0 16 rfl
theorem d_D_stateOfAim_29 : decode prog_2_method_12_code 29 = .ok (.getfield 35, 3) := dr_dd nD_D_stateOfAim_0 17 rfl
theorem d_D_stateOfAim_32 : decode prog_2_method_12_code 32 = .ok (.getfield 102, 3) := dr_dd nD_D_stateOfAim_0 18 rfl
theorem d_D_stateOfAim_35 : decode prog_2_method_12_code 35 = .ok (.iload_n 1, 1) := dr_dd nD_D_stateOfAim_0 19 rfl
theorem d_D_stateOfAim_36 : decode prog_2_method_12_code 36 = .ok (.iaload, 1) := dr_dd nD_D_stateOfAim_0 20 rfl
theorem d_D_stateOfAim_37 : decode prog_2_method_12_code 37 = .ok (.iadd, 1) := dr_dd nD_D_stateOfAim_0 21 rfl
theorem d_D_stateOfAim_38 : decode prog_2_method_12_code 38 = .ok (.istore 4, 2) := dr_dd nD_D_stateOfAim_0 22 rfl
theorem d_D_stateOfAim_40 : decode prog_2_method_12_code 40 = .ok (.iload_n 3, 1) := dr_dd nD_D_stateOfAim_0 23 rfl
theorem d_D_stateOfAim_41 : decode prog_2_method_12_code 41 = .ok (.iconst (-1), 1) := dr_dd nD_D_stateOfAim_0 24 rfl
theorem d_D_stateOfAim_42 : decode prog_2_method_12_code 42 = .ok (.if_icmp .eq 24, 3) := dr_dd nD_D_stateOfAim_0 25 rfl
theorem d_D_stateOfAim_45 : decode prog_2_method_12_code 45 = .ok (.aload_n 0, 1) := dr_dd nD_D_stateOfAim_0 26 rfl
theorem d_D_stateOfAim_46 : decode prog_2_method_12_code 46 = .ok (.aload_n 0, 1) := dr_dd nD_D_stateOfAim_0 27 rfl
theorem d_D_stateOfAim_47 : decode prog_2_method_12_code 47 = .ok (.getfield 35, 3) := dr_dd nD_D_stateOfAim_0 28 rfl
theorem d_D_stateOfAim_50 : decode prog_2_method_12_code 50 = .ok (.getfield 105, 3) := dr_dd nD_D_stateOfAim_0 29 rfl
theorem d_D_stateOfAim_53 : decode prog_2_method_12_code 53 = .ok (.iload_n 1, 1) := dr_dd nD_D_stateOfAim_0 30 rfl
theorem d_D_stateOfAim_54 : decode prog_2_method_12_code 54 = .ok (.iaload, 1) := dr_dd nD_D_stateOfAim_0 31 rfl
theorem d_D_stateOfAim_55 : decode prog_2_method_12_code 55 = .ok (.iload_n 3, 1) := dr_dd nD_D_stateOfAim_0 32 rfl
theorem d_D_stateOfAim_56 : decode prog_2_method_12_code 56 = .ok (.iload 4, 2) := dr_dd nD_D_stateOfAim_0 33 rfl
theorem d_D_stateOfAim_58 : decode prog_2_method_12_code 58 = .ok (.invokevirtual 108, 3) := dr_dd nD_D_stateOfAim_0 34 rfl
theorem d_D_stateOfAim_61 : decode prog_2_method_12_code 61 = .ok (.ifCond .eq 5, 3) := dr_dd nD_D_stateOfAim_0 35 rfl
theorem d_D_stateOfAim_64 : decode prog_2_method_12_code 64 = .ok (.iconst 1, 1) := dr_dd nD_D_stateOfAim_0 36 rfl
theorem d_D_stateOfAim_65 : decode prog_2_method_12_code 65 = .ok (.ireturn, 1) := dr_dd nD_D_stateOfAim_0 37 rfl
theorem d_D_stateOfAim_66 : decode prog_2_method_12_code 66 = .ok (.iload_n 3, 1) := dr_dd nD_D_stateOfAim_0 38 rfl
theorem d_D_stateOfAim_67 : decode prog_2_method_12_code 67 = .ok (.iconst (-1), 1) := dr_dd nD_D_stateOfAim_0 39 rfl
abbrev nL_D_stateOfAim_1 : List (Nat × Instr × Nat) := [(68, .if_icmp .eq 17, 3), (71, .aload_n 0, 1), (72, .iload_n 2, 1), (73, .invokevirtual 48, 3), (76, .iload 4, 2), (78, .if_icmp .le 7, 3), (81, .iconst 1, 1), (82, .goto 4, 3), (85, .iconst 0, 1), (86, .istore 5, 2), (88, .iload 5, 2), (90, .ifCond .ne 10, 3), (93, .aload_n 0, 1), (94, .getfield 9, 3), (97, .ifCond .ne 7, 3), (100, .iconst 2, 1), (101, .goto 4, 3), (104, .iconst 0, 1), (105, .ireturn, 1)]
theorem nD_D_stateOfAim_1 : ∀ q ∈ nL_D_stateOfAim_1, decode prog_2_method_12_code q.1 = .ok (q.2.1, q.2.2) := by decide +kernel
theorem d_D_stateOfAim_68 : decode prog_2_method_12_code 68 = .ok (.if_icmp .eq 17, 3) := dr_dd nD_D_stateOfAim_1 0 rfl
theorem d_D_stateOfAim_71 : decode prog_2_method_12_code 71 = .ok (.aload_n 0, 1) := dr_dd nD_D_stateOfAim_1 1 rfl
theorem d_D_stateOfAim_72 : decode prog_2_method_12_code 72 = .ok (.iload_n 2, 1) := dr_dd nD_D_stateOfAim_1 2 rfl
theorem d_D_stateOfAim_73 : decode prog_2_method_12_code 73 = .ok (.invokevirtual 48, 3) := dr_dd nD_D_stateOfAim_1 3 rfl
theorem d_D_stateOfAim_76 : decode prog_2_method_12_code 76 = .ok (.iload 4, 2) := dr_dd nD_D_stateOfAim_1 4 rfl
theorem d_D_stateOfAim_78 : decode prog_2_method_12_code 78 = .ok (.if_icmp .le 7, 3) := dr_dd nD_D_stateOfAim_1 5 rfl
theorem d_D_stateOfAim_81 : decode prog_2_method_12_code 81 = .ok (.iconst 1, 1) := dr_dd nD_D_stateOfAim_1 6 rfl
theorem d_D_stateOfAim_82 : decode prog_2_method_12_code 82 = .ok (.goto 4, 3) := dr_dd nD_D_stateOfAim_1 7 rfl
theorem d_D_stateOfAim_85 : decode prog_2_method_12_code 85 = .ok (.iconst 0, 1) := dr_dd nD_D_stateOfAim_1 8 rfl
theorem d_D_stateOfAim_86 : decode prog_2_method_12_code 86 = .ok (.istore 5, 2) := dr_dd nD_D_stateOfAim_1 9 rfl
theorem d_D_stateOfAim_88 : decode prog_2_method_12_code 88 = .ok (.iload 5, 2) := dr_dd nD_D_stateOfAim_1 10 rfl
theorem d_D_stateOfAim_90 : decode prog_2_method_12_code 90 = .ok (.ifCond .ne 10, 3) := dr_dd nD_D_stateOfAim_1 11 rfl
theorem d_D_stateOfAim_93 : decode prog_2_method_12_code 93 = .ok (.aload_n 0, 1) := dr_dd nD_D_stateOfAim_1 12 rfl
theorem d_D_stateOfAim_94 : decode prog_2_method_12_code 94 = .ok (.getfield 9, 3) := dr_dd nD_D_stateOfAim_1 13 rfl
theorem d_D_stateOfAim_97 : decode prog_2_method_12_code 97 = .ok (.ifCond .ne 7, 3) := dr_dd nD_D_stateOfAim_1 14 rfl
theorem d_D_stateOfAim_100 : decode prog_2_method_12_code 100 = .ok (.iconst 2, 1) := dr_dd nD_D_stateOfAim_1 15 rfl
theorem d_D_stateOfAim_101 : decode prog_2_method_12_code 101 = .ok (.goto 4, 3) := dr_dd nD_D_stateOfAim_1 16 rfl
theorem d_D_stateOfAim_104 : decode prog_2_method_12_code 104 = .ok (.iconst 0, 1) := dr_dd nD_D_stateOfAim_1 17 rfl
theorem d_D_stateOfAim_105 : decode prog_2_method_12_code 105 = .ok (.ireturn, 1) := dr_dd nD_D_stateOfAim_1 18 rfl
abbrev nL_D_hasActWithin_0 : List (Nat × Instr × Nat) := [(0, .iconst 0, 1), (1, .istore 4, 2), (3, .iload 4, 2), (5, .aload_n 0, 1), (6, .getfield 32, 3), (9, .if_icmp .ge 51, 3), (12, .iload 4, 2), (14, .bipush 60, 2), (16, .if_icmp .ge 44, 3), (19, .aload_n 0, 1), (20, .getfield 26, 3), (23, .iload 4, 2), (25, .iaload, 1), (26, .iload_n 1, 1), (27, .if_icmp .ne 27, 3), (30, .aload_n 0, 1), (31, .getfield 29, 3), (34, .iload 4, 2), (36, .iaload, 1), (37, .iload_n 2, 1), (38, .if_icmp .lt 16, 3), (41, .aload_n 0, 1), (42, .getfield 29, 3), (45, .iload 4, 2), (47, .iaload, 1), (48, .iload_n 3, 1), (49, .if_icmp .gt 5, 3), (52, .iconst 1, 1), (53, .ireturn, 1), (54, .iinc 4 1, 3), (57, .goto (-54), 3), (60, .iconst 0, 1), (61, .ireturn, 1)]
theorem nD_D_hasActWithin_0 : ∀ q ∈ nL_D_hasActWithin_0, decode prog_2_method_13_code q.1 = .ok (q.2.1, q.2.2) := by decide +kernel
theorem d_D_hasActWithin_0 : decode prog_2_method_13_code 0 = .ok (.iconst 0, 1) := dr_dd nD_D_hasActWithin_0 0 rfl
theorem d_D_hasActWithin_1 : decode prog_2_method_13_code 1 = .ok (.istore 4, 2) := dr_dd nD_D_hasActWithin_0 1 rfl
theorem d_D_hasActWithin_3 : decode prog_2_method_13_code 3 = .ok (.iload 4, 2) := dr_dd nD_D_hasActWithin_0 2 rfl
theorem d_D_hasActWithin_5 : decode prog_2_method_13_code 5 = .ok (.aload_n 0, 1) := dr_dd nD_D_hasActWithin_0 3 rfl
theorem d_D_hasActWithin_6 : decode prog_2_method_13_code 6 = .ok (.getfield 32, 3) := dr_dd nD_D_hasActWithin_0 4 rfl
theorem d_D_hasActWithin_9 : decode prog_2_method_13_code 9 = .ok (.if_icmp .ge 51, 3) := dr_dd nD_D_hasActWithin_0 5 rfl
theorem d_D_hasActWithin_12 : decode prog_2_method_13_code 12 = .ok (.iload 4, 2) := dr_dd nD_D_hasActWithin_0 6 rfl
theorem d_D_hasActWithin_14 : decode prog_2_method_13_code 14 = .ok (.bipush 60, 2) := dr_dd nD_D_hasActWithin_0 7 rfl
theorem d_D_hasActWithin_16 : decode prog_2_method_13_code 16 = .ok (.if_icmp .ge 44, 3) := dr_dd nD_D_hasActWithin_0 8 rfl
theorem d_D_hasActWithin_19 : decode prog_2_method_13_code 19 = .ok (.aload_n 0, 1) := dr_dd nD_D_hasActWithin_0 9 rfl
theorem d_D_hasActWithin_20 : decode prog_2_method_13_code 20 = .ok (.getfield 26, 3) := dr_dd nD_D_hasActWithin_0 10 rfl
theorem d_D_hasActWithin_23 : decode prog_2_method_13_code 23 = .ok (.iload 4, 2) := dr_dd nD_D_hasActWithin_0 11 rfl
theorem d_D_hasActWithin_25 : decode prog_2_method_13_code 25 = .ok (.iaload, 1) := dr_dd nD_D_hasActWithin_0 12 rfl
theorem d_D_hasActWithin_26 : decode prog_2_method_13_code 26 = .ok (.iload_n 1, 1) := dr_dd nD_D_hasActWithin_0 13 rfl
theorem d_D_hasActWithin_27 : decode prog_2_method_13_code 27 = .ok (.if_icmp .ne 27, 3) := dr_dd nD_D_hasActWithin_0 14 rfl
theorem d_D_hasActWithin_30 : decode prog_2_method_13_code 30 = .ok (.aload_n 0, 1) := dr_dd nD_D_hasActWithin_0 15 rfl
theorem d_D_hasActWithin_31 : decode prog_2_method_13_code 31 = .ok (.getfield 29, 3) := dr_dd nD_D_hasActWithin_0 16 rfl
theorem d_D_hasActWithin_34 : decode prog_2_method_13_code 34 = .ok (.iload 4, 2) := dr_dd nD_D_hasActWithin_0 17 rfl
theorem d_D_hasActWithin_36 : decode prog_2_method_13_code 36 = .ok (.iaload, 1) := dr_dd nD_D_hasActWithin_0 18 rfl
theorem d_D_hasActWithin_37 : decode prog_2_method_13_code 37 = .ok (.iload_n 2, 1) := dr_dd nD_D_hasActWithin_0 19 rfl
theorem d_D_hasActWithin_38 : decode prog_2_method_13_code 38 = .ok (.if_icmp .lt 16, 3) := dr_dd nD_D_hasActWithin_0 20 rfl
theorem d_D_hasActWithin_41 : decode prog_2_method_13_code 41 = .ok (.aload_n 0, 1) := dr_dd nD_D_hasActWithin_0 21 rfl
theorem d_D_hasActWithin_42 : decode prog_2_method_13_code 42 = .ok (.getfield 29, 3) := dr_dd nD_D_hasActWithin_0 22 rfl
theorem d_D_hasActWithin_45 : decode prog_2_method_13_code 45 = .ok (.iload 4, 2) := dr_dd nD_D_hasActWithin_0 23 rfl
theorem d_D_hasActWithin_47 : decode prog_2_method_13_code 47 = .ok (.iaload, 1) := dr_dd nD_D_hasActWithin_0 24 rfl
theorem d_D_hasActWithin_48 : decode prog_2_method_13_code 48 = .ok (.iload_n 3, 1) := dr_dd nD_D_hasActWithin_0 25 rfl
theorem d_D_hasActWithin_49 : decode prog_2_method_13_code 49 = .ok (.if_icmp .gt 5, 3) := dr_dd nD_D_hasActWithin_0 26 rfl
theorem d_D_hasActWithin_52 : decode prog_2_method_13_code 52 = .ok (.iconst 1, 1) := dr_dd nD_D_hasActWithin_0 27 rfl
theorem d_D_hasActWithin_53 : decode prog_2_method_13_code 53 = .ok (.ireturn, 1) := dr_dd nD_D_hasActWithin_0 28 rfl
theorem d_D_hasActWithin_54 : decode prog_2_method_13_code 54 = .ok (.iinc 4 1, 3) := dr_dd nD_D_hasActWithin_0 29 rfl
theorem d_D_hasActWithin_57 : decode prog_2_method_13_code 57 = .ok (.goto (-54), 3) := dr_dd nD_D_hasActWithin_0 30 rfl
theorem d_D_hasActWithin_60 : decode prog_2_method_13_code 60 = .ok (.iconst 0, 1) := dr_dd nD_D_hasActWithin_0 31 rfl
theorem d_D_hasActWithin_61 : decode prog_2_method_13_code 61 = .ok (.ireturn, 1) := dr_dd nD_D_hasActWithin_0 32 rfl
abbrev nL_D_weightOfMetAims_0 : List (Nat × Instr × Nat) := [(0, .iconst 0, 1), (1, .istore_n 2, 1), (2, .iconst 1, 1), (3, .istore_n 3, 1), (4, .iload_n 3, 1), (5, .bipush 20, 2), (7, .if_icmp .gt 42, 3), (10, .aload_n 0, 1), (11, .getfield 35, 3), (14, .iload_n 3, 1), (15, .invokevirtual 93, 3), (18, .ifCond .eq 25, 3), (21, .aload_n 0, 1), (22, .iload_n 3, 1), (23, .iload_n 1, 1), (24, .invokevirtual 112, 3), (27, .iconst 1, 1), (28, .if_icmp .ne 15, 3), (31, .iload_n 2, 1), (32, .aload_n 0, 1), (33, .getfield 35, 3), (36, .getfield 115, 3), (39, .iload_n 3, 1), (40, .iaload, 1), (41, .iadd, 1), (42, .istore_n 2, 1), (43, .iinc 3 1, 3), (46, .goto (-42), 3), (49, .iload_n 2, 1), (50, .ireturn, 1)]
theorem nD_D_weightOfMetAims_0 : ∀ q ∈ nL_D_weightOfMetAims_0, decode prog_2_method_14_code q.1 = .ok (q.2.1, q.2.2) := by decide +kernel
theorem d_D_weightOfMetAims_0 : decode prog_2_method_14_code 0 = .ok (.iconst 0, 1) := dr_dd nD_D_weightOfMetAims_0 0 rfl
theorem d_D_weightOfMetAims_1 : decode prog_2_method_14_code 1 = .ok (.istore_n 2, 1) := dr_dd nD_D_weightOfMetAims_0 1 rfl
theorem d_D_weightOfMetAims_2 : decode prog_2_method_14_code 2 = .ok (.iconst 1, 1) := dr_dd nD_D_weightOfMetAims_0 2 rfl
theorem d_D_weightOfMetAims_3 : decode prog_2_method_14_code 3 = .ok (.istore_n 3, 1) := dr_dd nD_D_weightOfMetAims_0 3 rfl
theorem d_D_weightOfMetAims_4 : decode prog_2_method_14_code 4 = .ok (.iload_n 3, 1) := dr_dd nD_D_weightOfMetAims_0 4 rfl
theorem d_D_weightOfMetAims_5 : decode prog_2_method_14_code 5 = .ok (.bipush 20, 2) := dr_dd nD_D_weightOfMetAims_0 5 rfl
theorem d_D_weightOfMetAims_7 : decode prog_2_method_14_code 7 = .ok (.if_icmp .gt 42, 3) := dr_dd nD_D_weightOfMetAims_0 6 rfl
theorem d_D_weightOfMetAims_10 : decode prog_2_method_14_code 10 = .ok (.aload_n 0, 1) := dr_dd nD_D_weightOfMetAims_0 7 rfl
theorem d_D_weightOfMetAims_11 : decode prog_2_method_14_code 11 = .ok (.getfield 35, 3) := dr_dd nD_D_weightOfMetAims_0 8 rfl
theorem d_D_weightOfMetAims_14 : decode prog_2_method_14_code 14 = .ok (.iload_n 3, 1) := dr_dd nD_D_weightOfMetAims_0 9 rfl
theorem d_D_weightOfMetAims_15 : decode prog_2_method_14_code 15 = .ok (.invokevirtual 93, 3) := dr_dd nD_D_weightOfMetAims_0 10 rfl
theorem d_D_weightOfMetAims_18 : decode prog_2_method_14_code 18 = .ok (.ifCond .eq 25, 3) := dr_dd nD_D_weightOfMetAims_0 11 rfl
theorem d_D_weightOfMetAims_21 : decode prog_2_method_14_code 21 = .ok (.aload_n 0, 1) := dr_dd nD_D_weightOfMetAims_0 12 rfl
theorem d_D_weightOfMetAims_22 : decode prog_2_method_14_code 22 = .ok (.iload_n 3, 1) := dr_dd nD_D_weightOfMetAims_0 13 rfl
theorem d_D_weightOfMetAims_23 : decode prog_2_method_14_code 23 = .ok (.iload_n 1, 1) := dr_dd nD_D_weightOfMetAims_0 14 rfl
theorem d_D_weightOfMetAims_24 : decode prog_2_method_14_code 24 = .ok (.invokevirtual 112, 3) := dr_dd nD_D_weightOfMetAims_0 15 rfl
theorem d_D_weightOfMetAims_27 : decode prog_2_method_14_code 27 = .ok (.iconst 1, 1) := dr_dd nD_D_weightOfMetAims_0 16 rfl
theorem d_D_weightOfMetAims_28 : decode prog_2_method_14_code 28 = .ok (.if_icmp .ne 15, 3) := dr_dd nD_D_weightOfMetAims_0 17 rfl
theorem d_D_weightOfMetAims_31 : decode prog_2_method_14_code 31 = .ok (.iload_n 2, 1) := dr_dd nD_D_weightOfMetAims_0 18 rfl
theorem d_D_weightOfMetAims_32 : decode prog_2_method_14_code 32 = .ok (.aload_n 0, 1) := dr_dd nD_D_weightOfMetAims_0 19 rfl
theorem d_D_weightOfMetAims_33 : decode prog_2_method_14_code 33 = .ok (.getfield 35, 3) := dr_dd nD_D_weightOfMetAims_0 20 rfl
theorem d_D_weightOfMetAims_36 : decode prog_2_method_14_code 36 = .ok (.getfield 115, 3) := dr_dd nD_D_weightOfMetAims_0 21 rfl
theorem d_D_weightOfMetAims_39 : decode prog_2_method_14_code 39 = .ok (.iload_n 3, 1) := dr_dd nD_D_weightOfMetAims_0 22 rfl
theorem d_D_weightOfMetAims_40 : decode prog_2_method_14_code 40 = .ok (.iaload, 1) := dr_dd nD_D_weightOfMetAims_0 23 rfl
theorem d_D_weightOfMetAims_41 : decode prog_2_method_14_code 41 = .ok (.iadd, 1) := dr_dd nD_D_weightOfMetAims_0 24 rfl
theorem d_D_weightOfMetAims_42 : decode prog_2_method_14_code 42 = .ok (.istore_n 2, 1) := dr_dd nD_D_weightOfMetAims_0 25 rfl
theorem d_D_weightOfMetAims_43 : decode prog_2_method_14_code 43 = .ok (.iinc 3 1, 3) := dr_dd nD_D_weightOfMetAims_0 26 rfl
theorem d_D_weightOfMetAims_46 : decode prog_2_method_14_code 46 = .ok (.goto (-42), 3) := dr_dd nD_D_weightOfMetAims_0 27 rfl
theorem d_D_weightOfMetAims_49 : decode prog_2_method_14_code 49 = .ok (.iload_n 2, 1) := dr_dd nD_D_weightOfMetAims_0 28 rfl
theorem d_D_weightOfMetAims_50 : decode prog_2_method_14_code 50 = .ok (.ireturn, 1) := dr_dd nD_D_weightOfMetAims_0 29 rfl
abbrev nL_S_init_0 : List (Nat × Instr × Nat) := [(0, .aload_n 0, 1), (1, .invokespecial 3, 3), (4, .aload_n 0, 1), (5, .bipush 41, 2), (7, .newarray .boolean, 2), (9, .putfield 9, 3), (12, .aload_n 0, 1), (13, .bipush 41, 2), (15, .newarray .int, 2), (17, .putfield 15, 3), (20, .aload_n 0, 1), (21, .bipush 41, 2), (23, .newarray .int, 2), (25, .putfield 19, 3), (28, .aload_n 0, 1), (29, .bipush 41, 2), (31, .newarray .int, 2), (33, .putfield 22, 3), (36, .aload_n 0, 1), (37, .bipush 41, 2), (39, .newarray .int, 2), (41, .putfield 25, 3), (44, .aload_n 0, 1), (45, .bipush 41, 2), (47, .newarray .boolean, 2), (49, .putfield 28, 3), (52, .aload_n 0, 1), (53, .bipush 41, 2), (55, .newarray .int, 2), (57, .putfield 31, 3), (60, .aload_n 0, 1), (61, .iconst 0, 1), (62, .putfield 34, 3), (65, .aload_n 0, 1), (66, .bipush 21, 2), (68, .newarray .int, 2), (70, .putfield 38, 3), (73, .aload_n 0, 1), (74, .bipush 21, 2), (76, .newarray .int, 2)]
theorem nD_S_init_0 : ∀ q ∈ nL_S_init_0, decode prog_3_method_1_code q.1 = .ok (q.2.1, q.2.2) := by decide +kernel
theorem d_S_init_0 : decode prog_3_method_1_code 0 = .ok (.aload_n 0, 1) := dr_dd nD_S_init_0 0 rfl
theorem d_S_init_1 : decode prog_3_method_1_code 1 = .ok (.invokespecial 3, 3) := dr_dd nD_S_init_0 1 rfl
theorem d_S_init_4 : decode prog_3_method_1_code 4 = .ok (.aload_n 0, 1) := dr_dd nD_S_init_0 2 rfl
theorem d_S_init_5 : decode prog_3_method_1_code 5 = .ok (.bipush 41, 2) := dr_dd nD_S_init_0 3 rfl
theorem d_S_init_7 : decode prog_3_method_1_code 7 = .ok (.newarray .boolean, 2) := dr_dd nD_S_init_0 4 rfl
theorem d_S_init_9 : decode prog_3_method_1_code 9 = .ok (.putfield 9, 3) := dr_dd nD_S_init_0 5 rfl
theorem d_S_init_12 : decode prog_3_method_1_code 12 = .ok (.aload_n 0, 1) := dr_dd nD_S_init_0 6 rfl
theorem d_S_init_13 : decode prog_3_method_1_code 13 = .ok (.bipush 41, 2) := dr_dd nD_S_init_0 7 rfl
theorem d_S_init_15 : decode prog_3_method_1_code 15 = .ok (.newarray .int, 2) := dr_dd nD_S_init_0 8 rfl
theorem d_S_init_17 : decode prog_3_method_1_code 17 = .ok (.putfield 15, 3) := dr_dd nD_S_init_0 9 rfl
theorem d_S_init_20 : decode prog_3_method_1_code 20 = .ok (.aload_n 0, 1) := dr_dd nD_S_init_0 10 rfl
theorem d_S_init_21 : decode prog_3_method_1_code 21 = .ok (.bipush 41, 2) := dr_dd nD_S_init_0 11 rfl
theorem d_S_init_23 : decode prog_3_method_1_code 23 = .ok (.newarray .int, 2) := dr_dd nD_S_init_0 12 rfl
theorem d_S_init_25 : decode prog_3_method_1_code 25 = .ok (.putfield 19, 3) := dr_dd nD_S_init_0 13 rfl
theorem d_S_init_28 : decode prog_3_method_1_code 28 = .ok (.aload_n 0, 1) := dr_dd nD_S_init_0 14 rfl
theorem d_S_init_29 : decode prog_3_method_1_code 29 = .ok (.bipush 41, 2) := dr_dd nD_S_init_0 15 rfl
theorem d_S_init_31 : decode prog_3_method_1_code 31 = .ok (.newarray .int, 2) := dr_dd nD_S_init_0 16 rfl
theorem d_S_init_33 : decode prog_3_method_1_code 33 = .ok (.putfield 22, 3) := dr_dd nD_S_init_0 17 rfl
theorem d_S_init_36 : decode prog_3_method_1_code 36 = .ok (.aload_n 0, 1) := dr_dd nD_S_init_0 18 rfl
theorem d_S_init_37 : decode prog_3_method_1_code 37 = .ok (.bipush 41, 2) := dr_dd nD_S_init_0 19 rfl
theorem d_S_init_39 : decode prog_3_method_1_code 39 = .ok (.newarray .int, 2) := dr_dd nD_S_init_0 20 rfl
theorem d_S_init_41 : decode prog_3_method_1_code 41 = .ok (.putfield 25, 3) := dr_dd nD_S_init_0 21 rfl
theorem d_S_init_44 : decode prog_3_method_1_code 44 = .ok (.aload_n 0, 1) := dr_dd nD_S_init_0 22 rfl
theorem d_S_init_45 : decode prog_3_method_1_code 45 = .ok (.bipush 41, 2) := dr_dd nD_S_init_0 23 rfl
theorem d_S_init_47 : decode prog_3_method_1_code 47 = .ok (.newarray .boolean, 2) := dr_dd nD_S_init_0 24 rfl
theorem d_S_init_49 : decode prog_3_method_1_code 49 = .ok (.putfield 28, 3) := dr_dd nD_S_init_0 25 rfl
theorem d_S_init_52 : decode prog_3_method_1_code 52 = .ok (.aload_n 0, 1) := dr_dd nD_S_init_0 26 rfl
theorem d_S_init_53 : decode prog_3_method_1_code 53 = .ok (.bipush 41, 2) := dr_dd nD_S_init_0 27 rfl
theorem d_S_init_55 : decode prog_3_method_1_code 55 = .ok (.newarray .int, 2) := dr_dd nD_S_init_0 28 rfl
theorem d_S_init_57 : decode prog_3_method_1_code 57 = .ok (.putfield 31, 3) := dr_dd nD_S_init_0 29 rfl
theorem d_S_init_60 : decode prog_3_method_1_code 60 = .ok (.aload_n 0, 1) := dr_dd nD_S_init_0 30 rfl
theorem d_S_init_61 : decode prog_3_method_1_code 61 = .ok (.iconst 0, 1) := dr_dd nD_S_init_0 31 rfl
theorem d_S_init_62 : decode prog_3_method_1_code 62 = .ok (.putfield 34, 3) := dr_dd nD_S_init_0 32 rfl
theorem d_S_init_65 : decode prog_3_method_1_code 65 = .ok (.aload_n 0, 1) := dr_dd nD_S_init_0 33 rfl
theorem d_S_init_66 : decode prog_3_method_1_code 66 = .ok (.bipush 21, 2) := dr_dd nD_S_init_0 34 rfl
theorem d_S_init_68 : decode prog_3_method_1_code 68 = .ok (.newarray .int, 2) := dr_dd nD_S_init_0 35 rfl
theorem d_S_init_70 : decode prog_3_method_1_code 70 = .ok (.putfield 38, 3) := dr_dd nD_S_init_0 36 rfl
theorem d_S_init_73 : decode prog_3_method_1_code 73 = .ok (.aload_n 0, 1) := dr_dd nD_S_init_0 37 rfl
theorem d_S_init_74 : decode prog_3_method_1_code 74 = .ok (.bipush 21, 2) := dr_dd nD_S_init_0 38 rfl
theorem d_S_init_76 : decode prog_3_method_1_code 76 = .ok (.newarray .int, 2) := dr_dd nD_S_init_0 39 rfl
abbrev nL_S_init_1 : List (Nat × Instr × Nat) := [(78, .putfield 41, 3), (81, .aload_n 0, 1), (82, .bipush 21, 2), (84, .newarray .int, 2), (86, .putfield 44, 3), (89, .aload_n 0, 1), (90, .bipush 21, 2), (92, .newarray .int, 2), (94, .putfield 47, 3), (97, .aload_n 0, 1), (98, .iconst 0, 1), (99, .putfield 50, 3), (102, .return_, 1)]
theorem nD_S_init_1 : ∀ q ∈ nL_S_init_1, decode prog_3_method_1_code q.1 = .ok (q.2.1, q.2.2) := by decide +kernel
theorem d_S_init_78 : decode prog_3_method_1_code 78 = .ok (.putfield 41, 3) := dr_dd nD_S_init_1 0 rfl
theorem d_S_init_81 : decode prog_3_method_1_code 81 = .ok (.aload_n 0, 1) := dr_dd nD_S_init_1 1 rfl
theorem d_S_init_82 : decode prog_3_method_1_code 82 = .ok (.bipush 21, 2) := dr_dd nD_S_init_1 2 rfl
theorem d_S_init_84 : decode prog_3_method_1_code 84 = .ok (.newarray .int, 2) := dr_dd nD_S_init_1 3 rfl
theorem d_S_init_86 : decode prog_3_method_1_code 86 = .ok (.putfield 44, 3) := dr_dd nD_S_init_1 4 rfl
theorem d_S_init_89 : decode prog_3_method_1_code 89 = .ok (.aload_n 0, 1) := dr_dd nD_S_init_1 5 rfl
theorem d_S_init_90 : decode prog_3_method_1_code 90 = .ok (.bipush 21, 2) := dr_dd nD_S_init_1 6 rfl
theorem d_S_init_92 : decode prog_3_method_1_code 92 = .ok (.newarray .int, 2) := dr_dd nD_S_init_1 7 rfl
theorem d_S_init_94 : decode prog_3_method_1_code 94 = .ok (.putfield 47, 3) := dr_dd nD_S_init_1 8 rfl
theorem d_S_init_97 : decode prog_3_method_1_code 97 = .ok (.aload_n 0, 1) := dr_dd nD_S_init_1 9 rfl
theorem d_S_init_98 : decode prog_3_method_1_code 98 = .ok (.iconst 0, 1) := dr_dd nD_S_init_1 10 rfl
theorem d_S_init_99 : decode prog_3_method_1_code 99 = .ok (.putfield 50, 3) := dr_dd nD_S_init_1 11 rfl
theorem d_S_init_102 : decode prog_3_method_1_code 102 = .ok (.return_, 1) := dr_dd nD_S_init_1 12 rfl
abbrev nL_S_clear_0 : List (Nat × Instr × Nat) := [(0, .iconst 0, 1), (1, .istore_n 1, 1), (2, .iload_n 1, 1), (3, .aload_n 0, 1), (4, .getfield 9, 3), (7, .arraylength, 1), (8, .if_icmp .ge 16, 3), (11, .aload_n 0, 1), (12, .getfield 9, 3), (15, .iload_n 1, 1), (16, .iconst 0, 1), (17, .bastore, 1), (18, .iinc 1 1, 3), (21, .goto (-19), 3), (24, .aload_n 0, 1), (25, .getfield 47, 3), (28, .iconst 0, 1), (29, .invokestatic 54, 3), (32, .aload_n 0, 1), (33, .iconst 0, 1), (34, .putfield 34, 3), (37, .return_, 1)]
theorem nD_S_clear_0 : ∀ q ∈ nL_S_clear_0, decode prog_3_method_2_code q.1 = .ok (q.2.1, q.2.2) := by decide +kernel
theorem d_S_clear_0 : decode prog_3_method_2_code 0 = .ok (.iconst 0, 1) := dr_dd nD_S_clear_0 0 rfl
theorem d_S_clear_1 : decode prog_3_method_2_code 1 = .ok (.istore_n 1, 1) := dr_dd nD_S_clear_0 1 rfl
theorem d_S_clear_2 : decode prog_3_method_2_code 2 = .ok (.iload_n 1, 1) := dr_dd nD_S_clear_0 2 rfl
theorem d_S_clear_3 : decode prog_3_method_2_code 3 = .ok (.aload_n 0, 1) := dr_dd nD_S_clear_0 3 rfl
theorem d_S_clear_4 : decode prog_3_method_2_code 4 = .ok (.getfield 9, 3) := dr_dd nD_S_clear_0 4 rfl
theorem d_S_clear_7 : decode prog_3_method_2_code 7 = .ok (.arraylength, 1) := dr_dd nD_S_clear_0 5 rfl
theorem d_S_clear_8 : decode prog_3_method_2_code 8 = .ok (.if_icmp .ge 16, 3) := dr_dd nD_S_clear_0 6 rfl
theorem d_S_clear_11 : decode prog_3_method_2_code 11 = .ok (.aload_n 0, 1) := dr_dd nD_S_clear_0 7 rfl
theorem d_S_clear_12 : decode prog_3_method_2_code 12 = .ok (.getfield 9, 3) := dr_dd nD_S_clear_0 8 rfl
theorem d_S_clear_15 : decode prog_3_method_2_code 15 = .ok (.iload_n 1, 1) := dr_dd nD_S_clear_0 9 rfl
theorem d_S_clear_16 : decode prog_3_method_2_code 16 = .ok (.iconst 0, 1) := dr_dd nD_S_clear_0 10 rfl
theorem d_S_clear_17 : decode prog_3_method_2_code 17 = .ok (.bastore, 1) := dr_dd nD_S_clear_0 11 rfl
theorem d_S_clear_18 : decode prog_3_method_2_code 18 = .ok (.iinc 1 1, 3) := dr_dd nD_S_clear_0 12 rfl
theorem d_S_clear_21 : decode prog_3_method_2_code 21 = .ok (.goto (-19), 3) := dr_dd nD_S_clear_0 13 rfl
theorem d_S_clear_24 : decode prog_3_method_2_code 24 = .ok (.aload_n 0, 1) := dr_dd nD_S_clear_0 14 rfl
theorem d_S_clear_25 : decode prog_3_method_2_code 25 = .ok (.getfield 47, 3) := dr_dd nD_S_clear_0 15 rfl
theorem d_S_clear_28 : decode prog_3_method_2_code 28 = .ok (.iconst 0, 1) := dr_dd nD_S_clear_0 16 rfl
theorem d_S_clear_29 : decode prog_3_method_2_code 29 = .ok (.invokestatic 54, 3) := dr_dd nD_S_clear_0 17 rfl
theorem d_S_clear_32 : decode prog_3_method_2_code 32 = .ok (.aload_n 0, 1) := dr_dd nD_S_clear_0 18 rfl
theorem d_S_clear_33 : decode prog_3_method_2_code 33 = .ok (.iconst 0, 1) := dr_dd nD_S_clear_0 19 rfl
theorem d_S_clear_34 : decode prog_3_method_2_code 34 = .ok (.putfield 34, 3) := dr_dd nD_S_clear_0 20 rfl
theorem d_S_clear_37 : decode prog_3_method_2_code 37 = .ok (.return_, 1) := dr_dd nD_S_clear_0 21 rfl
abbrev nL_S_hasEvent_0 : List (Nat × Instr × Nat) := [(0, .iload_n 1, 1), (1, .iconst 1, 1), (2, .if_icmp .lt 25, 3), (5, .iload_n 1, 1), (6, .aload_n 0, 1), (7, .getfield 9, 3), (10, .arraylength, 1), (11, .if_icmp .ge 16, 3), (14, .aload_n 0, 1), (15, .getfield 9, 3), (18, .iload_n 1, 1), (19, .baload, 1), (20, .ifCond .eq 7, 3), (23, .iconst 1, 1), (24, .goto 4, 3), (27, .iconst 0, 1), (28, .ireturn, 1)]
theorem nD_S_hasEvent_0 : ∀ q ∈ nL_S_hasEvent_0, decode prog_3_method_3_code q.1 = .ok (q.2.1, q.2.2) := by decide +kernel
theorem d_S_hasEvent_0 : decode prog_3_method_3_code 0 = .ok (.iload_n 1, 1) := dr_dd nD_S_hasEvent_0 0 rfl
theorem d_S_hasEvent_1 : decode prog_3_method_3_code 1 = .ok (.iconst 1, 1) := dr_dd nD_S_hasEvent_0 1 rfl
theorem d_S_hasEvent_2 : decode prog_3_method_3_code 2 = .ok (.if_icmp .lt 25, 3) := dr_dd nD_S_hasEvent_0 2 rfl
theorem d_S_hasEvent_5 : decode prog_3_method_3_code 5 = .ok (.iload_n 1, 1) := dr_dd nD_S_hasEvent_0 3 rfl
theorem d_S_hasEvent_6 : decode prog_3_method_3_code 6 = .ok (.aload_n 0, 1) := dr_dd nD_S_hasEvent_0 4 rfl
theorem d_S_hasEvent_7 : decode prog_3_method_3_code 7 = .ok (.getfield 9, 3) := dr_dd nD_S_hasEvent_0 5 rfl
theorem d_S_hasEvent_10 : decode prog_3_method_3_code 10 = .ok (.arraylength, 1) := dr_dd nD_S_hasEvent_0 6 rfl
theorem d_S_hasEvent_11 : decode prog_3_method_3_code 11 = .ok (.if_icmp .ge 16, 3) := dr_dd nD_S_hasEvent_0 7 rfl
theorem d_S_hasEvent_14 : decode prog_3_method_3_code 14 = .ok (.aload_n 0, 1) := dr_dd nD_S_hasEvent_0 8 rfl
theorem d_S_hasEvent_15 : decode prog_3_method_3_code 15 = .ok (.getfield 9, 3) := dr_dd nD_S_hasEvent_0 9 rfl
theorem d_S_hasEvent_18 : decode prog_3_method_3_code 18 = .ok (.iload_n 1, 1) := dr_dd nD_S_hasEvent_0 10 rfl
theorem d_S_hasEvent_19 : decode prog_3_method_3_code 19 = .ok (.baload, 1) := dr_dd nD_S_hasEvent_0 11 rfl
theorem d_S_hasEvent_20 : decode prog_3_method_3_code 20 = .ok (.ifCond .eq 7, 3) := dr_dd nD_S_hasEvent_0 12 rfl
theorem d_S_hasEvent_23 : decode prog_3_method_3_code 23 = .ok (.iconst 1, 1) := dr_dd nD_S_hasEvent_0 13 rfl
theorem d_S_hasEvent_24 : decode prog_3_method_3_code 24 = .ok (.goto 4, 3) := dr_dd nD_S_hasEvent_0 14 rfl
theorem d_S_hasEvent_27 : decode prog_3_method_3_code 27 = .ok (.iconst 0, 1) := dr_dd nD_S_hasEvent_0 15 rfl
theorem d_S_hasEvent_28 : decode prog_3_method_3_code 28 = .ok (.ireturn, 1) := dr_dd nD_S_hasEvent_0 16 rfl
abbrev nL_S_hasAim_0 : List (Nat × Instr × Nat) := [(0, .iload_n 1, 1), (1, .iconst 1, 1), (2, .if_icmp .lt 25, 3), (5, .iload_n 1, 1), (6, .aload_n 0, 1), (7, .getfield 47, 3), (10, .arraylength, 1), (11, .if_icmp .ge 16, 3), (14, .aload_n 0, 1), (15, .getfield 47, 3), (18, .iload_n 1, 1), (19, .iaload, 1), (20, .ifCond .le 7, 3), (23, .iconst 1, 1), (24, .goto 4, 3), (27, .iconst 0, 1), (28, .ireturn, 1)]
theorem nD_S_hasAim_0 : ∀ q ∈ nL_S_hasAim_0, decode prog_3_method_4_code q.1 = .ok (q.2.1, q.2.2) := by decide +kernel
theorem d_S_hasAim_0 : decode prog_3_method_4_code 0 = .ok (.iload_n 1, 1) := dr_dd nD_S_hasAim_0 0 rfl
theorem d_S_hasAim_1 : decode prog_3_method_4_code 1 = .ok (.iconst 1, 1) := dr_dd nD_S_hasAim_0 1 rfl
theorem d_S_hasAim_2 : decode prog_3_method_4_code 2 = .ok (.if_icmp .lt 25, 3) := dr_dd nD_S_hasAim_0 2 rfl
theorem d_S_hasAim_5 : decode prog_3_method_4_code 5 = .ok (.iload_n 1, 1) := dr_dd nD_S_hasAim_0 3 rfl
theorem d_S_hasAim_6 : decode prog_3_method_4_code 6 = .ok (.aload_n 0, 1) := dr_dd nD_S_hasAim_0 4 rfl
theorem d_S_hasAim_7 : decode prog_3_method_4_code 7 = .ok (.getfield 47, 3) := dr_dd nD_S_hasAim_0 5 rfl
theorem d_S_hasAim_10 : decode prog_3_method_4_code 10 = .ok (.arraylength, 1) := dr_dd nD_S_hasAim_0 6 rfl
theorem d_S_hasAim_11 : decode prog_3_method_4_code 11 = .ok (.if_icmp .ge 16, 3) := dr_dd nD_S_hasAim_0 7 rfl
theorem d_S_hasAim_14 : decode prog_3_method_4_code 14 = .ok (.aload_n 0, 1) := dr_dd nD_S_hasAim_0 8 rfl
theorem d_S_hasAim_15 : decode prog_3_method_4_code 15 = .ok (.getfield 47, 3) := dr_dd nD_S_hasAim_0 9 rfl
theorem d_S_hasAim_18 : decode prog_3_method_4_code 18 = .ok (.iload_n 1, 1) := dr_dd nD_S_hasAim_0 10 rfl
theorem d_S_hasAim_19 : decode prog_3_method_4_code 19 = .ok (.iaload, 1) := dr_dd nD_S_hasAim_0 11 rfl
theorem d_S_hasAim_20 : decode prog_3_method_4_code 20 = .ok (.ifCond .le 7, 3) := dr_dd nD_S_hasAim_0 12 rfl
theorem d_S_hasAim_23 : decode prog_3_method_4_code 23 = .ok (.iconst 1, 1) := dr_dd nD_S_hasAim_0 13 rfl
theorem d_S_hasAim_24 : decode prog_3_method_4_code 24 = .ok (.goto 4, 3) := dr_dd nD_S_hasAim_0 14 rfl
theorem d_S_hasAim_27 : decode prog_3_method_4_code 27 = .ok (.iconst 0, 1) := dr_dd nD_S_hasAim_0 15 rfl
theorem d_S_hasAim_28 : decode prog_3_method_4_code 28 = .ok (.ireturn, 1) := dr_dd nD_S_hasAim_0 16 rfl
abbrev nL_S_addEvent_0 : List (Nat × Instr × Nat) := [(0, .iload_n 1, 1), (1, .iconst 1, 1), (2, .if_icmp .lt 9, 3), (5, .iload_n 1, 1), (6, .bipush 40, 2), (8, .if_icmp .le 4, 3), (11, .return_, 1), (12, .aload_n 0, 1), (13, .getfield 9, 3), (16, .iload_n 1, 1), (17, .iconst 1, 1), (18, .bastore, 1), (19, .aload_n 0, 1), (20, .getfield 15, 3), (23, .iload_n 1, 1), (24, .iload_n 2, 1), (25, .iastore, 1), (26, .aload_n 0, 1), (27, .getfield 19, 3), (30, .iload_n 1, 1), (31, .iload_n 3, 1), (32, .iastore, 1), (33, .aload_n 0, 1), (34, .getfield 22, 3), (37, .iload_n 1, 1), (38, .iload 4, 2), (40, .iastore, 1), (41, .aload_n 0, 1), (42, .dup, 1), (43, .getfield 34, 3), (46, .iconst 1, 1), (47, .iadd, 1), (48, .putfield 34, 3), (51, .return_, 1)]
theorem nD_S_addEvent_0 : ∀ q ∈ nL_S_addEvent_0, decode prog_3_method_5_code q.1 = .ok (q.2.1, q.2.2) := by decide +kernel
theorem d_S_addEvent_0 : decode prog_3_method_5_code 0 = .ok (.iload_n 1, 1) := dr_dd nD_S_addEvent_0 0 rfl
theorem d_S_addEvent_1 : decode prog_3_method_5_code 1 = .ok (.iconst 1, 1) := dr_dd nD_S_addEvent_0 1 rfl
theorem d_S_addEvent_2 : decode prog_3_method_5_code 2 = .ok (.if_icmp .lt 9, 3) := dr_dd nD_S_addEvent_0 2 rfl
theorem d_S_addEvent_5 : decode prog_3_method_5_code 5 = .ok (.iload_n 1, 1) := dr_dd nD_S_addEvent_0 3 rfl
theorem d_S_addEvent_6 : decode prog_3_method_5_code 6 = .ok (.bipush 40, 2) := dr_dd nD_S_addEvent_0 4 rfl
theorem d_S_addEvent_8 : decode prog_3_method_5_code 8 = .ok (.if_icmp .le 4, 3) := dr_dd nD_S_addEvent_0 5 rfl
theorem d_S_addEvent_11 : decode prog_3_method_5_code 11 = .ok (.return_, 1) := dr_dd nD_S_addEvent_0 6 rfl
theorem d_S_addEvent_12 : decode prog_3_method_5_code 12 = .ok (.aload_n 0, 1) := dr_dd nD_S_addEvent_0 7 rfl
theorem d_S_addEvent_13 : decode prog_3_method_5_code 13 = .ok (.getfield 9, 3) := dr_dd nD_S_addEvent_0 8 rfl
theorem d_S_addEvent_16 : decode prog_3_method_5_code 16 = .ok (.iload_n 1, 1) := dr_dd nD_S_addEvent_0 9 rfl
theorem d_S_addEvent_17 : decode prog_3_method_5_code 17 = .ok (.iconst 1, 1) := dr_dd nD_S_addEvent_0 10 rfl
theorem d_S_addEvent_18 : decode prog_3_method_5_code 18 = .ok (.bastore, 1) := dr_dd nD_S_addEvent_0 11 rfl
theorem d_S_addEvent_19 : decode prog_3_method_5_code 19 = .ok (.aload_n 0, 1) := dr_dd nD_S_addEvent_0 12 rfl
theorem d_S_addEvent_20 : decode prog_3_method_5_code 20 = .ok (.getfield 15, 3) := dr_dd nD_S_addEvent_0 13 rfl
theorem d_S_addEvent_23 : decode prog_3_method_5_code 23 = .ok (.iload_n 1, 1) := dr_dd nD_S_addEvent_0 14 rfl
theorem d_S_addEvent_24 : decode prog_3_method_5_code 24 = .ok (.iload_n 2, 1) := dr_dd nD_S_addEvent_0 15 rfl
theorem d_S_addEvent_25 : decode prog_3_method_5_code 25 = .ok (.iastore, 1) := dr_dd nD_S_addEvent_0 16 rfl
theorem d_S_addEvent_26 : decode prog_3_method_5_code 26 = .ok (.aload_n 0, 1) := dr_dd nD_S_addEvent_0 17 rfl
theorem d_S_addEvent_27 : decode prog_3_method_5_code 27 = .ok (.getfield 19, 3) := dr_dd nD_S_addEvent_0 18 rfl
theorem d_S_addEvent_30 : decode prog_3_method_5_code 30 = .ok (.iload_n 1, 1) := dr_dd nD_S_addEvent_0 19 rfl
theorem d_S_addEvent_31 : decode prog_3_method_5_code 31 = .ok (.iload_n 3, 1) := dr_dd nD_S_addEvent_0 20 rfl
theorem d_S_addEvent_32 : decode prog_3_method_5_code 32 = .ok (.iastore, 1) := dr_dd nD_S_addEvent_0 21 rfl
theorem d_S_addEvent_33 : decode prog_3_method_5_code 33 = .ok (.aload_n 0, 1) := dr_dd nD_S_addEvent_0 22 rfl
theorem d_S_addEvent_34 : decode prog_3_method_5_code 34 = .ok (.getfield 22, 3) := dr_dd nD_S_addEvent_0 23 rfl
theorem d_S_addEvent_37 : decode prog_3_method_5_code 37 = .ok (.iload_n 1, 1) := dr_dd nD_S_addEvent_0 24 rfl
theorem d_S_addEvent_38 : decode prog_3_method_5_code 38 = .ok (.iload 4, 2) := dr_dd nD_S_addEvent_0 25 rfl
theorem d_S_addEvent_40 : decode prog_3_method_5_code 40 = .ok (.iastore, 1) := dr_dd nD_S_addEvent_0 26 rfl
theorem d_S_addEvent_41 : decode prog_3_method_5_code 41 = .ok (.aload_n 0, 1) := dr_dd nD_S_addEvent_0 27 rfl
theorem d_S_addEvent_42 : decode prog_3_method_5_code 42 = .ok (.dup, 1) := dr_dd nD_S_addEvent_0 28 rfl
theorem d_S_addEvent_43 : decode prog_3_method_5_code 43 = .ok (.getfield 34, 3) := dr_dd nD_S_addEvent_0 29 rfl
theorem d_S_addEvent_46 : decode prog_3_method_5_code 46 = .ok (.iconst 1, 1) := dr_dd nD_S_addEvent_0 30 rfl
theorem d_S_addEvent_47 : decode prog_3_method_5_code 47 = .ok (.iadd, 1) := dr_dd nD_S_addEvent_0 31 rfl
theorem d_S_addEvent_48 : decode prog_3_method_5_code 48 = .ok (.putfield 34, 3) := dr_dd nD_S_addEvent_0 32 rfl
theorem d_S_addEvent_51 : decode prog_3_method_5_code 51 = .ok (.return_, 1) := dr_dd nD_S_addEvent_0 33 rfl
abbrev nL_S_describeEvent_0 : List (Nat × Instr × Nat) := [(0, .iload_n 1, 1), (1, .iconst 1, 1), (2, .if_icmp .lt 9, 3), (5, .iload_n 1, 1), (6, .bipush 40, 2), (8, .if_icmp .le 4, 3), (11, .return_, 1), (12, .aload_n 0, 1), (13, .getfield 25, 3), (16, .iload_n 1, 1), (17, .iload_n 2, 1), (18, .iastore, 1), (19, .aload_n 0, 1), (20, .getfield 28, 3), (23, .iload_n 1, 1), (24, .iload_n 3, 1), (25, .bastore, 1), (26, .aload_n 0, 1), (27, .getfield 31, 3), (30, .iload_n 1, 1), (31, .iload 4, 2), (33, .iastore, 1), (34, .return_, 1)]
theorem nD_S_describeEvent_0 : ∀ q ∈ nL_S_describeEvent_0, decode prog_3_method_6_code q.1 = .ok (q.2.1, q.2.2) := by decide +kernel
theorem d_S_describeEvent_0 : decode prog_3_method_6_code 0 = .ok (.iload_n 1, 1) := dr_dd nD_S_describeEvent_0 0 rfl
theorem d_S_describeEvent_1 : decode prog_3_method_6_code 1 = .ok (.iconst 1, 1) := dr_dd nD_S_describeEvent_0 1 rfl
theorem d_S_describeEvent_2 : decode prog_3_method_6_code 2 = .ok (.if_icmp .lt 9, 3) := dr_dd nD_S_describeEvent_0 2 rfl
theorem d_S_describeEvent_5 : decode prog_3_method_6_code 5 = .ok (.iload_n 1, 1) := dr_dd nD_S_describeEvent_0 3 rfl
theorem d_S_describeEvent_6 : decode prog_3_method_6_code 6 = .ok (.bipush 40, 2) := dr_dd nD_S_describeEvent_0 4 rfl
theorem d_S_describeEvent_8 : decode prog_3_method_6_code 8 = .ok (.if_icmp .le 4, 3) := dr_dd nD_S_describeEvent_0 5 rfl
theorem d_S_describeEvent_11 : decode prog_3_method_6_code 11 = .ok (.return_, 1) := dr_dd nD_S_describeEvent_0 6 rfl
theorem d_S_describeEvent_12 : decode prog_3_method_6_code 12 = .ok (.aload_n 0, 1) := dr_dd nD_S_describeEvent_0 7 rfl
theorem d_S_describeEvent_13 : decode prog_3_method_6_code 13 = .ok (.getfield 25, 3) := dr_dd nD_S_describeEvent_0 8 rfl
theorem d_S_describeEvent_16 : decode prog_3_method_6_code 16 = .ok (.iload_n 1, 1) := dr_dd nD_S_describeEvent_0 9 rfl
theorem d_S_describeEvent_17 : decode prog_3_method_6_code 17 = .ok (.iload_n 2, 1) := dr_dd nD_S_describeEvent_0 10 rfl
theorem d_S_describeEvent_18 : decode prog_3_method_6_code 18 = .ok (.iastore, 1) := dr_dd nD_S_describeEvent_0 11 rfl
theorem d_S_describeEvent_19 : decode prog_3_method_6_code 19 = .ok (.aload_n 0, 1) := dr_dd nD_S_describeEvent_0 12 rfl
theorem d_S_describeEvent_20 : decode prog_3_method_6_code 20 = .ok (.getfield 28, 3) := dr_dd nD_S_describeEvent_0 13 rfl
theorem d_S_describeEvent_23 : decode prog_3_method_6_code 23 = .ok (.iload_n 1, 1) := dr_dd nD_S_describeEvent_0 14 rfl
theorem d_S_describeEvent_24 : decode prog_3_method_6_code 24 = .ok (.iload_n 3, 1) := dr_dd nD_S_describeEvent_0 15 rfl
theorem d_S_describeEvent_25 : decode prog_3_method_6_code 25 = .ok (.bastore, 1) := dr_dd nD_S_describeEvent_0 16 rfl
theorem d_S_describeEvent_26 : decode prog_3_method_6_code 26 = .ok (.aload_n 0, 1) := dr_dd nD_S_describeEvent_0 17 rfl
theorem d_S_describeEvent_27 : decode prog_3_method_6_code 27 = .ok (.getfield 31, 3) := dr_dd nD_S_describeEvent_0 18 rfl
theorem d_S_describeEvent_30 : decode prog_3_method_6_code 30 = .ok (.iload_n 1, 1) := dr_dd nD_S_describeEvent_0 19 rfl
theorem d_S_describeEvent_31 : decode prog_3_method_6_code 31 = .ok (.iload 4, 2) := dr_dd nD_S_describeEvent_0 20 rfl
theorem d_S_describeEvent_33 : decode prog_3_method_6_code 33 = .ok (.iastore, 1) := dr_dd nD_S_describeEvent_0 21 rfl
theorem d_S_describeEvent_34 : decode prog_3_method_6_code 34 = .ok (.return_, 1) := dr_dd nD_S_describeEvent_0 22 rfl
abbrev nL_S_addAim_0 : List (Nat × Instr × Nat) := [(0, .iload_n 1, 1), (1, .iconst 1, 1), (2, .if_icmp .lt 9, 3), (5, .iload_n 1, 1), (6, .bipush 20, 2), (8, .if_icmp .le 4, 3), (11, .return_, 1), (12, .aload_n 0, 1), (13, .getfield 38, 3), (16, .iload_n 1, 1), (17, .iload_n 2, 1), (18, .iastore, 1), (19, .aload_n 0, 1), (20, .getfield 41, 3), (23, .iload_n 1, 1), (24, .iload_n 3, 1), (25, .iastore, 1), (26, .aload_n 0, 1), (27, .getfield 44, 3), (30, .iload_n 1, 1), (31, .iload 4, 2), (33, .iastore, 1), (34, .aload_n 0, 1), (35, .getfield 47, 3), (38, .iload_n 1, 1), (39, .iload 5, 2), (41, .iastore, 1), (42, .return_, 1)]
theorem nD_S_addAim_0 : ∀ q ∈ nL_S_addAim_0, decode prog_3_method_7_code q.1 = .ok (q.2.1, q.2.2) := by decide +kernel
theorem d_S_addAim_0 : decode prog_3_method_7_code 0 = .ok (.iload_n 1, 1) := dr_dd nD_S_addAim_0 0 rfl
theorem d_S_addAim_1 : decode prog_3_method_7_code 1 = .ok (.iconst 1, 1) := dr_dd nD_S_addAim_0 1 rfl
theorem d_S_addAim_2 : decode prog_3_method_7_code 2 = .ok (.if_icmp .lt 9, 3) := dr_dd nD_S_addAim_0 2 rfl
theorem d_S_addAim_5 : decode prog_3_method_7_code 5 = .ok (.iload_n 1, 1) := dr_dd nD_S_addAim_0 3 rfl
theorem d_S_addAim_6 : decode prog_3_method_7_code 6 = .ok (.bipush 20, 2) := dr_dd nD_S_addAim_0 4 rfl
theorem d_S_addAim_8 : decode prog_3_method_7_code 8 = .ok (.if_icmp .le 4, 3) := dr_dd nD_S_addAim_0 5 rfl
theorem d_S_addAim_11 : decode prog_3_method_7_code 11 = .ok (.return_, 1) := dr_dd nD_S_addAim_0 6 rfl
theorem d_S_addAim_12 : decode prog_3_method_7_code 12 = .ok (.aload_n 0, 1) := dr_dd nD_S_addAim_0 7 rfl
theorem d_S_addAim_13 : decode prog_3_method_7_code 13 = .ok (.getfield 38, 3) := dr_dd nD_S_addAim_0 8 rfl
theorem d_S_addAim_16 : decode prog_3_method_7_code 16 = .ok (.iload_n 1, 1) := dr_dd nD_S_addAim_0 9 rfl
theorem d_S_addAim_17 : decode prog_3_method_7_code 17 = .ok (.iload_n 2, 1) := dr_dd nD_S_addAim_0 10 rfl
theorem d_S_addAim_18 : decode prog_3_method_7_code 18 = .ok (.iastore, 1) := dr_dd nD_S_addAim_0 11 rfl
theorem d_S_addAim_19 : decode prog_3_method_7_code 19 = .ok (.aload_n 0, 1) := dr_dd nD_S_addAim_0 12 rfl
theorem d_S_addAim_20 : decode prog_3_method_7_code 20 = .ok (.getfield 41, 3) := dr_dd nD_S_addAim_0 13 rfl
theorem d_S_addAim_23 : decode prog_3_method_7_code 23 = .ok (.iload_n 1, 1) := dr_dd nD_S_addAim_0 14 rfl
theorem d_S_addAim_24 : decode prog_3_method_7_code 24 = .ok (.iload_n 3, 1) := dr_dd nD_S_addAim_0 15 rfl
theorem d_S_addAim_25 : decode prog_3_method_7_code 25 = .ok (.iastore, 1) := dr_dd nD_S_addAim_0 16 rfl
theorem d_S_addAim_26 : decode prog_3_method_7_code 26 = .ok (.aload_n 0, 1) := dr_dd nD_S_addAim_0 17 rfl
theorem d_S_addAim_27 : decode prog_3_method_7_code 27 = .ok (.getfield 44, 3) := dr_dd nD_S_addAim_0 18 rfl
theorem d_S_addAim_30 : decode prog_3_method_7_code 30 = .ok (.iload_n 1, 1) := dr_dd nD_S_addAim_0 19 rfl
theorem d_S_addAim_31 : decode prog_3_method_7_code 31 = .ok (.iload 4, 2) := dr_dd nD_S_addAim_0 20 rfl
theorem d_S_addAim_33 : decode prog_3_method_7_code 33 = .ok (.iastore, 1) := dr_dd nD_S_addAim_0 21 rfl
theorem d_S_addAim_34 : decode prog_3_method_7_code 34 = .ok (.aload_n 0, 1) := dr_dd nD_S_addAim_0 22 rfl
theorem d_S_addAim_35 : decode prog_3_method_7_code 35 = .ok (.getfield 47, 3) := dr_dd nD_S_addAim_0 23 rfl
theorem d_S_addAim_38 : decode prog_3_method_7_code 38 = .ok (.iload_n 1, 1) := dr_dd nD_S_addAim_0 24 rfl
theorem d_S_addAim_39 : decode prog_3_method_7_code 39 = .ok (.iload 5, 2) := dr_dd nD_S_addAim_0 25 rfl
theorem d_S_addAim_41 : decode prog_3_method_7_code 41 = .ok (.iastore, 1) := dr_dd nD_S_addAim_0 26 rfl
theorem d_S_addAim_42 : decode prog_3_method_7_code 42 = .ok (.return_, 1) := dr_dd nD_S_addAim_0 27 rfl
abbrev nL_S_weightOfAims_0 : List (Nat × Instr × Nat) := [(0, .iconst 0, 1), (1, .istore_n 1, 1), (2, .aload_n 0, 1), (3, .getfield 47, 3), (6, .astore_n 2, 1), (7, .aload_n 2, 1), (8, .arraylength, 1), (9, .istore_n 3, 1), (10, .iconst 0, 1), (11, .istore 4, 2), (13, .iload 4, 2), (15, .iload_n 3, 1), (16, .if_icmp .ge 20, 3), (19, .aload_n 2, 1), (20, .iload 4, 2), (22, .iaload, 1), (23, .istore 5, 2), (25, .iload_n 1, 1), (26, .iload 5, 2), (28, .iadd, 1), (29, .istore_n 1, 1), (30, .iinc 4 1, 3), (33, .goto (-20), 3), (36, .iload_n 1, 1), (37, .ireturn, 1)]
theorem nD_S_weightOfAims_0 : ∀ q ∈ nL_S_weightOfAims_0, decode prog_3_method_8_code q.1 = .ok (q.2.1, q.2.2) := by decide +kernel
theorem d_S_weightOfAims_0 : decode prog_3_method_8_code 0 = .ok (.iconst 0, 1) := dr_dd nD_S_weightOfAims_0 0 rfl
theorem d_S_weightOfAims_1 : decode prog_3_method_8_code 1 = .ok (.istore_n 1, 1) := dr_dd nD_S_weightOfAims_0 1 rfl
theorem d_S_weightOfAims_2 : decode prog_3_method_8_code 2 = .ok (.aload_n 0, 1) := dr_dd nD_S_weightOfAims_0 2 rfl
theorem d_S_weightOfAims_3 : decode prog_3_method_8_code 3 = .ok (.getfield 47, 3) := dr_dd nD_S_weightOfAims_0 3 rfl
theorem d_S_weightOfAims_6 : decode prog_3_method_8_code 6 = .ok (.astore_n 2, 1) := dr_dd nD_S_weightOfAims_0 4 rfl
theorem d_S_weightOfAims_7 : decode prog_3_method_8_code 7 = .ok (.aload_n 2, 1) := dr_dd nD_S_weightOfAims_0 5 rfl
theorem d_S_weightOfAims_8 : decode prog_3_method_8_code 8 = .ok (.arraylength, 1) := dr_dd nD_S_weightOfAims_0 6 rfl
theorem d_S_weightOfAims_9 : decode prog_3_method_8_code 9 = .ok (.istore_n 3, 1) := dr_dd nD_S_weightOfAims_0 7 rfl
theorem d_S_weightOfAims_10 : decode prog_3_method_8_code 10 = .ok (.iconst 0, 1) := dr_dd nD_S_weightOfAims_0 8 rfl
theorem d_S_weightOfAims_11 : decode prog_3_method_8_code 11 = .ok (.istore 4, 2) := dr_dd nD_S_weightOfAims_0 9 rfl
theorem d_S_weightOfAims_13 : decode prog_3_method_8_code 13 = .ok (.iload 4, 2) := dr_dd nD_S_weightOfAims_0 10 rfl
theorem d_S_weightOfAims_15 : decode prog_3_method_8_code 15 = .ok (.iload_n 3, 1) := dr_dd nD_S_weightOfAims_0 11 rfl
theorem d_S_weightOfAims_16 : decode prog_3_method_8_code 16 = .ok (.if_icmp .ge 20, 3) := dr_dd nD_S_weightOfAims_0 12 rfl
theorem d_S_weightOfAims_19 : decode prog_3_method_8_code 19 = .ok (.aload_n 2, 1) := dr_dd nD_S_weightOfAims_0 13 rfl
theorem d_S_weightOfAims_20 : decode prog_3_method_8_code 20 = .ok (.iload 4, 2) := dr_dd nD_S_weightOfAims_0 14 rfl
theorem d_S_weightOfAims_22 : decode prog_3_method_8_code 22 = .ok (.iaload, 1) := dr_dd nD_S_weightOfAims_0 15 rfl
theorem d_S_weightOfAims_23 : decode prog_3_method_8_code 23 = .ok (.istore 5, 2) := dr_dd nD_S_weightOfAims_0 16 rfl
theorem d_S_weightOfAims_25 : decode prog_3_method_8_code 25 = .ok (.iload_n 1, 1) := dr_dd nD_S_weightOfAims_0 17 rfl
theorem d_S_weightOfAims_26 : decode prog_3_method_8_code 26 = .ok (.iload 5, 2) := dr_dd nD_S_weightOfAims_0 18 rfl
theorem d_S_weightOfAims_28 : decode prog_3_method_8_code 28 = .ok (.iadd, 1) := dr_dd nD_S_weightOfAims_0 19 rfl
theorem d_S_weightOfAims_29 : decode prog_3_method_8_code 29 = .ok (.istore_n 1, 1) := dr_dd nD_S_weightOfAims_0 20 rfl
theorem d_S_weightOfAims_30 : decode prog_3_method_8_code 30 = .ok (.iinc 4 1, 3) := dr_dd nD_S_weightOfAims_0 21 rfl
theorem d_S_weightOfAims_33 : decode prog_3_method_8_code 33 = .ok (.goto (-20), 3) := dr_dd nD_S_weightOfAims_0 22 rfl
theorem d_S_weightOfAims_36 : decode prog_3_method_8_code 36 = .ok (.iload_n 1, 1) := dr_dd nD_S_weightOfAims_0 23 rfl
theorem d_S_weightOfAims_37 : decode prog_3_method_8_code 37 = .ok (.ireturn, 1) := dr_dd nD_S_weightOfAims_0 24 rfl
abbrev nL_T_init_0 : List (Nat × Instr × Nat) := [(0, .aload_n 0, 1), (1, .invokespecial 3, 3), (4, .aload_n 0, 1), (5, .sipush 300, 3), (8, .newarray .int, 2), (10, .putfield 9, 3), (13, .aload_n 0, 1), (14, .iconst 0, 1), (15, .putfield 15, 3), (18, .aload_n 0, 1), (19, .iconst 0, 1), (20, .putfield 19, 3), (23, .aload_n 0, 1), (24, .iconst (-1), 1), (25, .putfield 22, 3), (28, .return_, 1)]
theorem nD_T_init_0 : ∀ q ∈ nL_T_init_0, decode prog_4_method_1_code q.1 = .ok (q.2.1, q.2.2) := by decide +kernel
theorem d_T_init_0 : decode prog_4_method_1_code 0 = .ok (.aload_n 0, 1) := dr_dd nD_T_init_0 0 rfl
theorem d_T_init_1 : decode prog_4_method_1_code 1 = .ok (.invokespecial 3, 3) := dr_dd nD_T_init_0 1 rfl
theorem d_T_init_4 : decode prog_4_method_1_code 4 = .ok (.aload_n 0, 1) := dr_dd nD_T_init_0 2 rfl
theorem d_T_init_5 : decode prog_4_method_1_code 5 = .ok (.sipush 300, 3) := dr_dd nD_T_init_0 3 rfl
theorem d_T_init_8 : decode prog_4_method_1_code 8 = .ok (.newarray .int, 2) := dr_dd nD_T_init_0 4 rfl
theorem d_T_init_10 : decode prog_4_method_1_code 10 = .ok (.putfield 9, 3) := dr_dd nD_T_init_0 5 rfl
theorem d_T_init_13 : decode prog_4_method_1_code 13 = .ok (.aload_n 0, 1) := dr_dd nD_T_init_0 6 rfl
theorem d_T_init_14 : decode prog_4_method_1_code 14 = .ok (.iconst 0, 1) := dr_dd nD_T_init_0 7 rfl
theorem d_T_init_15 : decode prog_4_method_1_code 15 = .ok (.putfield 15, 3) := dr_dd nD_T_init_0 8 rfl
theorem d_T_init_18 : decode prog_4_method_1_code 18 = .ok (.aload_n 0, 1) := dr_dd nD_T_init_0 9 rfl
theorem d_T_init_19 : decode prog_4_method_1_code 19 = .ok (.iconst 0, 1) := dr_dd nD_T_init_0 10 rfl
theorem d_T_init_20 : decode prog_4_method_1_code 20 = .ok (.putfield 19, 3) := dr_dd nD_T_init_0 11 rfl
theorem d_T_init_23 : decode prog_4_method_1_code 23 = .ok (.aload_n 0, 1) := dr_dd nD_T_init_0 12 rfl
theorem d_T_init_24 : decode prog_4_method_1_code 24 = .ok (.iconst (-1), 1) := dr_dd nD_T_init_0 13 rfl
theorem d_T_init_25 : decode prog_4_method_1_code 25 = .ok (.putfield 22, 3) := dr_dd nD_T_init_0 14 rfl
theorem d_T_init_28 : decode prog_4_method_1_code 28 = .ok (.return_, 1) := dr_dd nD_T_init_0 15 rfl
abbrev nL_T_hasRoomFor_0 : List (Nat × Instr × Nat) := [(0, .aload_n 0, 1), (1, .getfield 15, 3), (4, .iload_n 1, 1), (5, .iadd, 1), (6, .aload_n 0, 1), (7, .getfield 9, 3), (10, .arraylength, 1), (11, .if_icmp .gt 7, 3), (14, .iconst 1, 1), (15, .goto 4, 3), (18, .iconst 0, 1), (19, .ireturn, 1)]
theorem nD_T_hasRoomFor_0 : ∀ q ∈ nL_T_hasRoomFor_0, decode prog_4_method_2_code q.1 = .ok (q.2.1, q.2.2) := by decide +kernel
theorem d_T_hasRoomFor_0 : decode prog_4_method_2_code 0 = .ok (.aload_n 0, 1) := dr_dd nD_T_hasRoomFor_0 0 rfl
theorem d_T_hasRoomFor_1 : decode prog_4_method_2_code 1 = .ok (.getfield 15, 3) := dr_dd nD_T_hasRoomFor_0 1 rfl
theorem d_T_hasRoomFor_4 : decode prog_4_method_2_code 4 = .ok (.iload_n 1, 1) := dr_dd nD_T_hasRoomFor_0 2 rfl
theorem d_T_hasRoomFor_5 : decode prog_4_method_2_code 5 = .ok (.iadd, 1) := dr_dd nD_T_hasRoomFor_0 3 rfl
theorem d_T_hasRoomFor_6 : decode prog_4_method_2_code 6 = .ok (.aload_n 0, 1) := dr_dd nD_T_hasRoomFor_0 4 rfl
theorem d_T_hasRoomFor_7 : decode prog_4_method_2_code 7 = .ok (.getfield 9, 3) := dr_dd nD_T_hasRoomFor_0 5 rfl
theorem d_T_hasRoomFor_10 : decode prog_4_method_2_code 10 = .ok (.arraylength, 1) := dr_dd nD_T_hasRoomFor_0 6 rfl
theorem d_T_hasRoomFor_11 : decode prog_4_method_2_code 11 = .ok (.if_icmp .gt 7, 3) := dr_dd nD_T_hasRoomFor_0 7 rfl
theorem d_T_hasRoomFor_14 : decode prog_4_method_2_code 14 = .ok (.iconst 1, 1) := dr_dd nD_T_hasRoomFor_0 8 rfl
theorem d_T_hasRoomFor_15 : decode prog_4_method_2_code 15 = .ok (.goto 4, 3) := dr_dd nD_T_hasRoomFor_0 9 rfl
theorem d_T_hasRoomFor_18 : decode prog_4_method_2_code 18 = .ok (.iconst 0, 1) := dr_dd nD_T_hasRoomFor_0 10 rfl
theorem d_T_hasRoomFor_19 : decode prog_4_method_2_code 19 = .ok (.ireturn, 1) := dr_dd nD_T_hasRoomFor_0 11 rfl
abbrev nL_T_append_0 : List (Nat × Instr × Nat) := [(0, .iload_n 3, 1), (1, .iconst 1, 1), (2, .isub, 1), (3, .istore 4, 2), (5, .iload 4, 2), (7, .ifCond .lt 52, 3), (10, .aload_n 0, 1), (11, .getfield 15, 3), (14, .aload_n 0, 1), (15, .getfield 9, 3), (18, .arraylength, 1), (19, .if_icmp .ge 40, 3), (22, .aload_n 0, 1), (23, .getfield 9, 3), (26, .aload_n 0, 1), (27, .getfield 15, 3), (30, .lload_n 1, 1), (31, .bipush 8, 2), (33, .iload 4, 2), (35, .imul, 1), (36, .lushr, 1), (37, .l2i, 1), (38, .sipush 255, 3), (41, .iand, 1), (42, .iastore, 1), (43, .aload_n 0, 1), (44, .dup, 1), (45, .getfield 15, 3), (48, .iconst 1, 1), (49, .iadd, 1), (50, .putfield 15, 3), (53, .iinc 4 (-1), 3), (56, .goto (-51), 3), (59, .aload_n 0, 1), (60, .getfield 15, 3), (63, .ireturn, 1)]
theorem nD_T_append_0 : ∀ q ∈ nL_T_append_0, decode prog_4_method_3_code q.1 = .ok (q.2.1, q.2.2) := by decide +kernel
theorem d_T_append_0 : decode prog_4_method_3_code 0 = .ok (.iload_n 3, 1) := dr_dd nD_T_append_0 0 rfl
theorem d_T_append_1 : decode prog_4_method_3_code 1 = .ok (.iconst 1, 1) := dr_dd nD_T_append_0 1 rfl
theorem d_T_append_2 : decode prog_4_method_3_code 2 = .ok (.isub, 1) := dr_dd nD_T_append_0 2 rfl
theorem d_T_append_3 : decode prog_4_method_3_code 3 = .ok (.istore 4, 2) := dr_dd nD_T_append_0 3 rfl
theorem d_T_append_5 : decode prog_4_method_3_code 5 = .ok (.iload 4, 2) := dr_dd nD_T_append_0 4 rfl
theorem d_T_append_7 : decode prog_4_method_3_code 7 = .ok (.ifCond .lt 52, 3) := dr_dd nD_T_append_0 5 rfl
theorem d_T_append_10 : decode prog_4_method_3_code 10 = .ok (.aload_n 0, 1) := dr_dd nD_T_append_0 6 rfl
theorem d_T_append_11 : decode prog_4_method_3_code 11 = .ok (.getfield 15, 3) := dr_dd nD_T_append_0 7 rfl
theorem d_T_append_14 : decode prog_4_method_3_code 14 = .ok (.aload_n 0, 1) := dr_dd nD_T_append_0 8 rfl
theorem d_T_append_15 : decode prog_4_method_3_code 15 = .ok (.getfield 9, 3) := dr_dd nD_T_append_0 9 rfl
theorem d_T_append_18 : decode prog_4_method_3_code 18 = .ok (.arraylength, 1) := dr_dd nD_T_append_0 10 rfl
theorem d_T_append_19 : decode prog_4_method_3_code 19 = .ok (.if_icmp .ge 40, 3) := dr_dd nD_T_append_0 11 rfl
theorem d_T_append_22 : decode prog_4_method_3_code 22 = .ok (.aload_n 0, 1) := dr_dd nD_T_append_0 12 rfl
theorem d_T_append_23 : decode prog_4_method_3_code 23 = .ok (.getfield 9, 3) := dr_dd nD_T_append_0 13 rfl
theorem d_T_append_26 : decode prog_4_method_3_code 26 = .ok (.aload_n 0, 1) := dr_dd nD_T_append_0 14 rfl
theorem d_T_append_27 : decode prog_4_method_3_code 27 = .ok (.getfield 15, 3) := dr_dd nD_T_append_0 15 rfl
theorem d_T_append_30 : decode prog_4_method_3_code 30 = .ok (.lload_n 1, 1) := dr_dd nD_T_append_0 16 rfl
theorem d_T_append_31 : decode prog_4_method_3_code 31 = .ok (.bipush 8, 2) := dr_dd nD_T_append_0 17 rfl
theorem d_T_append_33 : decode prog_4_method_3_code 33 = .ok (.iload 4, 2) := dr_dd nD_T_append_0 18 rfl
theorem d_T_append_35 : decode prog_4_method_3_code 35 = .ok (.imul, 1) := dr_dd nD_T_append_0 19 rfl
theorem d_T_append_36 : decode prog_4_method_3_code 36 = .ok (.lushr, 1) := dr_dd nD_T_append_0 20 rfl
theorem d_T_append_37 : decode prog_4_method_3_code 37 = .ok (.l2i, 1) := dr_dd nD_T_append_0 21 rfl
theorem d_T_append_38 : decode prog_4_method_3_code 38 = .ok (.sipush 255, 3) := dr_dd nD_T_append_0 22 rfl
theorem d_T_append_41 : decode prog_4_method_3_code 41 = .ok (.iand, 1) := dr_dd nD_T_append_0 23 rfl
theorem d_T_append_42 : decode prog_4_method_3_code 42 = .ok (.iastore, 1) := dr_dd nD_T_append_0 24 rfl
theorem d_T_append_43 : decode prog_4_method_3_code 43 = .ok (.aload_n 0, 1) := dr_dd nD_T_append_0 25 rfl
theorem d_T_append_44 : decode prog_4_method_3_code 44 = .ok (.dup, 1) := dr_dd nD_T_append_0 26 rfl
theorem d_T_append_45 : decode prog_4_method_3_code 45 = .ok (.getfield 15, 3) := dr_dd nD_T_append_0 27 rfl
theorem d_T_append_48 : decode prog_4_method_3_code 48 = .ok (.iconst 1, 1) := dr_dd nD_T_append_0 28 rfl
theorem d_T_append_49 : decode prog_4_method_3_code 49 = .ok (.iadd, 1) := dr_dd nD_T_append_0 29 rfl
theorem d_T_append_50 : decode prog_4_method_3_code 50 = .ok (.putfield 15, 3) := dr_dd nD_T_append_0 30 rfl
theorem d_T_append_53 : decode prog_4_method_3_code 53 = .ok (.iinc 4 (-1), 3) := dr_dd nD_T_append_0 31 rfl
theorem d_T_append_56 : decode prog_4_method_3_code 56 = .ok (.goto (-51), 3) := dr_dd nD_T_append_0 32 rfl
theorem d_T_append_59 : decode prog_4_method_3_code 59 = .ok (.aload_n 0, 1) := dr_dd nD_T_append_0 33 rfl
theorem d_T_append_60 : decode prog_4_method_3_code 60 = .ok (.getfield 15, 3) := dr_dd nD_T_append_0 34 rfl
theorem d_T_append_63 : decode prog_4_method_3_code 63 = .ok (.ireturn, 1) := dr_dd nD_T_append_0 35 rfl
abbrev nL_T_parseInto_0 : List (Nat × Instr × Nat) := [(0, .aload_n 1, 1), (1, .invokevirtual 25, 3), (4, .aload_n 0, 1), (5, .iconst 0, 1), (6, .putfield 19, 3), (9, .aload_n 0, 1), (10, .iconst (-1), 1), (11, .putfield 22, 3), (14, .aload_n 0, 1), (15, .invokevirtual 30, 3), (18, .iconst 0, 1), (19, .istore_n 2, 1), (20, .iload_n 2, 1), (21, .sipush 300, 3), (24, .if_icmp .ge 37, 3), (27, .aload_n 0, 1), (28, .getfield 19, 3), (31, .aload_n 0, 1), (32, .getfield 15, 3), (35, .if_icmp .ge 26, 3), (38, .aload_n 0, 1), (39, .getfield 22, 3), (42, .iconst (-1), 1), (43, .if_icmp .ne 18, 3), (46, .aload_n 0, 1), (47, .aload_n 1, 1), (48, .invokevirtual 33, 3), (51, .aload_n 0, 1), (52, .invokevirtual 30, 3), (55, .iinc 2 1, 3), (58, .goto (-38), 3), (61, .aload_n 0, 1), (62, .iconst 0, 1), (63, .putfield 15, 3), (66, .aload_n 0, 1), (67, .getfield 22, 3), (70, .ireturn, 1)]
theorem nD_T_parseInto_0 : ∀ q ∈ nL_T_parseInto_0, decode prog_4_method_4_code q.1 = .ok (q.2.1, q.2.2) := by decide +kernel
theorem d_T_parseInto_0 : decode prog_4_method_4_code 0 = .ok (.aload_n 1, 1) := dr_dd nD_T_parseInto_0 0 rfl
theorem d_T_parseInto_1 : decode prog_4_method_4_code 1 = .ok (.invokevirtual 25, 3) := dr_dd nD_T_parseInto_0 1 rfl
theorem d_T_parseInto_4 : decode prog_4_method_4_code 4 = .ok (.aload_n 0, 1) := dr_dd nD_T_parseInto_0 2 rfl
theorem d_T_parseInto_5 : decode prog_4_method_4_code 5 = .ok (.iconst 0, 1) := dr_dd nD_T_parseInto_0 3 rfl
theorem d_T_parseInto_6 : decode prog_4_method_4_code 6 = .ok (.putfield 19, 3) := dr_dd nD_T_parseInto_0 4 rfl
theorem d_T_parseInto_9 : decode prog_4_method_4_code 9 = .ok (.aload_n 0, 1) := dr_dd nD_T_parseInto_0 5 rfl
theorem d_T_parseInto_10 : decode prog_4_method_4_code 10 = .ok (.iconst (-1), 1) := dr_dd nD_T_parseInto_0 6 rfl
theorem d_T_parseInto_11 : decode prog_4_method_4_code 11 = .ok (.putfield 22, 3) := dr_dd nD_T_parseInto_0 7 rfl
theorem d_T_parseInto_14 : decode prog_4_method_4_code 14 = .ok (.aload_n 0, 1) := dr_dd nD_T_parseInto_0 8 rfl
theorem d_T_parseInto_15 : decode prog_4_method_4_code 15 = .ok (.invokevirtual 30, 3) := dr_dd nD_T_parseInto_0 9 rfl
theorem d_T_parseInto_18 : decode prog_4_method_4_code 18 = .ok (.iconst 0, 1) := dr_dd nD_T_parseInto_0 10 rfl
theorem d_T_parseInto_19 : decode prog_4_method_4_code 19 = .ok (.istore_n 2, 1) := dr_dd nD_T_parseInto_0 11 rfl
theorem d_T_parseInto_20 : decode prog_4_method_4_code 20 = .ok (.iload_n 2, 1) := dr_dd nD_T_parseInto_0 12 rfl
theorem d_T_parseInto_21 : decode prog_4_method_4_code 21 = .ok (.sipush 300, 3) := dr_dd nD_T_parseInto_0 13 rfl
theorem d_T_parseInto_24 : decode prog_4_method_4_code 24 = .ok (.if_icmp .ge 37, 3) := dr_dd nD_T_parseInto_0 14 rfl
theorem d_T_parseInto_27 : decode prog_4_method_4_code 27 = .ok (.aload_n 0, 1) := dr_dd nD_T_parseInto_0 15 rfl
theorem d_T_parseInto_28 : decode prog_4_method_4_code 28 = .ok (.getfield 19, 3) := dr_dd nD_T_parseInto_0 16 rfl
theorem d_T_parseInto_31 : decode prog_4_method_4_code 31 = .ok (.aload_n 0, 1) := dr_dd nD_T_parseInto_0 17 rfl
theorem d_T_parseInto_32 : decode prog_4_method_4_code 32 = .ok (.getfield 15, 3) := dr_dd nD_T_parseInto_0 18 rfl
theorem d_T_parseInto_35 : decode prog_4_method_4_code 35 = .ok (.if_icmp .ge 26, 3) := dr_dd nD_T_parseInto_0 19 rfl
theorem d_T_parseInto_38 : decode prog_4_method_4_code 38 = .ok (.aload_n 0, 1) := dr_dd nD_T_parseInto_0 20 rfl
theorem d_T_parseInto_39 : decode prog_4_method_4_code 39 = .ok (.getfield 22, 3) := dr_dd nD_T_parseInto_0 21 rfl
theorem d_T_parseInto_42 : decode prog_4_method_4_code 42 = .ok (.iconst (-1), 1) := dr_dd nD_T_parseInto_0 22 rfl
theorem d_T_parseInto_43 : decode prog_4_method_4_code 43 = .ok (.if_icmp .ne 18, 3) := dr_dd nD_T_parseInto_0 23 rfl
theorem d_T_parseInto_46 : decode prog_4_method_4_code 46 = .ok (.aload_n 0, 1) := dr_dd nD_T_parseInto_0 24 rfl
theorem d_T_parseInto_47 : decode prog_4_method_4_code 47 = .ok (.aload_n 1, 1) := dr_dd nD_T_parseInto_0 25 rfl
theorem d_T_parseInto_48 : decode prog_4_method_4_code 48 = .ok (.invokevirtual 33, 3) := dr_dd nD_T_parseInto_0 26 rfl
theorem d_T_parseInto_51 : decode prog_4_method_4_code 51 = .ok (.aload_n 0, 1) := dr_dd nD_T_parseInto_0 27 rfl
theorem d_T_parseInto_52 : decode prog_4_method_4_code 52 = .ok (.invokevirtual 30, 3) := dr_dd nD_T_parseInto_0 28 rfl
theorem d_T_parseInto_55 : decode prog_4_method_4_code 55 = .ok (.iinc 2 1, 3) := dr_dd nD_T_parseInto_0 29 rfl
theorem d_T_parseInto_58 : decode prog_4_method_4_code 58 = .ok (.goto (-38), 3) := dr_dd nD_T_parseInto_0 30 rfl
theorem d_T_parseInto_61 : decode prog_4_method_4_code 61 = .ok (.aload_n 0, 1) := dr_dd nD_T_parseInto_0 31 rfl
theorem d_T_parseInto_62 : decode prog_4_method_4_code 62 = .ok (.iconst 0, 1) := dr_dd nD_T_parseInto_0 32 rfl
theorem d_T_parseInto_63 : decode prog_4_method_4_code 63 = .ok (.putfield 15, 3) := dr_dd nD_T_parseInto_0 33 rfl
theorem d_T_parseInto_66 : decode prog_4_method_4_code 66 = .ok (.aload_n 0, 1) := dr_dd nD_T_parseInto_0 34 rfl
theorem d_T_parseInto_67 : decode prog_4_method_4_code 67 = .ok (.getfield 22, 3) := dr_dd nD_T_parseInto_0 35 rfl
theorem d_T_parseInto_70 : decode prog_4_method_4_code 70 = .ok (.ireturn, 1) := dr_dd nD_T_parseInto_0 36 rfl
abbrev nL_T_parseRow_0 : List (Nat × Instr × Nat) := [(0, .aload_n 0, 1), (1, .bipush 101, 2), (3, .invokevirtual 37, 3), (6, .ifCond .eq 11, 3), (9, .aload_n 0, 1), (10, .aload_n 1, 1), (11, .invokevirtual 41, 3), (14, .goto 28, 3), (17, .aload_n 0, 1), (18, .bipush 97, 2), (20, .invokevirtual 37, 3), (23, .ifCond .eq 11, 3), (26, .aload_n 0, 1), (27, .aload_n 1, 1), (28, .invokevirtual 44, 3), (31, .goto 11, 3), (34, .aload_n 0, 1), (35, .aload_n 0, 1), (36, .getfield 19, 3), (39, .invokevirtual 47, 3), (42, .return_, 1)]
theorem nD_T_parseRow_0 : ∀ q ∈ nL_T_parseRow_0, decode prog_4_method_5_code q.1 = .ok (q.2.1, q.2.2) := by decide +kernel
theorem d_T_parseRow_0 : decode prog_4_method_5_code 0 = .ok (.aload_n 0, 1) := dr_dd nD_T_parseRow_0 0 rfl
theorem d_T_parseRow_1 : decode prog_4_method_5_code 1 = .ok (.bipush 101, 2) := dr_dd nD_T_parseRow_0 1 rfl
theorem d_T_parseRow_3 : decode prog_4_method_5_code 3 = .ok (.invokevirtual 37, 3) := dr_dd nD_T_parseRow_0 2 rfl
theorem d_T_parseRow_6 : decode prog_4_method_5_code 6 = .ok (.ifCond .eq 11, 3) := dr_dd nD_T_parseRow_0 3 rfl
theorem d_T_parseRow_9 : decode prog_4_method_5_code 9 = .ok (.aload_n 0, 1) := dr_dd nD_T_parseRow_0 4 rfl
theorem d_T_parseRow_10 : decode prog_4_method_5_code 10 = .ok (.aload_n 1, 1) := dr_dd nD_T_parseRow_0 5 rfl
theorem d_T_parseRow_11 : decode prog_4_method_5_code 11 = .ok (.invokevirtual 41, 3) := dr_dd nD_T_parseRow_0 6 rfl
theorem d_T_parseRow_14 : decode prog_4_method_5_code 14 = .ok (.goto 28, 3) := dr_dd nD_T_parseRow_0 7 rfl
theorem d_T_parseRow_17 : decode prog_4_method_5_code 17 = .ok (.aload_n 0, 1) := dr_dd nD_T_parseRow_0 8 rfl
theorem d_T_parseRow_18 : decode prog_4_method_5_code 18 = .ok (.bipush 97, 2) := dr_dd nD_T_parseRow_0 9 rfl
theorem d_T_parseRow_20 : decode prog_4_method_5_code 20 = .ok (.invokevirtual 37, 3) := dr_dd nD_T_parseRow_0 10 rfl
theorem d_T_parseRow_23 : decode prog_4_method_5_code 23 = .ok (.ifCond .eq 11, 3) := dr_dd nD_T_parseRow_0 11 rfl
theorem d_T_parseRow_26 : decode prog_4_method_5_code 26 = .ok (.aload_n 0, 1) := dr_dd nD_T_parseRow_0 12 rfl
theorem d_T_parseRow_27 : decode prog_4_method_5_code 27 = .ok (.aload_n 1, 1) := dr_dd nD_T_parseRow_0 13 rfl
theorem d_T_parseRow_28 : decode prog_4_method_5_code 28 = .ok (.invokevirtual 44, 3) := dr_dd nD_T_parseRow_0 14 rfl
theorem d_T_parseRow_31 : decode prog_4_method_5_code 31 = .ok (.goto 11, 3) := dr_dd nD_T_parseRow_0 15 rfl
theorem d_T_parseRow_34 : decode prog_4_method_5_code 34 = .ok (.aload_n 0, 1) := dr_dd nD_T_parseRow_0 16 rfl
theorem d_T_parseRow_35 : decode prog_4_method_5_code 35 = .ok (.aload_n 0, 1) := dr_dd nD_T_parseRow_0 17 rfl
theorem d_T_parseRow_36 : decode prog_4_method_5_code 36 = .ok (.getfield 19, 3) := dr_dd nD_T_parseRow_0 18 rfl
theorem d_T_parseRow_39 : decode prog_4_method_5_code 39 = .ok (.invokevirtual 47, 3) := dr_dd nD_T_parseRow_0 19 rfl
theorem d_T_parseRow_42 : decode prog_4_method_5_code 42 = .ok (.return_, 1) := dr_dd nD_T_parseRow_0 20 rfl
abbrev nL_T_parseEvent_0 : List (Nat × Instr × Nat) := [(0, .aload_n 0, 1), (1, .iconst 1, 1), (2, .bipush 40, 2), (4, .invokevirtual 51, 3), (7, .istore_n 2, 1), (8, .aload_n 1, 1), (9, .iload_n 2, 1), (10, .invokevirtual 55, 3), (13, .ifCond .eq 13, 3), (16, .aload_n 0, 1), (17, .aload_n 0, 1), (18, .getfield 19, 3), (21, .iconst 1, 1), (22, .isub, 1), (23, .invokevirtual 47, 3), (26, .iconst (-1), 1), (27, .istore_n 3, 1), (28, .iconst 0, 1), (29, .istore 4, 2), (31, .aload_n 0, 1), (32, .bipush 64, 2), (34, .invokevirtual 37, 3), (37, .ifCond .ne 39, 3), (40, .aload_n 0, 1), (41, .bipush 62, 2), (43, .invokevirtual 59, 3), (46, .aload_n 0, 1), (47, .iconst 0, 1), (48, .bipush 19, 2), (50, .invokevirtual 51, 3), (53, .istore_n 3, 1), (54, .aload_n 0, 1), (55, .bipush 43, 2), (57, .invokevirtual 59, 3), (60, .aload_n 0, 1), (61, .iconst 0, 1), (62, .sipush 999, 3), (65, .invokevirtual 51, 3), (68, .istore 4, 2), (70, .aload_n 0, 1)]
theorem nD_T_parseEvent_0 : ∀ q ∈ nL_T_parseEvent_0, decode prog_4_method_6_code q.1 = .ok (q.2.1, q.2.2) := by decide +kernel
theorem d_T_parseEvent_0 : decode prog_4_method_6_code 0 = .ok (.aload_n 0, 1) := dr_dd nD_T_parseEvent_0 0 rfl
theorem d_T_parseEvent_1 : decode prog_4_method_6_code 1 = .ok (.iconst 1, 1) := dr_dd nD_T_parseEvent_0 1 rfl
theorem d_T_parseEvent_2 : decode prog_4_method_6_code 2 = .ok (.bipush 40, 2) := dr_dd nD_T_parseEvent_0 2 rfl
theorem d_T_parseEvent_4 : decode prog_4_method_6_code 4 = .ok (.invokevirtual 51, 3) := dr_dd nD_T_parseEvent_0 3 rfl
theorem d_T_parseEvent_7 : decode prog_4_method_6_code 7 = .ok (.istore_n 2, 1) := dr_dd nD_T_parseEvent_0 4 rfl
theorem d_T_parseEvent_8 : decode prog_4_method_6_code 8 = .ok (.aload_n 1, 1) := dr_dd nD_T_parseEvent_0 5 rfl
theorem d_T_parseEvent_9 : decode prog_4_method_6_code 9 = .ok (.iload_n 2, 1) := dr_dd nD_T_parseEvent_0 6 rfl
theorem d_T_parseEvent_10 : decode prog_4_method_6_code 10 = .ok (.invokevirtual 55, 3) := dr_dd nD_T_parseEvent_0 7 rfl
theorem d_T_parseEvent_13 : decode prog_4_method_6_code 13 = .ok (.ifCond .eq 13, 3) := dr_dd nD_T_parseEvent_0 8 rfl
theorem d_T_parseEvent_16 : decode prog_4_method_6_code 16 = .ok (.aload_n 0, 1) := dr_dd nD_T_parseEvent_0 9 rfl
theorem d_T_parseEvent_17 : decode prog_4_method_6_code 17 = .ok (.aload_n 0, 1) := dr_dd nD_T_parseEvent_0 10 rfl
theorem d_T_parseEvent_18 : decode prog_4_method_6_code 18 = .ok (.getfield 19, 3) := dr_dd nD_T_parseEvent_0 11 rfl
theorem d_T_parseEvent_21 : decode prog_4_method_6_code 21 = .ok (.iconst 1, 1) := dr_dd nD_T_parseEvent_0 12 rfl
theorem d_T_parseEvent_22 : decode prog_4_method_6_code 22 = .ok (.isub, 1) := dr_dd nD_T_parseEvent_0 13 rfl
theorem d_T_parseEvent_23 : decode prog_4_method_6_code 23 = .ok (.invokevirtual 47, 3) := dr_dd nD_T_parseEvent_0 14 rfl
theorem d_T_parseEvent_26 : decode prog_4_method_6_code 26 = .ok (.iconst (-1), 1) := dr_dd nD_T_parseEvent_0 15 rfl
theorem d_T_parseEvent_27 : decode prog_4_method_6_code 27 = .ok (.istore_n 3, 1) := dr_dd nD_T_parseEvent_0 16 rfl
theorem d_T_parseEvent_28 : decode prog_4_method_6_code 28 = .ok (.iconst 0, 1) := dr_dd nD_T_parseEvent_0 17 rfl
theorem d_T_parseEvent_29 : decode prog_4_method_6_code 29 = .ok (.istore 4, 2) := dr_dd nD_T_parseEvent_0 18 rfl
theorem d_T_parseEvent_31 : decode prog_4_method_6_code 31 = .ok (.aload_n 0, 1) := dr_dd nD_T_parseEvent_0 19 rfl
theorem d_T_parseEvent_32 : decode prog_4_method_6_code 32 = .ok (.bipush 64, 2) := dr_dd nD_T_parseEvent_0 20 rfl
theorem d_T_parseEvent_34 : decode prog_4_method_6_code 34 = .ok (.invokevirtual 37, 3) := dr_dd nD_T_parseEvent_0 21 rfl
theorem d_T_parseEvent_37 : decode prog_4_method_6_code 37 = .ok (.ifCond .ne 39, 3) := dr_dd nD_T_parseEvent_0 22 rfl
theorem d_T_parseEvent_40 : decode prog_4_method_6_code 40 = .ok (.aload_n 0, 1) := dr_dd nD_T_parseEvent_0 23 rfl
theorem d_T_parseEvent_41 : decode prog_4_method_6_code 41 = .ok (.bipush 62, 2) := dr_dd nD_T_parseEvent_0 24 rfl
theorem d_T_parseEvent_43 : decode prog_4_method_6_code 43 = .ok (.invokevirtual 59, 3) := dr_dd nD_T_parseEvent_0 25 rfl
theorem d_T_parseEvent_46 : decode prog_4_method_6_code 46 = .ok (.aload_n 0, 1) := dr_dd nD_T_parseEvent_0 26 rfl
theorem d_T_parseEvent_47 : decode prog_4_method_6_code 47 = .ok (.iconst 0, 1) := dr_dd nD_T_parseEvent_0 27 rfl
theorem d_T_parseEvent_48 : decode prog_4_method_6_code 48 = .ok (.bipush 19, 2) := dr_dd nD_T_parseEvent_0 28 rfl
theorem d_T_parseEvent_50 : decode prog_4_method_6_code 50 = .ok (.invokevirtual 51, 3) := dr_dd nD_T_parseEvent_0 29 rfl
theorem d_T_parseEvent_53 : decode prog_4_method_6_code 53 = .ok (.istore_n 3, 1) := dr_dd nD_T_parseEvent_0 30 rfl
theorem d_T_parseEvent_54 : decode prog_4_method_6_code 54 = .ok (.aload_n 0, 1) := dr_dd nD_T_parseEvent_0 31 rfl
theorem d_T_parseEvent_55 : decode prog_4_method_6_code 55 = .ok (.bipush 43, 2) := dr_dd nD_T_parseEvent_0 32 rfl
theorem d_T_parseEvent_57 : decode prog_4_method_6_code 57 = .ok (.invokevirtual 59, 3) := dr_dd nD_T_parseEvent_0 33 rfl
theorem d_T_parseEvent_60 : decode prog_4_method_6_code 60 = .ok (.aload_n 0, 1) := dr_dd nD_T_parseEvent_0 34 rfl
theorem d_T_parseEvent_61 : decode prog_4_method_6_code 61 = .ok (.iconst 0, 1) := dr_dd nD_T_parseEvent_0 35 rfl
theorem d_T_parseEvent_62 : decode prog_4_method_6_code 62 = .ok (.sipush 999, 3) := dr_dd nD_T_parseEvent_0 36 rfl
theorem d_T_parseEvent_65 : decode prog_4_method_6_code 65 = .ok (.invokevirtual 51, 3) := dr_dd nD_T_parseEvent_0 37 rfl
theorem d_T_parseEvent_68 : decode prog_4_method_6_code 68 = .ok (.istore 4, 2) := dr_dd nD_T_parseEvent_0 38 rfl
theorem d_T_parseEvent_70 : decode prog_4_method_6_code 70 = .ok (.aload_n 0, 1) := dr_dd nD_T_parseEvent_0 39 rfl
abbrev nL_T_parseEvent_1 : List (Nat × Instr × Nat) := [(71, .bipush 126, 2), (73, .invokevirtual 59, 3), (76, .aload_n 0, 1), (77, .iconst 0, 1), (78, .sipush 9999, 3), (81, .invokevirtual 51, 3), (84, .istore 5, 2), (86, .aload_n 0, 1), (87, .bipush 112, 2), (89, .invokevirtual 59, 3), (92, .aload_n 0, 1), (93, .iconst 0, 1), (94, .bipush 9, 2), (96, .invokevirtual 51, 3), (99, .istore 6, 2), (101, .aload_n 0, 1), (102, .bipush 33, 2), (104, .invokevirtual 37, 3), (107, .istore 7, 2), (109, .aload_n 0, 1), (110, .bipush 102, 2), (112, .invokevirtual 37, 3), (115, .ifCond .eq 13, 3), (118, .aload_n 0, 1), (119, .iconst 1, 1), (120, .bipush 9, 2), (122, .invokevirtual 51, 3), (125, .goto 4, 3), (128, .iconst 0, 1), (129, .istore 8, 2), (131, .aload_n 0, 1), (132, .bipush 59, 2), (134, .invokevirtual 59, 3), (137, .aload_n 0, 1), (138, .getfield 22, 3), (141, .iconst (-1), 1), (142, .if_icmp .ne 24, 3), (145, .aload_n 1, 1), (146, .iload_n 2, 1), (147, .iload_n 3, 1)]
theorem nD_T_parseEvent_1 : ∀ q ∈ nL_T_parseEvent_1, decode prog_4_method_6_code q.1 = .ok (q.2.1, q.2.2) := by decide +kernel
theorem d_T_parseEvent_71 : decode prog_4_method_6_code 71 = .ok (.bipush 126, 2) := dr_dd nD_T_parseEvent_1 0 rfl
theorem d_T_parseEvent_73 : decode prog_4_method_6_code 73 = .ok (.invokevirtual 59, 3) := dr_dd nD_T_parseEvent_1 1 rfl
theorem d_T_parseEvent_76 : decode prog_4_method_6_code 76 = .ok (.aload_n 0, 1) := dr_dd nD_T_parseEvent_1 2 rfl
theorem d_T_parseEvent_77 : decode prog_4_method_6_code 77 = .ok (.iconst 0, 1) := dr_dd nD_T_parseEvent_1 3 rfl
theorem d_T_parseEvent_78 : decode prog_4_method_6_code 78 = .ok (.sipush 9999, 3) := dr_dd nD_T_parseEvent_1 4 rfl
theorem d_T_parseEvent_81 : decode prog_4_method_6_code 81 = .ok (.invokevirtual 51, 3) := dr_dd nD_T_parseEvent_1 5 rfl
theorem d_T_parseEvent_84 : decode prog_4_method_6_code 84 = .ok (.istore 5, 2) := dr_dd nD_T_parseEvent_1 6 rfl
theorem d_T_parseEvent_86 : decode prog_4_method_6_code 86 = .ok (.aload_n 0, 1) := dr_dd nD_T_parseEvent_1 7 rfl
theorem d_T_parseEvent_87 : decode prog_4_method_6_code 87 = .ok (.bipush 112, 2) := dr_dd nD_T_parseEvent_1 8 rfl
theorem d_T_parseEvent_89 : decode prog_4_method_6_code 89 = .ok (.invokevirtual 59, 3) := dr_dd nD_T_parseEvent_1 9 rfl
theorem d_T_parseEvent_92 : decode prog_4_method_6_code 92 = .ok (.aload_n 0, 1) := dr_dd nD_T_parseEvent_1 10 rfl
theorem d_T_parseEvent_93 : decode prog_4_method_6_code 93 = .ok (.iconst 0, 1) := dr_dd nD_T_parseEvent_1 11 rfl
theorem d_T_parseEvent_94 : decode prog_4_method_6_code 94 = .ok (.bipush 9, 2) := dr_dd nD_T_parseEvent_1 12 rfl
theorem d_T_parseEvent_96 : decode prog_4_method_6_code 96 = .ok (.invokevirtual 51, 3) := dr_dd nD_T_parseEvent_1 13 rfl
theorem d_T_parseEvent_99 : decode prog_4_method_6_code 99 = .ok (.istore 6, 2) := dr_dd nD_T_parseEvent_1 14 rfl
theorem d_T_parseEvent_101 : decode prog_4_method_6_code 101 = .ok (.aload_n 0, 1) := dr_dd nD_T_parseEvent_1 15 rfl
theorem d_T_parseEvent_102 : decode prog_4_method_6_code 102 = .ok (.bipush 33, 2) := dr_dd nD_T_parseEvent_1 16 rfl
theorem d_T_parseEvent_104 : decode prog_4_method_6_code 104 = .ok (.invokevirtual 37, 3) := dr_dd nD_T_parseEvent_1 17 rfl
theorem d_T_parseEvent_107 : decode prog_4_method_6_code 107 = .ok (.istore 7, 2) := dr_dd nD_T_parseEvent_1 18 rfl
theorem d_T_parseEvent_109 : decode prog_4_method_6_code 109 = .ok (.aload_n 0, 1) := dr_dd nD_T_parseEvent_1 19 rfl
theorem d_T_parseEvent_110 : decode prog_4_method_6_code 110 = .ok (.bipush 102, 2) := dr_dd nD_T_parseEvent_1 20 rfl
theorem d_T_parseEvent_112 : decode prog_4_method_6_code 112 = .ok (.invokevirtual 37, 3) := dr_dd nD_T_parseEvent_1 21 rfl
theorem d_T_parseEvent_115 : decode prog_4_method_6_code 115 = .ok (.ifCond .eq 13, 3) := dr_dd nD_T_parseEvent_1 22 rfl
theorem d_T_parseEvent_118 : decode prog_4_method_6_code 118 = .ok (.aload_n 0, 1) := dr_dd nD_T_parseEvent_1 23 rfl
theorem d_T_parseEvent_119 : decode prog_4_method_6_code 119 = .ok (.iconst 1, 1) := dr_dd nD_T_parseEvent_1 24 rfl
theorem d_T_parseEvent_120 : decode prog_4_method_6_code 120 = .ok (.bipush 9, 2) := dr_dd nD_T_parseEvent_1 25 rfl
theorem d_T_parseEvent_122 : decode prog_4_method_6_code 122 = .ok (.invokevirtual 51, 3) := dr_dd nD_T_parseEvent_1 26 rfl
theorem d_T_parseEvent_125 : decode prog_4_method_6_code 125 = .ok (.goto 4, 3) := dr_dd nD_T_parseEvent_1 27 rfl
theorem d_T_parseEvent_128 : decode prog_4_method_6_code 128 = .ok (.iconst 0, 1) := dr_dd nD_T_parseEvent_1 28 rfl
theorem d_T_parseEvent_129 : decode prog_4_method_6_code 129 = .ok (.istore 8, 2) := dr_dd nD_T_parseEvent_1 29 rfl
theorem d_T_parseEvent_131 : decode prog_4_method_6_code 131 = .ok (.aload_n 0, 1) := dr_dd nD_T_parseEvent_1 30 rfl
theorem d_T_parseEvent_132 : decode prog_4_method_6_code 132 = .ok (.bipush 59, 2) := dr_dd nD_T_parseEvent_1 31 rfl
theorem d_T_parseEvent_134 : decode prog_4_method_6_code 134 = .ok (.invokevirtual 59, 3) := dr_dd nD_T_parseEvent_1 32 rfl
theorem d_T_parseEvent_137 : decode prog_4_method_6_code 137 = .ok (.aload_n 0, 1) := dr_dd nD_T_parseEvent_1 33 rfl
theorem d_T_parseEvent_138 : decode prog_4_method_6_code 138 = .ok (.getfield 22, 3) := dr_dd nD_T_parseEvent_1 34 rfl
theorem d_T_parseEvent_141 : decode prog_4_method_6_code 141 = .ok (.iconst (-1), 1) := dr_dd nD_T_parseEvent_1 35 rfl
theorem d_T_parseEvent_142 : decode prog_4_method_6_code 142 = .ok (.if_icmp .ne 24, 3) := dr_dd nD_T_parseEvent_1 36 rfl
theorem d_T_parseEvent_145 : decode prog_4_method_6_code 145 = .ok (.aload_n 1, 1) := dr_dd nD_T_parseEvent_1 37 rfl
theorem d_T_parseEvent_146 : decode prog_4_method_6_code 146 = .ok (.iload_n 2, 1) := dr_dd nD_T_parseEvent_1 38 rfl
theorem d_T_parseEvent_147 : decode prog_4_method_6_code 147 = .ok (.iload_n 3, 1) := dr_dd nD_T_parseEvent_1 39 rfl
abbrev nL_T_parseEvent_2 : List (Nat × Instr × Nat) := [(148, .iload 4, 2), (150, .iload 5, 2), (152, .invokevirtual 63, 3), (155, .aload_n 1, 1), (156, .iload_n 2, 1), (157, .iload 6, 2), (159, .iload 7, 2), (161, .iload 8, 2), (163, .invokevirtual 67, 3), (166, .return_, 1)]
theorem nD_T_parseEvent_2 : ∀ q ∈ nL_T_parseEvent_2, decode prog_4_method_6_code q.1 = .ok (q.2.1, q.2.2) := by decide +kernel
theorem d_T_parseEvent_148 : decode prog_4_method_6_code 148 = .ok (.iload 4, 2) := dr_dd nD_T_parseEvent_2 0 rfl
theorem d_T_parseEvent_150 : decode prog_4_method_6_code 150 = .ok (.iload 5, 2) := dr_dd nD_T_parseEvent_2 1 rfl
theorem d_T_parseEvent_152 : decode prog_4_method_6_code 152 = .ok (.invokevirtual 63, 3) := dr_dd nD_T_parseEvent_2 2 rfl
theorem d_T_parseEvent_155 : decode prog_4_method_6_code 155 = .ok (.aload_n 1, 1) := dr_dd nD_T_parseEvent_2 3 rfl
theorem d_T_parseEvent_156 : decode prog_4_method_6_code 156 = .ok (.iload_n 2, 1) := dr_dd nD_T_parseEvent_2 4 rfl
theorem d_T_parseEvent_157 : decode prog_4_method_6_code 157 = .ok (.iload 6, 2) := dr_dd nD_T_parseEvent_2 5 rfl
theorem d_T_parseEvent_159 : decode prog_4_method_6_code 159 = .ok (.iload 7, 2) := dr_dd nD_T_parseEvent_2 6 rfl
theorem d_T_parseEvent_161 : decode prog_4_method_6_code 161 = .ok (.iload 8, 2) := dr_dd nD_T_parseEvent_2 7 rfl
theorem d_T_parseEvent_163 : decode prog_4_method_6_code 163 = .ok (.invokevirtual 67, 3) := dr_dd nD_T_parseEvent_2 8 rfl
theorem d_T_parseEvent_166 : decode prog_4_method_6_code 166 = .ok (.return_, 1) := dr_dd nD_T_parseEvent_2 9 rfl
abbrev nL_T_parseAim_0 : List (Nat × Instr × Nat) := [(0, .aload_n 0, 1), (1, .iconst 1, 1), (2, .bipush 20, 2), (4, .invokevirtual 51, 3), (7, .istore_n 2, 1), (8, .aload_n 1, 1), (9, .iload_n 2, 1), (10, .invokevirtual 71, 3), (13, .ifCond .eq 13, 3), (16, .aload_n 0, 1), (17, .aload_n 0, 1), (18, .getfield 19, 3), (21, .iconst 1, 1), (22, .isub, 1), (23, .invokevirtual 47, 3), (26, .aload_n 0, 1), (27, .bipush 101, 2), (29, .invokevirtual 59, 3), (32, .aload_n 0, 1), (33, .iconst 1, 1), (34, .bipush 40, 2), (36, .invokevirtual 51, 3), (39, .istore_n 3, 1), (40, .aload_n 1, 1), (41, .iload_n 3, 1), (42, .invokevirtual 55, 3), (45, .ifCond .ne 13, 3), (48, .aload_n 0, 1), (49, .aload_n 0, 1), (50, .getfield 19, 3), (53, .iconst 1, 1), (54, .isub, 1), (55, .invokevirtual 47, 3), (58, .aload_n 0, 1), (59, .bipush 62, 2), (61, .invokevirtual 59, 3), (64, .aload_n 0, 1), (65, .iconst 0, 1), (66, .bipush 19, 2), (68, .invokevirtual 51, 3)]
theorem nD_T_parseAim_0 : ∀ q ∈ nL_T_parseAim_0, decode prog_4_method_7_code q.1 = .ok (q.2.1, q.2.2) := by decide +kernel
theorem d_T_parseAim_0 : decode prog_4_method_7_code 0 = .ok (.aload_n 0, 1) := dr_dd nD_T_parseAim_0 0 rfl
theorem d_T_parseAim_1 : decode prog_4_method_7_code 1 = .ok (.iconst 1, 1) := dr_dd nD_T_parseAim_0 1 rfl
theorem d_T_parseAim_2 : decode prog_4_method_7_code 2 = .ok (.bipush 20, 2) := dr_dd nD_T_parseAim_0 2 rfl
theorem d_T_parseAim_4 : decode prog_4_method_7_code 4 = .ok (.invokevirtual 51, 3) := dr_dd nD_T_parseAim_0 3 rfl
theorem d_T_parseAim_7 : decode prog_4_method_7_code 7 = .ok (.istore_n 2, 1) := dr_dd nD_T_parseAim_0 4 rfl
theorem d_T_parseAim_8 : decode prog_4_method_7_code 8 = .ok (.aload_n 1, 1) := dr_dd nD_T_parseAim_0 5 rfl
theorem d_T_parseAim_9 : decode prog_4_method_7_code 9 = .ok (.iload_n 2, 1) := dr_dd nD_T_parseAim_0 6 rfl
theorem d_T_parseAim_10 : decode prog_4_method_7_code 10 = .ok (.invokevirtual 71, 3) := dr_dd nD_T_parseAim_0 7 rfl
theorem d_T_parseAim_13 : decode prog_4_method_7_code 13 = .ok (.ifCond .eq 13, 3) := dr_dd nD_T_parseAim_0 8 rfl
theorem d_T_parseAim_16 : decode prog_4_method_7_code 16 = .ok (.aload_n 0, 1) := dr_dd nD_T_parseAim_0 9 rfl
theorem d_T_parseAim_17 : decode prog_4_method_7_code 17 = .ok (.aload_n 0, 1) := dr_dd nD_T_parseAim_0 10 rfl
theorem d_T_parseAim_18 : decode prog_4_method_7_code 18 = .ok (.getfield 19, 3) := dr_dd nD_T_parseAim_0 11 rfl
theorem d_T_parseAim_21 : decode prog_4_method_7_code 21 = .ok (.iconst 1, 1) := dr_dd nD_T_parseAim_0 12 rfl
theorem d_T_parseAim_22 : decode prog_4_method_7_code 22 = .ok (.isub, 1) := dr_dd nD_T_parseAim_0 13 rfl
theorem d_T_parseAim_23 : decode prog_4_method_7_code 23 = .ok (.invokevirtual 47, 3) := dr_dd nD_T_parseAim_0 14 rfl
theorem d_T_parseAim_26 : decode prog_4_method_7_code 26 = .ok (.aload_n 0, 1) := dr_dd nD_T_parseAim_0 15 rfl
theorem d_T_parseAim_27 : decode prog_4_method_7_code 27 = .ok (.bipush 101, 2) := dr_dd nD_T_parseAim_0 16 rfl
theorem d_T_parseAim_29 : decode prog_4_method_7_code 29 = .ok (.invokevirtual 59, 3) := dr_dd nD_T_parseAim_0 17 rfl
theorem d_T_parseAim_32 : decode prog_4_method_7_code 32 = .ok (.aload_n 0, 1) := dr_dd nD_T_parseAim_0 18 rfl
theorem d_T_parseAim_33 : decode prog_4_method_7_code 33 = .ok (.iconst 1, 1) := dr_dd nD_T_parseAim_0 19 rfl
theorem d_T_parseAim_34 : decode prog_4_method_7_code 34 = .ok (.bipush 40, 2) := dr_dd nD_T_parseAim_0 20 rfl
theorem d_T_parseAim_36 : decode prog_4_method_7_code 36 = .ok (.invokevirtual 51, 3) := dr_dd nD_T_parseAim_0 21 rfl
theorem d_T_parseAim_39 : decode prog_4_method_7_code 39 = .ok (.istore_n 3, 1) := dr_dd nD_T_parseAim_0 22 rfl
theorem d_T_parseAim_40 : decode prog_4_method_7_code 40 = .ok (.aload_n 1, 1) := dr_dd nD_T_parseAim_0 23 rfl
theorem d_T_parseAim_41 : decode prog_4_method_7_code 41 = .ok (.iload_n 3, 1) := dr_dd nD_T_parseAim_0 24 rfl
theorem d_T_parseAim_42 : decode prog_4_method_7_code 42 = .ok (.invokevirtual 55, 3) := dr_dd nD_T_parseAim_0 25 rfl
theorem d_T_parseAim_45 : decode prog_4_method_7_code 45 = .ok (.ifCond .ne 13, 3) := dr_dd nD_T_parseAim_0 26 rfl
theorem d_T_parseAim_48 : decode prog_4_method_7_code 48 = .ok (.aload_n 0, 1) := dr_dd nD_T_parseAim_0 27 rfl
theorem d_T_parseAim_49 : decode prog_4_method_7_code 49 = .ok (.aload_n 0, 1) := dr_dd nD_T_parseAim_0 28 rfl
theorem d_T_parseAim_50 : decode prog_4_method_7_code 50 = .ok (.getfield 19, 3) := dr_dd nD_T_parseAim_0 29 rfl
theorem d_T_parseAim_53 : decode prog_4_method_7_code 53 = .ok (.iconst 1, 1) := dr_dd nD_T_parseAim_0 30 rfl
theorem d_T_parseAim_54 : decode prog_4_method_7_code 54 = .ok (.isub, 1) := dr_dd nD_T_parseAim_0 31 rfl
theorem d_T_parseAim_55 : decode prog_4_method_7_code 55 = .ok (.invokevirtual 47, 3) := dr_dd nD_T_parseAim_0 32 rfl
theorem d_T_parseAim_58 : decode prog_4_method_7_code 58 = .ok (.aload_n 0, 1) := dr_dd nD_T_parseAim_0 33 rfl
theorem d_T_parseAim_59 : decode prog_4_method_7_code 59 = .ok (.bipush 62, 2) := dr_dd nD_T_parseAim_0 34 rfl
theorem d_T_parseAim_61 : decode prog_4_method_7_code 61 = .ok (.invokevirtual 59, 3) := dr_dd nD_T_parseAim_0 35 rfl
theorem d_T_parseAim_64 : decode prog_4_method_7_code 64 = .ok (.aload_n 0, 1) := dr_dd nD_T_parseAim_0 36 rfl
theorem d_T_parseAim_65 : decode prog_4_method_7_code 65 = .ok (.iconst 0, 1) := dr_dd nD_T_parseAim_0 37 rfl
theorem d_T_parseAim_66 : decode prog_4_method_7_code 66 = .ok (.bipush 19, 2) := dr_dd nD_T_parseAim_0 38 rfl
theorem d_T_parseAim_68 : decode prog_4_method_7_code 68 = .ok (.invokevirtual 51, 3) := dr_dd nD_T_parseAim_0 39 rfl
abbrev nL_T_parseAim_1 : List (Nat × Instr × Nat) := [(71, .istore 4, 2), (73, .aload_n 0, 1), (74, .bipush 60, 2), (76, .invokevirtual 59, 3), (79, .aload_n 0, 1), (80, .iconst 1, 1), (81, .sipush 999, 3), (84, .invokevirtual 51, 3), (87, .istore 5, 2), (89, .aload_n 0, 1), (90, .bipush 119, 2), (92, .invokevirtual 59, 3), (95, .aload_n 0, 1), (96, .iconst 1, 1), (97, .bipush 9, 2), (99, .invokevirtual 51, 3), (102, .istore 6, 2), (104, .aload_n 0, 1), (105, .bipush 59, 2), (107, .invokevirtual 59, 3), (110, .aload_n 0, 1), (111, .getfield 22, 3), (114, .iconst (-1), 1), (115, .if_icmp .ne 15, 3), (118, .aload_n 1, 1), (119, .iload_n 2, 1), (120, .iload_n 3, 1), (121, .iload 4, 2), (123, .iload 5, 2), (125, .iload 6, 2), (127, .invokevirtual 74, 3), (130, .return_, 1)]
theorem nD_T_parseAim_1 : ∀ q ∈ nL_T_parseAim_1, decode prog_4_method_7_code q.1 = .ok (q.2.1, q.2.2) := by decide +kernel
theorem d_T_parseAim_71 : decode prog_4_method_7_code 71 = .ok (.istore 4, 2) := dr_dd nD_T_parseAim_1 0 rfl
theorem d_T_parseAim_73 : decode prog_4_method_7_code 73 = .ok (.aload_n 0, 1) := dr_dd nD_T_parseAim_1 1 rfl
theorem d_T_parseAim_74 : decode prog_4_method_7_code 74 = .ok (.bipush 60, 2) := dr_dd nD_T_parseAim_1 2 rfl
theorem d_T_parseAim_76 : decode prog_4_method_7_code 76 = .ok (.invokevirtual 59, 3) := dr_dd nD_T_parseAim_1 3 rfl
theorem d_T_parseAim_79 : decode prog_4_method_7_code 79 = .ok (.aload_n 0, 1) := dr_dd nD_T_parseAim_1 4 rfl
theorem d_T_parseAim_80 : decode prog_4_method_7_code 80 = .ok (.iconst 1, 1) := dr_dd nD_T_parseAim_1 5 rfl
theorem d_T_parseAim_81 : decode prog_4_method_7_code 81 = .ok (.sipush 999, 3) := dr_dd nD_T_parseAim_1 6 rfl
theorem d_T_parseAim_84 : decode prog_4_method_7_code 84 = .ok (.invokevirtual 51, 3) := dr_dd nD_T_parseAim_1 7 rfl
theorem d_T_parseAim_87 : decode prog_4_method_7_code 87 = .ok (.istore 5, 2) := dr_dd nD_T_parseAim_1 8 rfl
theorem d_T_parseAim_89 : decode prog_4_method_7_code 89 = .ok (.aload_n 0, 1) := dr_dd nD_T_parseAim_1 9 rfl
theorem d_T_parseAim_90 : decode prog_4_method_7_code 90 = .ok (.bipush 119, 2) := dr_dd nD_T_parseAim_1 10 rfl
theorem d_T_parseAim_92 : decode prog_4_method_7_code 92 = .ok (.invokevirtual 59, 3) := dr_dd nD_T_parseAim_1 11 rfl
theorem d_T_parseAim_95 : decode prog_4_method_7_code 95 = .ok (.aload_n 0, 1) := dr_dd nD_T_parseAim_1 12 rfl
theorem d_T_parseAim_96 : decode prog_4_method_7_code 96 = .ok (.iconst 1, 1) := dr_dd nD_T_parseAim_1 13 rfl
theorem d_T_parseAim_97 : decode prog_4_method_7_code 97 = .ok (.bipush 9, 2) := dr_dd nD_T_parseAim_1 14 rfl
theorem d_T_parseAim_99 : decode prog_4_method_7_code 99 = .ok (.invokevirtual 51, 3) := dr_dd nD_T_parseAim_1 15 rfl
theorem d_T_parseAim_102 : decode prog_4_method_7_code 102 = .ok (.istore 6, 2) := dr_dd nD_T_parseAim_1 16 rfl
theorem d_T_parseAim_104 : decode prog_4_method_7_code 104 = .ok (.aload_n 0, 1) := dr_dd nD_T_parseAim_1 17 rfl
theorem d_T_parseAim_105 : decode prog_4_method_7_code 105 = .ok (.bipush 59, 2) := dr_dd nD_T_parseAim_1 18 rfl
theorem d_T_parseAim_107 : decode prog_4_method_7_code 107 = .ok (.invokevirtual 59, 3) := dr_dd nD_T_parseAim_1 19 rfl
theorem d_T_parseAim_110 : decode prog_4_method_7_code 110 = .ok (.aload_n 0, 1) := dr_dd nD_T_parseAim_1 20 rfl
theorem d_T_parseAim_111 : decode prog_4_method_7_code 111 = .ok (.getfield 22, 3) := dr_dd nD_T_parseAim_1 21 rfl
theorem d_T_parseAim_114 : decode prog_4_method_7_code 114 = .ok (.iconst (-1), 1) := dr_dd nD_T_parseAim_1 22 rfl
theorem d_T_parseAim_115 : decode prog_4_method_7_code 115 = .ok (.if_icmp .ne 15, 3) := dr_dd nD_T_parseAim_1 23 rfl
theorem d_T_parseAim_118 : decode prog_4_method_7_code 118 = .ok (.aload_n 1, 1) := dr_dd nD_T_parseAim_1 24 rfl
theorem d_T_parseAim_119 : decode prog_4_method_7_code 119 = .ok (.iload_n 2, 1) := dr_dd nD_T_parseAim_1 25 rfl
theorem d_T_parseAim_120 : decode prog_4_method_7_code 120 = .ok (.iload_n 3, 1) := dr_dd nD_T_parseAim_1 26 rfl
theorem d_T_parseAim_121 : decode prog_4_method_7_code 121 = .ok (.iload 4, 2) := dr_dd nD_T_parseAim_1 27 rfl
theorem d_T_parseAim_123 : decode prog_4_method_7_code 123 = .ok (.iload 5, 2) := dr_dd nD_T_parseAim_1 28 rfl
theorem d_T_parseAim_125 : decode prog_4_method_7_code 125 = .ok (.iload 6, 2) := dr_dd nD_T_parseAim_1 29 rfl
theorem d_T_parseAim_127 : decode prog_4_method_7_code 127 = .ok (.invokevirtual 74, 3) := dr_dd nD_T_parseAim_1 30 rfl
theorem d_T_parseAim_130 : decode prog_4_method_7_code 130 = .ok (.return_, 1) := dr_dd nD_T_parseAim_1 31 rfl
abbrev nL_T_parseNumber_0 : List (Nat × Instr × Nat) := [(0, .aload_n 0, 1), (1, .invokevirtual 30, 3), (4, .iconst 0, 1), (5, .istore_n 3, 1), (6, .iconst 0, 1), (7, .istore 4, 2), (9, .iload 4, 2), (11, .iconst 4, 1), (12, .if_icmp .ge 51, 3), (15, .aload_n 0, 1), (16, .invokevirtual 78, 3), (19, .invokestatic 82, 3), (22, .ifCond .eq 41, 3), (25, .iload 4, 2), (27, .ifCond .eq 7, 3), (30, .iload_n 3, 1), (31, .ifCond .le 32, 3), (34, .iload_n 3, 1), (35, .bipush 10, 2), (37, .imul, 1), (38, .aload_n 0, 1), (39, .invokevirtual 78, 3), (42, .iadd, 1), (43, .bipush 48, 2), (45, .isub, 1), (46, .istore_n 3, 1), (47, .iinc 4 1, 3), (50, .aload_n 0, 1), (51, .dup, 1), (52, .getfield 19, 3), (55, .iconst 1, 1), (56, .iadd, 1), (57, .putfield 19, 3), (60, .goto (-51), 3), (63, .iload 4, 2), (65, .ifCond .ne 14, 3), (68, .aload_n 0, 1), (69, .aload_n 0, 1), (70, .getfield 19, 3), (73, .invokevirtual 47, 3)]
theorem nD_T_parseNumber_0 : ∀ q ∈ nL_T_parseNumber_0, decode prog_4_method_8_code q.1 = .ok (q.2.1, q.2.2) := by decide +kernel
theorem d_T_parseNumber_0 : decode prog_4_method_8_code 0 = .ok (.aload_n 0, 1) := dr_dd nD_T_parseNumber_0 0 rfl
theorem d_T_parseNumber_1 : decode prog_4_method_8_code 1 = .ok (.invokevirtual 30, 3) := dr_dd nD_T_parseNumber_0 1 rfl
theorem d_T_parseNumber_4 : decode prog_4_method_8_code 4 = .ok (.iconst 0, 1) := dr_dd nD_T_parseNumber_0 2 rfl
theorem d_T_parseNumber_5 : decode prog_4_method_8_code 5 = .ok (.istore_n 3, 1) := dr_dd nD_T_parseNumber_0 3 rfl
theorem d_T_parseNumber_6 : decode prog_4_method_8_code 6 = .ok (.iconst 0, 1) := dr_dd nD_T_parseNumber_0 4 rfl
theorem d_T_parseNumber_7 : decode prog_4_method_8_code 7 = .ok (.istore 4, 2) := dr_dd nD_T_parseNumber_0 5 rfl
theorem d_T_parseNumber_9 : decode prog_4_method_8_code 9 = .ok (.iload 4, 2) := dr_dd nD_T_parseNumber_0 6 rfl
theorem d_T_parseNumber_11 : decode prog_4_method_8_code 11 = .ok (.iconst 4, 1) := dr_dd nD_T_parseNumber_0 7 rfl
theorem d_T_parseNumber_12 : decode prog_4_method_8_code 12 = .ok (.if_icmp .ge 51, 3) := dr_dd nD_T_parseNumber_0 8 rfl
theorem d_T_parseNumber_15 : decode prog_4_method_8_code 15 = .ok (.aload_n 0, 1) := dr_dd nD_T_parseNumber_0 9 rfl
theorem d_T_parseNumber_16 : decode prog_4_method_8_code 16 = .ok (.invokevirtual 78, 3) := dr_dd nD_T_parseNumber_0 10 rfl
theorem d_T_parseNumber_19 : decode prog_4_method_8_code 19 = .ok (.invokestatic 82, 3) := dr_dd nD_T_parseNumber_0 11 rfl
theorem d_T_parseNumber_22 : decode prog_4_method_8_code 22 = .ok (.ifCond .eq 41, 3) := dr_dd nD_T_parseNumber_0 12 rfl
theorem d_T_parseNumber_25 : decode prog_4_method_8_code 25 = .ok (.iload 4, 2) := dr_dd nD_T_parseNumber_0 13 rfl
theorem d_T_parseNumber_27 : decode prog_4_method_8_code 27 = .ok (.ifCond .eq 7, 3) := dr_dd nD_T_parseNumber_0 14 rfl
theorem d_T_parseNumber_30 : decode prog_4_method_8_code 30 = .ok (.iload_n 3, 1) := dr_dd nD_T_parseNumber_0 15 rfl
theorem d_T_parseNumber_31 : decode prog_4_method_8_code 31 = .ok (.ifCond .le 32, 3) := dr_dd nD_T_parseNumber_0 16 rfl
theorem d_T_parseNumber_34 : decode prog_4_method_8_code 34 = .ok (.iload_n 3, 1) := dr_dd nD_T_parseNumber_0 17 rfl
theorem d_T_parseNumber_35 : decode prog_4_method_8_code 35 = .ok (.bipush 10, 2) := dr_dd nD_T_parseNumber_0 18 rfl
theorem d_T_parseNumber_37 : decode prog_4_method_8_code 37 = .ok (.imul, 1) := dr_dd nD_T_parseNumber_0 19 rfl
theorem d_T_parseNumber_38 : decode prog_4_method_8_code 38 = .ok (.aload_n 0, 1) := dr_dd nD_T_parseNumber_0 20 rfl
theorem d_T_parseNumber_39 : decode prog_4_method_8_code 39 = .ok (.invokevirtual 78, 3) := dr_dd nD_T_parseNumber_0 21 rfl
theorem d_T_parseNumber_42 : decode prog_4_method_8_code 42 = .ok (.iadd, 1) := dr_dd nD_T_parseNumber_0 22 rfl
theorem d_T_parseNumber_43 : decode prog_4_method_8_code 43 = .ok (.bipush 48, 2) := dr_dd nD_T_parseNumber_0 23 rfl
theorem d_T_parseNumber_45 : decode prog_4_method_8_code 45 = .ok (.isub, 1) := dr_dd nD_T_parseNumber_0 24 rfl
theorem d_T_parseNumber_46 : decode prog_4_method_8_code 46 = .ok (.istore_n 3, 1) := dr_dd nD_T_parseNumber_0 25 rfl
theorem d_T_parseNumber_47 : decode prog_4_method_8_code 47 = .ok (.iinc 4 1, 3) := dr_dd nD_T_parseNumber_0 26 rfl
theorem d_T_parseNumber_50 : decode prog_4_method_8_code 50 = .ok (.aload_n 0, 1) := dr_dd nD_T_parseNumber_0 27 rfl
theorem d_T_parseNumber_51 : decode prog_4_method_8_code 51 = .ok (.dup, 1) := dr_dd nD_T_parseNumber_0 28 rfl
theorem d_T_parseNumber_52 : decode prog_4_method_8_code 52 = .ok (.getfield 19, 3) := dr_dd nD_T_parseNumber_0 29 rfl
theorem d_T_parseNumber_55 : decode prog_4_method_8_code 55 = .ok (.iconst 1, 1) := dr_dd nD_T_parseNumber_0 30 rfl
theorem d_T_parseNumber_56 : decode prog_4_method_8_code 56 = .ok (.iadd, 1) := dr_dd nD_T_parseNumber_0 31 rfl
theorem d_T_parseNumber_57 : decode prog_4_method_8_code 57 = .ok (.putfield 19, 3) := dr_dd nD_T_parseNumber_0 32 rfl
theorem d_T_parseNumber_60 : decode prog_4_method_8_code 60 = .ok (.goto (-51), 3) := dr_dd nD_T_parseNumber_0 33 rfl
theorem d_T_parseNumber_63 : decode prog_4_method_8_code 63 = .ok (.iload 4, 2) := dr_dd nD_T_parseNumber_0 34 rfl
theorem d_T_parseNumber_65 : decode prog_4_method_8_code 65 = .ok (.ifCond .ne 14, 3) := dr_dd nD_T_parseNumber_0 35 rfl
theorem d_T_parseNumber_68 : decode prog_4_method_8_code 68 = .ok (.aload_n 0, 1) := dr_dd nD_T_parseNumber_0 36 rfl
theorem d_T_parseNumber_69 : decode prog_4_method_8_code 69 = .ok (.aload_n 0, 1) := dr_dd nD_T_parseNumber_0 37 rfl
theorem d_T_parseNumber_70 : decode prog_4_method_8_code 70 = .ok (.getfield 19, 3) := dr_dd nD_T_parseNumber_0 38 rfl
theorem d_T_parseNumber_73 : decode prog_4_method_8_code 73 = .ok (.invokevirtual 47, 3) := dr_dd nD_T_parseNumber_0 39 rfl
abbrev nL_T_parseNumber_1 : List (Nat × Instr × Nat) := [(76, .goto 23, 3), (79, .iload_n 3, 1), (80, .iload_n 1, 1), (81, .if_icmp .lt 8, 3), (84, .iload_n 3, 1), (85, .iload_n 2, 1), (86, .if_icmp .le 13, 3), (89, .aload_n 0, 1), (90, .aload_n 0, 1), (91, .getfield 19, 3), (94, .iconst 1, 1), (95, .isub, 1), (96, .invokevirtual 47, 3), (99, .iload_n 3, 1), (100, .ireturn, 1)]
theorem nD_T_parseNumber_1 : ∀ q ∈ nL_T_parseNumber_1, decode prog_4_method_8_code q.1 = .ok (q.2.1, q.2.2) := by decide +kernel
theorem d_T_parseNumber_76 : decode prog_4_method_8_code 76 = .ok (.goto 23, 3) := dr_dd nD_T_parseNumber_1 0 rfl
theorem d_T_parseNumber_79 : decode prog_4_method_8_code 79 = .ok (.iload_n 3, 1) := dr_dd nD_T_parseNumber_1 1 rfl
theorem d_T_parseNumber_80 : decode prog_4_method_8_code 80 = .ok (.iload_n 1, 1) := dr_dd nD_T_parseNumber_1 2 rfl
theorem d_T_parseNumber_81 : decode prog_4_method_8_code 81 = .ok (.if_icmp .lt 8, 3) := dr_dd nD_T_parseNumber_1 3 rfl
theorem d_T_parseNumber_84 : decode prog_4_method_8_code 84 = .ok (.iload_n 3, 1) := dr_dd nD_T_parseNumber_1 4 rfl
theorem d_T_parseNumber_85 : decode prog_4_method_8_code 85 = .ok (.iload_n 2, 1) := dr_dd nD_T_parseNumber_1 5 rfl
theorem d_T_parseNumber_86 : decode prog_4_method_8_code 86 = .ok (.if_icmp .le 13, 3) := dr_dd nD_T_parseNumber_1 6 rfl
theorem d_T_parseNumber_89 : decode prog_4_method_8_code 89 = .ok (.aload_n 0, 1) := dr_dd nD_T_parseNumber_1 7 rfl
theorem d_T_parseNumber_90 : decode prog_4_method_8_code 90 = .ok (.aload_n 0, 1) := dr_dd nD_T_parseNumber_1 8 rfl
theorem d_T_parseNumber_91 : decode prog_4_method_8_code 91 = .ok (.getfield 19, 3) := dr_dd nD_T_parseNumber_1 9 rfl
theorem d_T_parseNumber_94 : decode prog_4_method_8_code 94 = .ok (.iconst 1, 1) := dr_dd nD_T_parseNumber_1 10 rfl
theorem d_T_parseNumber_95 : decode prog_4_method_8_code 95 = .ok (.isub, 1) := dr_dd nD_T_parseNumber_1 11 rfl
theorem d_T_parseNumber_96 : decode prog_4_method_8_code 96 = .ok (.invokevirtual 47, 3) := dr_dd nD_T_parseNumber_1 12 rfl
theorem d_T_parseNumber_99 : decode prog_4_method_8_code 99 = .ok (.iload_n 3, 1) := dr_dd nD_T_parseNumber_1 13 rfl
theorem d_T_parseNumber_100 : decode prog_4_method_8_code 100 = .ok (.ireturn, 1) := dr_dd nD_T_parseNumber_1 14 rfl
abbrev nL_T_expect_0 : List (Nat × Instr × Nat) := [(0, .aload_n 0, 1), (1, .iload_n 1, 1), (2, .invokevirtual 37, 3), (5, .ifCond .ne 11, 3), (8, .aload_n 0, 1), (9, .aload_n 0, 1), (10, .getfield 19, 3), (13, .invokevirtual 47, 3), (16, .return_, 1)]
theorem nD_T_expect_0 : ∀ q ∈ nL_T_expect_0, decode prog_4_method_9_code q.1 = .ok (q.2.1, q.2.2) := by decide +kernel
theorem d_T_expect_0 : decode prog_4_method_9_code 0 = .ok (.aload_n 0, 1) := dr_dd nD_T_expect_0 0 rfl
theorem d_T_expect_1 : decode prog_4_method_9_code 1 = .ok (.iload_n 1, 1) := dr_dd nD_T_expect_0 1 rfl
theorem d_T_expect_2 : decode prog_4_method_9_code 2 = .ok (.invokevirtual 37, 3) := dr_dd nD_T_expect_0 2 rfl
theorem d_T_expect_5 : decode prog_4_method_9_code 5 = .ok (.ifCond .ne 11, 3) := dr_dd nD_T_expect_0 3 rfl
theorem d_T_expect_8 : decode prog_4_method_9_code 8 = .ok (.aload_n 0, 1) := dr_dd nD_T_expect_0 4 rfl
theorem d_T_expect_9 : decode prog_4_method_9_code 9 = .ok (.aload_n 0, 1) := dr_dd nD_T_expect_0 5 rfl
theorem d_T_expect_10 : decode prog_4_method_9_code 10 = .ok (.getfield 19, 3) := dr_dd nD_T_expect_0 6 rfl
theorem d_T_expect_13 : decode prog_4_method_9_code 13 = .ok (.invokevirtual 47, 3) := dr_dd nD_T_expect_0 7 rfl
theorem d_T_expect_16 : decode prog_4_method_9_code 16 = .ok (.return_, 1) := dr_dd nD_T_expect_0 8 rfl
abbrev nL_T_accept_0 : List (Nat × Instr × Nat) := [(0, .aload_n 0, 1), (1, .invokevirtual 30, 3), (4, .aload_n 0, 1), (5, .invokevirtual 78, 3), (8, .iload_n 1, 1), (9, .if_icmp .eq 5, 3), (12, .iconst 0, 1), (13, .ireturn, 1), (14, .aload_n 0, 1), (15, .dup, 1), (16, .getfield 19, 3), (19, .iconst 1, 1), (20, .iadd, 1), (21, .putfield 19, 3), (24, .iconst 1, 1), (25, .ireturn, 1)]
theorem nD_T_accept_0 : ∀ q ∈ nL_T_accept_0, decode prog_4_method_10_code q.1 = .ok (q.2.1, q.2.2) := by decide +kernel
theorem d_T_accept_0 : decode prog_4_method_10_code 0 = .ok (.aload_n 0, 1) := dr_dd nD_T_accept_0 0 rfl
theorem d_T_accept_1 : decode prog_4_method_10_code 1 = .ok (.invokevirtual 30, 3) := dr_dd nD_T_accept_0 1 rfl
theorem d_T_accept_4 : decode prog_4_method_10_code 4 = .ok (.aload_n 0, 1) := dr_dd nD_T_accept_0 2 rfl
theorem d_T_accept_5 : decode prog_4_method_10_code 5 = .ok (.invokevirtual 78, 3) := dr_dd nD_T_accept_0 3 rfl
theorem d_T_accept_8 : decode prog_4_method_10_code 8 = .ok (.iload_n 1, 1) := dr_dd nD_T_accept_0 4 rfl
theorem d_T_accept_9 : decode prog_4_method_10_code 9 = .ok (.if_icmp .eq 5, 3) := dr_dd nD_T_accept_0 5 rfl
theorem d_T_accept_12 : decode prog_4_method_10_code 12 = .ok (.iconst 0, 1) := dr_dd nD_T_accept_0 6 rfl
theorem d_T_accept_13 : decode prog_4_method_10_code 13 = .ok (.ireturn, 1) := dr_dd nD_T_accept_0 7 rfl
theorem d_T_accept_14 : decode prog_4_method_10_code 14 = .ok (.aload_n 0, 1) := dr_dd nD_T_accept_0 8 rfl
theorem d_T_accept_15 : decode prog_4_method_10_code 15 = .ok (.dup, 1) := dr_dd nD_T_accept_0 9 rfl
theorem d_T_accept_16 : decode prog_4_method_10_code 16 = .ok (.getfield 19, 3) := dr_dd nD_T_accept_0 10 rfl
theorem d_T_accept_19 : decode prog_4_method_10_code 19 = .ok (.iconst 1, 1) := dr_dd nD_T_accept_0 11 rfl
theorem d_T_accept_20 : decode prog_4_method_10_code 20 = .ok (.iadd, 1) := dr_dd nD_T_accept_0 12 rfl
theorem d_T_accept_21 : decode prog_4_method_10_code 21 = .ok (.putfield 19, 3) := dr_dd nD_T_accept_0 13 rfl
theorem d_T_accept_24 : decode prog_4_method_10_code 24 = .ok (.iconst 1, 1) := dr_dd nD_T_accept_0 14 rfl
theorem d_T_accept_25 : decode prog_4_method_10_code 25 = .ok (.ireturn, 1) := dr_dd nD_T_accept_0 15 rfl
abbrev nL_T_skipBlanks_0 : List (Nat × Instr × Nat) := [(0, .aload_n 0, 1), (1, .getfield 19, 3), (4, .aload_n 0, 1), (5, .getfield 15, 3), (8, .if_icmp .ge 25, 3), (11, .aload_n 0, 1), (12, .invokevirtual 78, 3), (15, .bipush 32, 2), (17, .if_icmp .ne 16, 3), (20, .aload_n 0, 1), (21, .dup, 1), (22, .getfield 19, 3), (25, .iconst 1, 1), (26, .iadd, 1), (27, .putfield 19, 3), (30, .goto (-30), 3), (33, .return_, 1)]
theorem nD_T_skipBlanks_0 : ∀ q ∈ nL_T_skipBlanks_0, decode prog_4_method_11_code q.1 = .ok (q.2.1, q.2.2) := by decide +kernel
theorem d_T_skipBlanks_0 : decode prog_4_method_11_code 0 = .ok (.aload_n 0, 1) := dr_dd nD_T_skipBlanks_0 0 rfl
theorem d_T_skipBlanks_1 : decode prog_4_method_11_code 1 = .ok (.getfield 19, 3) := dr_dd nD_T_skipBlanks_0 1 rfl
theorem d_T_skipBlanks_4 : decode prog_4_method_11_code 4 = .ok (.aload_n 0, 1) := dr_dd nD_T_skipBlanks_0 2 rfl
theorem d_T_skipBlanks_5 : decode prog_4_method_11_code 5 = .ok (.getfield 15, 3) := dr_dd nD_T_skipBlanks_0 3 rfl
theorem d_T_skipBlanks_8 : decode prog_4_method_11_code 8 = .ok (.if_icmp .ge 25, 3) := dr_dd nD_T_skipBlanks_0 4 rfl
theorem d_T_skipBlanks_11 : decode prog_4_method_11_code 11 = .ok (.aload_n 0, 1) := dr_dd nD_T_skipBlanks_0 5 rfl
theorem d_T_skipBlanks_12 : decode prog_4_method_11_code 12 = .ok (.invokevirtual 78, 3) := dr_dd nD_T_skipBlanks_0 6 rfl
theorem d_T_skipBlanks_15 : decode prog_4_method_11_code 15 = .ok (.bipush 32, 2) := dr_dd nD_T_skipBlanks_0 7 rfl
theorem d_T_skipBlanks_17 : decode prog_4_method_11_code 17 = .ok (.if_icmp .ne 16, 3) := dr_dd nD_T_skipBlanks_0 8 rfl
theorem d_T_skipBlanks_20 : decode prog_4_method_11_code 20 = .ok (.aload_n 0, 1) := dr_dd nD_T_skipBlanks_0 9 rfl
theorem d_T_skipBlanks_21 : decode prog_4_method_11_code 21 = .ok (.dup, 1) := dr_dd nD_T_skipBlanks_0 10 rfl
theorem d_T_skipBlanks_22 : decode prog_4_method_11_code 22 = .ok (.getfield 19, 3) := dr_dd nD_T_skipBlanks_0 11 rfl
theorem d_T_skipBlanks_25 : decode prog_4_method_11_code 25 = .ok (.iconst 1, 1) := dr_dd nD_T_skipBlanks_0 12 rfl
theorem d_T_skipBlanks_26 : decode prog_4_method_11_code 26 = .ok (.iadd, 1) := dr_dd nD_T_skipBlanks_0 13 rfl
theorem d_T_skipBlanks_27 : decode prog_4_method_11_code 27 = .ok (.putfield 19, 3) := dr_dd nD_T_skipBlanks_0 14 rfl
theorem d_T_skipBlanks_30 : decode prog_4_method_11_code 30 = .ok (.goto (-30), 3) := dr_dd nD_T_skipBlanks_0 15 rfl
theorem d_T_skipBlanks_33 : decode prog_4_method_11_code 33 = .ok (.return_, 1) := dr_dd nD_T_skipBlanks_0 16 rfl
abbrev nL_T_nextByte_0 : List (Nat × Instr × Nat) := [(0, .aload_n 0, 1), (1, .getfield 19, 3), (4, .ifCond .lt 38, 3), (7, .aload_n 0, 1), (8, .getfield 19, 3), (11, .aload_n 0, 1), (12, .getfield 15, 3), (15, .if_icmp .ge 27, 3), (18, .aload_n 0, 1), (19, .getfield 19, 3), (22, .aload_n 0, 1), (23, .getfield 9, 3), (26, .arraylength, 1), (27, .if_icmp .ge 15, 3), (30, .aload_n 0, 1), (31, .getfield 9, 3), (34, .aload_n 0, 1), (35, .getfield 19, 3), (38, .iaload, 1), (39, .goto 4, 3), (42, .iconst (-1), 1), (43, .ireturn, 1)]
theorem nD_T_nextByte_0 : ∀ q ∈ nL_T_nextByte_0, decode prog_4_method_12_code q.1 = .ok (q.2.1, q.2.2) := by decide +kernel
theorem d_T_nextByte_0 : decode prog_4_method_12_code 0 = .ok (.aload_n 0, 1) := dr_dd nD_T_nextByte_0 0 rfl
theorem d_T_nextByte_1 : decode prog_4_method_12_code 1 = .ok (.getfield 19, 3) := dr_dd nD_T_nextByte_0 1 rfl
theorem d_T_nextByte_4 : decode prog_4_method_12_code 4 = .ok (.ifCond .lt 38, 3) := dr_dd nD_T_nextByte_0 2 rfl
theorem d_T_nextByte_7 : decode prog_4_method_12_code 7 = .ok (.aload_n 0, 1) := dr_dd nD_T_nextByte_0 3 rfl
theorem d_T_nextByte_8 : decode prog_4_method_12_code 8 = .ok (.getfield 19, 3) := dr_dd nD_T_nextByte_0 4 rfl
theorem d_T_nextByte_11 : decode prog_4_method_12_code 11 = .ok (.aload_n 0, 1) := dr_dd nD_T_nextByte_0 5 rfl
theorem d_T_nextByte_12 : decode prog_4_method_12_code 12 = .ok (.getfield 15, 3) := dr_dd nD_T_nextByte_0 6 rfl
theorem d_T_nextByte_15 : decode prog_4_method_12_code 15 = .ok (.if_icmp .ge 27, 3) := dr_dd nD_T_nextByte_0 7 rfl
theorem d_T_nextByte_18 : decode prog_4_method_12_code 18 = .ok (.aload_n 0, 1) := dr_dd nD_T_nextByte_0 8 rfl
theorem d_T_nextByte_19 : decode prog_4_method_12_code 19 = .ok (.getfield 19, 3) := dr_dd nD_T_nextByte_0 9 rfl
theorem d_T_nextByte_22 : decode prog_4_method_12_code 22 = .ok (.aload_n 0, 1) := dr_dd nD_T_nextByte_0 10 rfl
theorem d_T_nextByte_23 : decode prog_4_method_12_code 23 = .ok (.getfield 9, 3) := dr_dd nD_T_nextByte_0 11 rfl
theorem d_T_nextByte_26 : decode prog_4_method_12_code 26 = .ok (.arraylength, 1) := dr_dd nD_T_nextByte_0 12 rfl
theorem d_T_nextByte_27 : decode prog_4_method_12_code 27 = .ok (.if_icmp .ge 15, 3) := dr_dd nD_T_nextByte_0 13 rfl
theorem d_T_nextByte_30 : decode prog_4_method_12_code 30 = .ok (.aload_n 0, 1) := dr_dd nD_T_nextByte_0 14 rfl
theorem d_T_nextByte_31 : decode prog_4_method_12_code 31 = .ok (.getfield 9, 3) := dr_dd nD_T_nextByte_0 15 rfl
theorem d_T_nextByte_34 : decode prog_4_method_12_code 34 = .ok (.aload_n 0, 1) := dr_dd nD_T_nextByte_0 16 rfl
theorem d_T_nextByte_35 : decode prog_4_method_12_code 35 = .ok (.getfield 19, 3) := dr_dd nD_T_nextByte_0 17 rfl
theorem d_T_nextByte_38 : decode prog_4_method_12_code 38 = .ok (.iaload, 1) := dr_dd nD_T_nextByte_0 18 rfl
theorem d_T_nextByte_39 : decode prog_4_method_12_code 39 = .ok (.goto 4, 3) := dr_dd nD_T_nextByte_0 19 rfl
theorem d_T_nextByte_42 : decode prog_4_method_12_code 42 = .ok (.iconst (-1), 1) := dr_dd nD_T_nextByte_0 20 rfl
theorem d_T_nextByte_43 : decode prog_4_method_12_code 43 = .ok (.ireturn, 1) := dr_dd nD_T_nextByte_0 21 rfl
abbrev nL_T_isDigit_0 : List (Nat × Instr × Nat) := [(0, .iload_n 0, 1), (1, .bipush 48, 2), (3, .if_icmp .lt 13, 3), (6, .iload_n 0, 1), (7, .bipush 57, 2), (9, .if_icmp .gt 7, 3), (12, .iconst 1, 1), (13, .goto 4, 3), (16, .iconst 0, 1), (17, .ireturn, 1)]
theorem nD_T_isDigit_0 : ∀ q ∈ nL_T_isDigit_0, decode prog_4_method_13_code q.1 = .ok (q.2.1, q.2.2) := by decide +kernel
theorem d_T_isDigit_0 : decode prog_4_method_13_code 0 = .ok (.iload_n 0, 1) := dr_dd nD_T_isDigit_0 0 rfl
theorem d_T_isDigit_1 : decode prog_4_method_13_code 1 = .ok (.bipush 48, 2) := dr_dd nD_T_isDigit_0 1 rfl
theorem d_T_isDigit_3 : decode prog_4_method_13_code 3 = .ok (.if_icmp .lt 13, 3) := dr_dd nD_T_isDigit_0 2 rfl
theorem d_T_isDigit_6 : decode prog_4_method_13_code 6 = .ok (.iload_n 0, 1) := dr_dd nD_T_isDigit_0 3 rfl
theorem d_T_isDigit_7 : decode prog_4_method_13_code 7 = .ok (.bipush 57, 2) := dr_dd nD_T_isDigit_0 4 rfl
theorem d_T_isDigit_9 : decode prog_4_method_13_code 9 = .ok (.if_icmp .gt 7, 3) := dr_dd nD_T_isDigit_0 5 rfl
theorem d_T_isDigit_12 : decode prog_4_method_13_code 12 = .ok (.iconst 1, 1) := dr_dd nD_T_isDigit_0 6 rfl
theorem d_T_isDigit_13 : decode prog_4_method_13_code 13 = .ok (.goto 4, 3) := dr_dd nD_T_isDigit_0 7 rfl
theorem d_T_isDigit_16 : decode prog_4_method_13_code 16 = .ok (.iconst 0, 1) := dr_dd nD_T_isDigit_0 8 rfl
theorem d_T_isDigit_17 : decode prog_4_method_13_code 17 = .ok (.ireturn, 1) := dr_dd nD_T_isDigit_0 9 rfl
abbrev nL_T_fail_0 : List (Nat × Instr × Nat) := [(0, .aload_n 0, 1), (1, .getfield 22, 3), (4, .iconst (-1), 1), (5, .if_icmp .ne 8, 3), (8, .aload_n 0, 1), (9, .iload_n 1, 1), (10, .putfield 22, 3), (13, .return_, 1)]
theorem nD_T_fail_0 : ∀ q ∈ nL_T_fail_0, decode prog_4_method_14_code q.1 = .ok (q.2.1, q.2.2) := by decide +kernel
theorem d_T_fail_0 : decode prog_4_method_14_code 0 = .ok (.aload_n 0, 1) := dr_dd nD_T_fail_0 0 rfl
theorem d_T_fail_1 : decode prog_4_method_14_code 1 = .ok (.getfield 22, 3) := dr_dd nD_T_fail_0 1 rfl
theorem d_T_fail_4 : decode prog_4_method_14_code 4 = .ok (.iconst (-1), 1) := dr_dd nD_T_fail_0 2 rfl
theorem d_T_fail_5 : decode prog_4_method_14_code 5 = .ok (.if_icmp .ne 8, 3) := dr_dd nD_T_fail_0 3 rfl
theorem d_T_fail_8 : decode prog_4_method_14_code 8 = .ok (.aload_n 0, 1) := dr_dd nD_T_fail_0 4 rfl
theorem d_T_fail_9 : decode prog_4_method_14_code 9 = .ok (.iload_n 1, 1) := dr_dd nD_T_fail_0 5 rfl
theorem d_T_fail_10 : decode prog_4_method_14_code 10 = .ok (.putfield 22, 3) := dr_dd nD_T_fail_0 6 rfl
theorem d_T_fail_13 : decode prog_4_method_14_code 13 = .ok (.return_, 1) := dr_dd nD_T_fail_0 7 rfl
abbrev nL_N_min_0 : List (Nat × Instr × Nat) := [(0, .iload_n 0, 1), (1, .iload_n 1, 1), (2, .if_icmp .gt 7, 3), (5, .iload_n 0, 1), (6, .goto 4, 3), (9, .iload_n 1, 1), (10, .ireturn, 1)]
theorem nD_N_min_0 : ∀ q ∈ nL_N_min_0, decode prog_12_method_69_code q.1 = .ok (q.2.1, q.2.2) := by decide +kernel
theorem d_N_min_0 : decode prog_12_method_69_code 0 = .ok (.iload_n 0, 1) := dr_dd nD_N_min_0 0 rfl
theorem d_N_min_1 : decode prog_12_method_69_code 1 = .ok (.iload_n 1, 1) := dr_dd nD_N_min_0 1 rfl
theorem d_N_min_2 : decode prog_12_method_69_code 2 = .ok (.if_icmp .gt 7, 3) := dr_dd nD_N_min_0 2 rfl
theorem d_N_min_5 : decode prog_12_method_69_code 5 = .ok (.iload_n 0, 1) := dr_dd nD_N_min_0 3 rfl
theorem d_N_min_6 : decode prog_12_method_69_code 6 = .ok (.goto 4, 3) := dr_dd nD_N_min_0 4 rfl
theorem d_N_min_9 : decode prog_12_method_69_code 9 = .ok (.iload_n 1, 1) := dr_dd nD_N_min_0 5 rfl
theorem d_N_min_10 : decode prog_12_method_69_code 10 = .ok (.ireturn, 1) := dr_dd nD_N_min_0 6 rfl
abbrev nL_A_fill_0 : List (Nat × Instr × Nat) := [(0, .iconst 0, 1), (1, .istore_n 2, 1), (2, .aload_n 0, 1), (3, .arraylength, 1), (4, .istore_n 3, 1), (5, .iload_n 2, 1), (6, .iload_n 3, 1), (7, .if_icmp .ge 13, 3), (10, .aload_n 0, 1), (11, .iload_n 2, 1), (12, .iload_n 1, 1), (13, .iastore, 1), (14, .iinc 2 1, 3), (17, .goto (-12), 3), (20, .return_, 1)]
theorem nD_A_fill_0 : ∀ q ∈ nL_A_fill_0, decode prog_17_method_103_code q.1 = .ok (q.2.1, q.2.2) := by decide +kernel
theorem d_A_fill_0 : decode prog_17_method_103_code 0 = .ok (.iconst 0, 1) := dr_dd nD_A_fill_0 0 rfl
theorem d_A_fill_1 : decode prog_17_method_103_code 1 = .ok (.istore_n 2, 1) := dr_dd nD_A_fill_0 1 rfl
theorem d_A_fill_2 : decode prog_17_method_103_code 2 = .ok (.aload_n 0, 1) := dr_dd nD_A_fill_0 2 rfl
theorem d_A_fill_3 : decode prog_17_method_103_code 3 = .ok (.arraylength, 1) := dr_dd nD_A_fill_0 3 rfl
theorem d_A_fill_4 : decode prog_17_method_103_code 4 = .ok (.istore_n 3, 1) := dr_dd nD_A_fill_0 4 rfl
theorem d_A_fill_5 : decode prog_17_method_103_code 5 = .ok (.iload_n 2, 1) := dr_dd nD_A_fill_0 5 rfl
theorem d_A_fill_6 : decode prog_17_method_103_code 6 = .ok (.iload_n 3, 1) := dr_dd nD_A_fill_0 6 rfl
theorem d_A_fill_7 : decode prog_17_method_103_code 7 = .ok (.if_icmp .ge 13, 3) := dr_dd nD_A_fill_0 7 rfl
theorem d_A_fill_10 : decode prog_17_method_103_code 10 = .ok (.aload_n 0, 1) := dr_dd nD_A_fill_0 8 rfl
theorem d_A_fill_11 : decode prog_17_method_103_code 11 = .ok (.iload_n 2, 1) := dr_dd nD_A_fill_0 9 rfl
theorem d_A_fill_12 : decode prog_17_method_103_code 12 = .ok (.iload_n 1, 1) := dr_dd nD_A_fill_0 10 rfl
theorem d_A_fill_13 : decode prog_17_method_103_code 13 = .ok (.iastore, 1) := dr_dd nD_A_fill_0 11 rfl
theorem d_A_fill_14 : decode prog_17_method_103_code 14 = .ok (.iinc 2 1, 3) := dr_dd nD_A_fill_0 12 rfl
theorem d_A_fill_17 : decode prog_17_method_103_code 17 = .ok (.goto (-12), 3) := dr_dd nD_A_fill_0 13 rfl
theorem d_A_fill_20 : decode prog_17_method_103_code 20 = .ok (.return_, 1) := dr_dd nD_A_fill_0 14 rfl
