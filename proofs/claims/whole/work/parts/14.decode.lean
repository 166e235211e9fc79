abbrev nL_L_sign_0 : List (Nat × Instr × Nat) := [(0, .aload 4, 2), (2, .iconst 0, 1), (3, .aload_n 0, 1), (4, .lload_n 1, 1), (5, .iload_n 3, 1), (6, .invokevirtual 7, 3), (9, .i2l, 1), (10, .lastore, 1), (11, .goto 11, 3), (14, .astore 5, 2), (16, .iconst 1, 1), (17, .ireturn, 1), (18, .astore 5, 2), (20, .iconst 2, 1), (21, .ireturn, 1), (22, .iconst 0, 1), (23, .ireturn, 1)]
theorem nD_L_sign_0 : ∀ q ∈ nL_L_sign_0, decode method_3_code q.1 = .ok (q.2.1, q.2.2) := by decide +kernel
theorem d_L_sign_0 : decode method_3_code 0 = .ok (.aload 4, 2) := dr_dd nD_L_sign_0 0 rfl
theorem d_L_sign_2 : decode method_3_code 2 = .ok (.iconst 0, 1) := dr_dd nD_L_sign_0 1 rfl
theorem d_L_sign_3 : decode method_3_code 3 = .ok (.aload_n 0, 1) := dr_dd nD_L_sign_0 2 rfl
theorem d_L_sign_4 : decode method_3_code 4 = .ok (.lload_n 1, 1) := dr_dd nD_L_sign_0 3 rfl
theorem d_L_sign_5 : decode method_3_code 5 = .ok (.iload_n 3, 1) := dr_dd nD_L_sign_0 4 rfl
theorem d_L_sign_6 : decode method_3_code 6 = .ok (.invokevirtual 7, 3) := dr_dd nD_L_sign_0 5 rfl
theorem d_L_sign_9 : decode method_3_code 9 = .ok (.i2l, 1) := dr_dd nD_L_sign_0 6 rfl
theorem d_L_sign_10 : decode method_3_code 10 = .ok (.lastore, 1) := dr_dd nD_L_sign_0 7 rfl
theorem d_L_sign_11 : decode method_3_code 11 = .ok (.goto 11, 3) := dr_dd nD_L_sign_0 8 rfl
theorem d_L_sign_14 : decode method_3_code 14 = .ok (.astore 5, 2) := dr_dd nD_L_sign_0 9 rfl
theorem d_L_sign_16 : decode method_3_code 16 = .ok (.iconst 1, 1) := dr_dd nD_L_sign_0 10 rfl
theorem d_L_sign_17 : decode method_3_code 17 = .ok (.ireturn, 1) := dr_dd nD_L_sign_0 11 rfl
theorem d_L_sign_18 : decode method_3_code 18 = .ok (.astore 5, 2) := dr_dd nD_L_sign_0 12 rfl
theorem d_L_sign_20 : decode method_3_code 20 = .ok (.iconst 2, 1) := dr_dd nD_L_sign_0 13 rfl
theorem d_L_sign_21 : decode method_3_code 21 = .ok (.ireturn, 1) := dr_dd nD_L_sign_0 14 rfl
theorem d_L_sign_22 : decode method_3_code 22 = .ok (.iconst 0, 1) := dr_dd nD_L_sign_0 15 rfl
theorem d_L_sign_23 : decode method_3_code 23 = .ok (.ireturn, 1) := dr_dd nD_L_sign_0 16 rfl
abbrev nL_L_read_0 : List (Nat × Instr × Nat) := [(0, .aload_n 1, 1), (1, .iconst 0, 1), (2, .aload_n 0, 1), (3, .invokevirtual 17, 3), (6, .i2l, 1), (7, .lastore, 1), (8, .goto 6, 3), (11, .astore_n 2, 1), (12, .iconst 1, 1), (13, .ireturn, 1), (14, .iconst 0, 1), (15, .ireturn, 1)]
theorem nD_L_read_0 : ∀ q ∈ nL_L_read_0, decode method_4_code q.1 = .ok (q.2.1, q.2.2) := by decide +kernel
theorem d_L_read_0 : decode method_4_code 0 = .ok (.aload_n 1, 1) := dr_dd nD_L_read_0 0 rfl
theorem d_L_read_1 : decode method_4_code 1 = .ok (.iconst 0, 1) := dr_dd nD_L_read_0 1 rfl
theorem d_L_read_2 : decode method_4_code 2 = .ok (.aload_n 0, 1) := dr_dd nD_L_read_0 2 rfl
theorem d_L_read_3 : decode method_4_code 3 = .ok (.invokevirtual 17, 3) := dr_dd nD_L_read_0 3 rfl
theorem d_L_read_6 : decode method_4_code 6 = .ok (.i2l, 1) := dr_dd nD_L_read_0 4 rfl
theorem d_L_read_7 : decode method_4_code 7 = .ok (.lastore, 1) := dr_dd nD_L_read_0 5 rfl
theorem d_L_read_8 : decode method_4_code 8 = .ok (.goto 6, 3) := dr_dd nD_L_read_0 6 rfl
theorem d_L_read_11 : decode method_4_code 11 = .ok (.astore_n 2, 1) := dr_dd nD_L_read_0 7 rfl
theorem d_L_read_12 : decode method_4_code 12 = .ok (.iconst 1, 1) := dr_dd nD_L_read_0 8 rfl
theorem d_L_read_13 : decode method_4_code 13 = .ok (.ireturn, 1) := dr_dd nD_L_read_0 9 rfl
theorem d_L_read_14 : decode method_4_code 14 = .ok (.iconst 0, 1) := dr_dd nD_L_read_0 10 rfl
theorem d_L_read_15 : decode method_4_code 15 = .ok (.ireturn, 1) := dr_dd nD_L_read_0 11 rfl
abbrev nL_L_begin_0 : List (Nat × Instr × Nat) := [(0, .aload_n 1, 1), (1, .iconst 0, 1), (2, .aload_n 0, 1), (3, .invokevirtual 23, 3), (6, .i2l, 1), (7, .lastore, 1), (8, .goto 9, 3), (11, .astore_n 2, 1), (12, .iconst 1, 1), (13, .ireturn, 1), (14, .astore_n 2, 1), (15, .iconst 2, 1), (16, .ireturn, 1), (17, .iconst 0, 1), (18, .ireturn, 1)]
theorem nD_L_begin_0 : ∀ q ∈ nL_L_begin_0, decode method_5_code q.1 = .ok (q.2.1, q.2.2) := by decide +kernel
theorem d_L_begin_0 : decode method_5_code 0 = .ok (.aload_n 1, 1) := dr_dd nD_L_begin_0 0 rfl
theorem d_L_begin_1 : decode method_5_code 1 = .ok (.iconst 0, 1) := dr_dd nD_L_begin_0 1 rfl
theorem d_L_begin_2 : decode method_5_code 2 = .ok (.aload_n 0, 1) := dr_dd nD_L_begin_0 2 rfl
theorem d_L_begin_3 : decode method_5_code 3 = .ok (.invokevirtual 23, 3) := dr_dd nD_L_begin_0 3 rfl
theorem d_L_begin_6 : decode method_5_code 6 = .ok (.i2l, 1) := dr_dd nD_L_begin_0 4 rfl
theorem d_L_begin_7 : decode method_5_code 7 = .ok (.lastore, 1) := dr_dd nD_L_begin_0 5 rfl
theorem d_L_begin_8 : decode method_5_code 8 = .ok (.goto 9, 3) := dr_dd nD_L_begin_0 6 rfl
theorem d_L_begin_11 : decode method_5_code 11 = .ok (.astore_n 2, 1) := dr_dd nD_L_begin_0 7 rfl
theorem d_L_begin_12 : decode method_5_code 12 = .ok (.iconst 1, 1) := dr_dd nD_L_begin_0 8 rfl
theorem d_L_begin_13 : decode method_5_code 13 = .ok (.ireturn, 1) := dr_dd nD_L_begin_0 9 rfl
theorem d_L_begin_14 : decode method_5_code 14 = .ok (.astore_n 2, 1) := dr_dd nD_L_begin_0 10 rfl
theorem d_L_begin_15 : decode method_5_code 15 = .ok (.iconst 2, 1) := dr_dd nD_L_begin_0 11 rfl
theorem d_L_begin_16 : decode method_5_code 16 = .ok (.ireturn, 1) := dr_dd nD_L_begin_0 12 rfl
theorem d_L_begin_17 : decode method_5_code 17 = .ok (.iconst 0, 1) := dr_dd nD_L_begin_0 13 rfl
theorem d_L_begin_18 : decode method_5_code 18 = .ok (.ireturn, 1) := dr_dd nD_L_begin_0 14 rfl
abbrev nL_L_stop_0 : List (Nat × Instr × Nat) := [(0, .aload_n 0, 1), (1, .iload_n 1, 1), (2, .invokevirtual 26, 3), (5, .goto 9, 3), (8, .astore_n 2, 1), (9, .iconst 1, 1), (10, .ireturn, 1), (11, .astore_n 2, 1), (12, .iconst 2, 1), (13, .ireturn, 1), (14, .iconst 0, 1), (15, .ireturn, 1)]
theorem nD_L_stop_0 : ∀ q ∈ nL_L_stop_0, decode method_6_code q.1 = .ok (q.2.1, q.2.2) := by decide +kernel
theorem d_L_stop_0 : decode method_6_code 0 = .ok (.aload_n 0, 1) := dr_dd nD_L_stop_0 0 rfl
theorem d_L_stop_1 : decode method_6_code 1 = .ok (.iload_n 1, 1) := dr_dd nD_L_stop_0 1 rfl
theorem d_L_stop_2 : decode method_6_code 2 = .ok (.invokevirtual 26, 3) := dr_dd nD_L_stop_0 2 rfl
theorem d_L_stop_5 : decode method_6_code 5 = .ok (.goto 9, 3) := dr_dd nD_L_stop_0 3 rfl
theorem d_L_stop_8 : decode method_6_code 8 = .ok (.astore_n 2, 1) := dr_dd nD_L_stop_0 4 rfl
theorem d_L_stop_9 : decode method_6_code 9 = .ok (.iconst 1, 1) := dr_dd nD_L_stop_0 5 rfl
theorem d_L_stop_10 : decode method_6_code 10 = .ok (.ireturn, 1) := dr_dd nD_L_stop_0 6 rfl
theorem d_L_stop_11 : decode method_6_code 11 = .ok (.astore_n 2, 1) := dr_dd nD_L_stop_0 7 rfl
theorem d_L_stop_12 : decode method_6_code 12 = .ok (.iconst 2, 1) := dr_dd nD_L_stop_0 8 rfl
theorem d_L_stop_13 : decode method_6_code 13 = .ok (.ireturn, 1) := dr_dd nD_L_stop_0 9 rfl
theorem d_L_stop_14 : decode method_6_code 14 = .ok (.iconst 0, 1) := dr_dd nD_L_stop_0 10 rfl
theorem d_L_stop_15 : decode method_6_code 15 = .ok (.ireturn, 1) := dr_dd nD_L_stop_0 11 rfl
abbrev nL_L_unit_0 : List (Nat × Instr × Nat) := [(0, .aload_n 0, 1), (1, .iload_n 1, 1), (2, .iload_n 2, 1), (3, .invokevirtual 32, 3), (6, .goto 9, 3), (9, .astore_n 3, 1), (10, .iconst 1, 1), (11, .ireturn, 1), (12, .astore_n 3, 1), (13, .iconst 2, 1), (14, .ireturn, 1), (15, .iconst 0, 1), (16, .ireturn, 1)]
theorem nD_L_unit_0 : ∀ q ∈ nL_L_unit_0, decode method_7_code q.1 = .ok (q.2.1, q.2.2) := by decide +kernel
theorem d_L_unit_0 : decode method_7_code 0 = .ok (.aload_n 0, 1) := dr_dd nD_L_unit_0 0 rfl
theorem d_L_unit_1 : decode method_7_code 1 = .ok (.iload_n 1, 1) := dr_dd nD_L_unit_0 1 rfl
theorem d_L_unit_2 : decode method_7_code 2 = .ok (.iload_n 2, 1) := dr_dd nD_L_unit_0 2 rfl
theorem d_L_unit_3 : decode method_7_code 3 = .ok (.invokevirtual 32, 3) := dr_dd nD_L_unit_0 3 rfl
theorem d_L_unit_6 : decode method_7_code 6 = .ok (.goto 9, 3) := dr_dd nD_L_unit_0 4 rfl
theorem d_L_unit_9 : decode method_7_code 9 = .ok (.astore_n 3, 1) := dr_dd nD_L_unit_0 5 rfl
theorem d_L_unit_10 : decode method_7_code 10 = .ok (.iconst 1, 1) := dr_dd nD_L_unit_0 6 rfl
theorem d_L_unit_11 : decode method_7_code 11 = .ok (.ireturn, 1) := dr_dd nD_L_unit_0 7 rfl
theorem d_L_unit_12 : decode method_7_code 12 = .ok (.astore_n 3, 1) := dr_dd nD_L_unit_0 8 rfl
theorem d_L_unit_13 : decode method_7_code 13 = .ok (.iconst 2, 1) := dr_dd nD_L_unit_0 9 rfl
theorem d_L_unit_14 : decode method_7_code 14 = .ok (.ireturn, 1) := dr_dd nD_L_unit_0 10 rfl
theorem d_L_unit_15 : decode method_7_code 15 = .ok (.iconst 0, 1) := dr_dd nD_L_unit_0 11 rfl
theorem d_L_unit_16 : decode method_7_code 16 = .ok (.ireturn, 1) := dr_dd nD_L_unit_0 12 rfl
abbrev nL_L_real_0 : List (Nat × Instr × Nat) := [(0, .aload_n 2, 1), (1, .iconst 0, 1), (2, .aload_n 0, 1), (3, .iload_n 1, 1), (4, .invokevirtual 36, 3), (7, .i2l, 1), (8, .lastore, 1), (9, .goto 6, 3), (12, .astore_n 3, 1), (13, .iconst 1, 1), (14, .ireturn, 1), (15, .iconst 0, 1), (16, .ireturn, 1)]
theorem nD_L_real_0 : ∀ q ∈ nL_L_real_0, decode method_8_code q.1 = .ok (q.2.1, q.2.2) := by decide +kernel
theorem d_L_real_0 : decode method_8_code 0 = .ok (.aload_n 2, 1) := dr_dd nD_L_real_0 0 rfl
theorem d_L_real_1 : decode method_8_code 1 = .ok (.iconst 0, 1) := dr_dd nD_L_real_0 1 rfl
theorem d_L_real_2 : decode method_8_code 2 = .ok (.aload_n 0, 1) := dr_dd nD_L_real_0 2 rfl
theorem d_L_real_3 : decode method_8_code 3 = .ok (.iload_n 1, 1) := dr_dd nD_L_real_0 3 rfl
theorem d_L_real_4 : decode method_8_code 4 = .ok (.invokevirtual 36, 3) := dr_dd nD_L_real_0 4 rfl
theorem d_L_real_7 : decode method_8_code 7 = .ok (.i2l, 1) := dr_dd nD_L_real_0 5 rfl
theorem d_L_real_8 : decode method_8_code 8 = .ok (.lastore, 1) := dr_dd nD_L_real_0 6 rfl
theorem d_L_real_9 : decode method_8_code 9 = .ok (.goto 6, 3) := dr_dd nD_L_real_0 7 rfl
theorem d_L_real_12 : decode method_8_code 12 = .ok (.astore_n 3, 1) := dr_dd nD_L_real_0 8 rfl
theorem d_L_real_13 : decode method_8_code 13 = .ok (.iconst 1, 1) := dr_dd nD_L_real_0 9 rfl
theorem d_L_real_14 : decode method_8_code 14 = .ok (.ireturn, 1) := dr_dd nD_L_real_0 10 rfl
theorem d_L_real_15 : decode method_8_code 15 = .ok (.iconst 0, 1) := dr_dd nD_L_real_0 11 rfl
theorem d_L_real_16 : decode method_8_code 16 = .ok (.ireturn, 1) := dr_dd nD_L_real_0 12 rfl
abbrev nL_L_act_0 : List (Nat × Instr × Nat) := [(0, .aload_n 3, 1), (1, .iconst 0, 1), (2, .aload_n 0, 1), (3, .iload_n 1, 1), (4, .iload_n 2, 1), (5, .invokevirtual 40, 3), (8, .i2l, 1), (9, .lastore, 1), (10, .goto 15, 3), (13, .astore 4, 2), (15, .iconst 1, 1), (16, .ireturn, 1), (17, .astore 4, 2), (19, .iconst 2, 1), (20, .ireturn, 1), (21, .astore 4, 2), (23, .iconst 3, 1), (24, .ireturn, 1), (25, .iconst 0, 1), (26, .ireturn, 1)]
theorem nD_L_act_0 : ∀ q ∈ nL_L_act_0, decode method_9_code q.1 = .ok (q.2.1, q.2.2) := by decide +kernel
theorem d_L_act_0 : decode method_9_code 0 = .ok (.aload_n 3, 1) := dr_dd nD_L_act_0 0 rfl
theorem d_L_act_1 : decode method_9_code 1 = .ok (.iconst 0, 1) := dr_dd nD_L_act_0 1 rfl
theorem d_L_act_2 : decode method_9_code 2 = .ok (.aload_n 0, 1) := dr_dd nD_L_act_0 2 rfl
theorem d_L_act_3 : decode method_9_code 3 = .ok (.iload_n 1, 1) := dr_dd nD_L_act_0 3 rfl
theorem d_L_act_4 : decode method_9_code 4 = .ok (.iload_n 2, 1) := dr_dd nD_L_act_0 4 rfl
theorem d_L_act_5 : decode method_9_code 5 = .ok (.invokevirtual 40, 3) := dr_dd nD_L_act_0 5 rfl
theorem d_L_act_8 : decode method_9_code 8 = .ok (.i2l, 1) := dr_dd nD_L_act_0 6 rfl
theorem d_L_act_9 : decode method_9_code 9 = .ok (.lastore, 1) := dr_dd nD_L_act_0 7 rfl
theorem d_L_act_10 : decode method_9_code 10 = .ok (.goto 15, 3) := dr_dd nD_L_act_0 8 rfl
theorem d_L_act_13 : decode method_9_code 13 = .ok (.astore 4, 2) := dr_dd nD_L_act_0 9 rfl
theorem d_L_act_15 : decode method_9_code 15 = .ok (.iconst 1, 1) := dr_dd nD_L_act_0 10 rfl
theorem d_L_act_16 : decode method_9_code 16 = .ok (.ireturn, 1) := dr_dd nD_L_act_0 11 rfl
theorem d_L_act_17 : decode method_9_code 17 = .ok (.astore 4, 2) := dr_dd nD_L_act_0 12 rfl
theorem d_L_act_19 : decode method_9_code 19 = .ok (.iconst 2, 1) := dr_dd nD_L_act_0 13 rfl
theorem d_L_act_20 : decode method_9_code 20 = .ok (.ireturn, 1) := dr_dd nD_L_act_0 14 rfl
theorem d_L_act_21 : decode method_9_code 21 = .ok (.astore 4, 2) := dr_dd nD_L_act_0 15 rfl
theorem d_L_act_23 : decode method_9_code 23 = .ok (.iconst 3, 1) := dr_dd nD_L_act_0 16 rfl
theorem d_L_act_24 : decode method_9_code 24 = .ok (.ireturn, 1) := dr_dd nD_L_act_0 17 rfl
theorem d_L_act_25 : decode method_9_code 25 = .ok (.iconst 0, 1) := dr_dd nD_L_act_0 18 rfl
theorem d_L_act_26 : decode method_9_code 26 = .ok (.ireturn, 1) := dr_dd nD_L_act_0 19 rfl
abbrev nL_L_tick_0 : List (Nat × Instr × Nat) := [(0, .aload_n 2, 1), (1, .iconst 0, 1), (2, .aload_n 0, 1), (3, .iload_n 1, 1), (4, .invokevirtual 44, 3), (7, .i2l, 1), (8, .lastore, 1), (9, .goto 6, 3), (12, .astore_n 3, 1), (13, .iconst 1, 1), (14, .ireturn, 1), (15, .iconst 0, 1), (16, .ireturn, 1)]
theorem nD_L_tick_0 : ∀ q ∈ nL_L_tick_0, decode method_10_code q.1 = .ok (q.2.1, q.2.2) := by decide +kernel
theorem d_L_tick_0 : decode method_10_code 0 = .ok (.aload_n 2, 1) := dr_dd nD_L_tick_0 0 rfl
theorem d_L_tick_1 : decode method_10_code 1 = .ok (.iconst 0, 1) := dr_dd nD_L_tick_0 1 rfl
theorem d_L_tick_2 : decode method_10_code 2 = .ok (.aload_n 0, 1) := dr_dd nD_L_tick_0 2 rfl
theorem d_L_tick_3 : decode method_10_code 3 = .ok (.iload_n 1, 1) := dr_dd nD_L_tick_0 3 rfl
theorem d_L_tick_4 : decode method_10_code 4 = .ok (.invokevirtual 44, 3) := dr_dd nD_L_tick_0 4 rfl
theorem d_L_tick_7 : decode method_10_code 7 = .ok (.i2l, 1) := dr_dd nD_L_tick_0 5 rfl
theorem d_L_tick_8 : decode method_10_code 8 = .ok (.lastore, 1) := dr_dd nD_L_tick_0 6 rfl
theorem d_L_tick_9 : decode method_10_code 9 = .ok (.goto 6, 3) := dr_dd nD_L_tick_0 7 rfl
theorem d_L_tick_12 : decode method_10_code 12 = .ok (.astore_n 3, 1) := dr_dd nD_L_tick_0 8 rfl
theorem d_L_tick_13 : decode method_10_code 13 = .ok (.iconst 1, 1) := dr_dd nD_L_tick_0 9 rfl
theorem d_L_tick_14 : decode method_10_code 14 = .ok (.ireturn, 1) := dr_dd nD_L_tick_0 10 rfl
theorem d_L_tick_15 : decode method_10_code 15 = .ok (.iconst 0, 1) := dr_dd nD_L_tick_0 11 rfl
theorem d_L_tick_16 : decode method_10_code 16 = .ok (.ireturn, 1) := dr_dd nD_L_tick_0 12 rfl
abbrev nL_L_event_0 : List (Nat × Instr × Nat) := [(0, .aload 4, 2), (2, .iconst 0, 1), (3, .aload_n 0, 1), (4, .iload_n 1, 1), (5, .iload_n 2, 1), (6, .iload_n 3, 1), (7, .invokevirtual 47, 3), (10, .i2l, 1), (11, .lastore, 1), (12, .goto 7, 3), (15, .astore 5, 2), (17, .iconst 1, 1), (18, .ireturn, 1), (19, .iconst 0, 1), (20, .ireturn, 1)]
theorem nD_L_event_0 : ∀ q ∈ nL_L_event_0, decode method_11_code q.1 = .ok (q.2.1, q.2.2) := by decide +kernel
theorem d_L_event_0 : decode method_11_code 0 = .ok (.aload 4, 2) := dr_dd nD_L_event_0 0 rfl
theorem d_L_event_2 : decode method_11_code 2 = .ok (.iconst 0, 1) := dr_dd nD_L_event_0 1 rfl
theorem d_L_event_3 : decode method_11_code 3 = .ok (.aload_n 0, 1) := dr_dd nD_L_event_0 2 rfl
theorem d_L_event_4 : decode method_11_code 4 = .ok (.iload_n 1, 1) := dr_dd nD_L_event_0 3 rfl
theorem d_L_event_5 : decode method_11_code 5 = .ok (.iload_n 2, 1) := dr_dd nD_L_event_0 4 rfl
theorem d_L_event_6 : decode method_11_code 6 = .ok (.iload_n 3, 1) := dr_dd nD_L_event_0 5 rfl
theorem d_L_event_7 : decode method_11_code 7 = .ok (.invokevirtual 47, 3) := dr_dd nD_L_event_0 6 rfl
theorem d_L_event_10 : decode method_11_code 10 = .ok (.i2l, 1) := dr_dd nD_L_event_0 7 rfl
theorem d_L_event_11 : decode method_11_code 11 = .ok (.lastore, 1) := dr_dd nD_L_event_0 8 rfl
theorem d_L_event_12 : decode method_11_code 12 = .ok (.goto 7, 3) := dr_dd nD_L_event_0 9 rfl
theorem d_L_event_15 : decode method_11_code 15 = .ok (.astore 5, 2) := dr_dd nD_L_event_0 10 rfl
theorem d_L_event_17 : decode method_11_code 17 = .ok (.iconst 1, 1) := dr_dd nD_L_event_0 11 rfl
theorem d_L_event_18 : decode method_11_code 18 = .ok (.ireturn, 1) := dr_dd nD_L_event_0 12 rfl
theorem d_L_event_19 : decode method_11_code 19 = .ok (.iconst 0, 1) := dr_dd nD_L_event_0 13 rfl
theorem d_L_event_20 : decode method_11_code 20 = .ok (.ireturn, 1) := dr_dd nD_L_event_0 14 rfl
abbrev nL_L_seen_0 : List (Nat × Instr × Nat) := [(0, .aload 4, 2), (2, .iconst 0, 1), (3, .aload_n 0, 1), (4, .iload_n 1, 1), (5, .iload_n 2, 1), (6, .iload_n 3, 1), (7, .invokevirtual 51, 3), (10, .i2l, 1), (11, .lastore, 1), (12, .goto 11, 3), (15, .astore 5, 2), (17, .iconst 1, 1), (18, .ireturn, 1), (19, .astore 5, 2), (21, .iconst 2, 1), (22, .ireturn, 1), (23, .iconst 0, 1), (24, .ireturn, 1)]
theorem nD_L_seen_0 : ∀ q ∈ nL_L_seen_0, decode method_12_code q.1 = .ok (q.2.1, q.2.2) := by decide +kernel
theorem d_L_seen_0 : decode method_12_code 0 = .ok (.aload 4, 2) := dr_dd nD_L_seen_0 0 rfl
theorem d_L_seen_2 : decode method_12_code 2 = .ok (.iconst 0, 1) := dr_dd nD_L_seen_0 1 rfl
theorem d_L_seen_3 : decode method_12_code 3 = .ok (.aload_n 0, 1) := dr_dd nD_L_seen_0 2 rfl
theorem d_L_seen_4 : decode method_12_code 4 = .ok (.iload_n 1, 1) := dr_dd nD_L_seen_0 3 rfl
theorem d_L_seen_5 : decode method_12_code 5 = .ok (.iload_n 2, 1) := dr_dd nD_L_seen_0 4 rfl
theorem d_L_seen_6 : decode method_12_code 6 = .ok (.iload_n 3, 1) := dr_dd nD_L_seen_0 5 rfl
theorem d_L_seen_7 : decode method_12_code 7 = .ok (.invokevirtual 51, 3) := dr_dd nD_L_seen_0 6 rfl
theorem d_L_seen_10 : decode method_12_code 10 = .ok (.i2l, 1) := dr_dd nD_L_seen_0 7 rfl
theorem d_L_seen_11 : decode method_12_code 11 = .ok (.lastore, 1) := dr_dd nD_L_seen_0 8 rfl
theorem d_L_seen_12 : decode method_12_code 12 = .ok (.goto 11, 3) := dr_dd nD_L_seen_0 9 rfl
theorem d_L_seen_15 : decode method_12_code 15 = .ok (.astore 5, 2) := dr_dd nD_L_seen_0 10 rfl
theorem d_L_seen_17 : decode method_12_code 17 = .ok (.iconst 1, 1) := dr_dd nD_L_seen_0 11 rfl
theorem d_L_seen_18 : decode method_12_code 18 = .ok (.ireturn, 1) := dr_dd nD_L_seen_0 12 rfl
theorem d_L_seen_19 : decode method_12_code 19 = .ok (.astore 5, 2) := dr_dd nD_L_seen_0 13 rfl
theorem d_L_seen_21 : decode method_12_code 21 = .ok (.iconst 2, 1) := dr_dd nD_L_seen_0 14 rfl
theorem d_L_seen_22 : decode method_12_code 22 = .ok (.ireturn, 1) := dr_dd nD_L_seen_0 15 rfl
theorem d_L_seen_23 : decode method_12_code 23 = .ok (.iconst 0, 1) := dr_dd nD_L_seen_0 16 rfl
theorem d_L_seen_24 : decode method_12_code 24 = .ok (.ireturn, 1) := dr_dd nD_L_seen_0 17 rfl
abbrev nL_L_fault_0 : List (Nat × Instr × Nat) := [(0, .aload_n 3, 1), (1, .iconst 0, 1), (2, .aload_n 0, 1), (3, .iload_n 1, 1), (4, .iload_n 2, 1), (5, .invokevirtual 54, 3), (8, .ifCond .eq 7, 3), (11, .lconst 1, 1), (12, .goto 4, 3), (15, .lconst 0, 1), (16, .lastore, 1), (17, .goto 7, 3), (20, .astore 4, 2), (22, .iconst 1, 1), (23, .ireturn, 1), (24, .iconst 0, 1), (25, .ireturn, 1)]
theorem nD_L_fault_0 : ∀ q ∈ nL_L_fault_0, decode method_13_code q.1 = .ok (q.2.1, q.2.2) := by decide +kernel
theorem d_L_fault_0 : decode method_13_code 0 = .ok (.aload_n 3, 1) := dr_dd nD_L_fault_0 0 rfl
theorem d_L_fault_1 : decode method_13_code 1 = .ok (.iconst 0, 1) := dr_dd nD_L_fault_0 1 rfl
theorem d_L_fault_2 : decode method_13_code 2 = .ok (.aload_n 0, 1) := dr_dd nD_L_fault_0 2 rfl
theorem d_L_fault_3 : decode method_13_code 3 = .ok (.iload_n 1, 1) := dr_dd nD_L_fault_0 3 rfl
theorem d_L_fault_4 : decode method_13_code 4 = .ok (.iload_n 2, 1) := dr_dd nD_L_fault_0 4 rfl
theorem d_L_fault_5 : decode method_13_code 5 = .ok (.invokevirtual 54, 3) := dr_dd nD_L_fault_0 5 rfl
theorem d_L_fault_8 : decode method_13_code 8 = .ok (.ifCond .eq 7, 3) := dr_dd nD_L_fault_0 6 rfl
theorem d_L_fault_11 : decode method_13_code 11 = .ok (.lconst 1, 1) := dr_dd nD_L_fault_0 7 rfl
theorem d_L_fault_12 : decode method_13_code 12 = .ok (.goto 4, 3) := dr_dd nD_L_fault_0 8 rfl
theorem d_L_fault_15 : decode method_13_code 15 = .ok (.lconst 0, 1) := dr_dd nD_L_fault_0 9 rfl
theorem d_L_fault_16 : decode method_13_code 16 = .ok (.lastore, 1) := dr_dd nD_L_fault_0 10 rfl
theorem d_L_fault_17 : decode method_13_code 17 = .ok (.goto 7, 3) := dr_dd nD_L_fault_0 11 rfl
theorem d_L_fault_20 : decode method_13_code 20 = .ok (.astore 4, 2) := dr_dd nD_L_fault_0 12 rfl
theorem d_L_fault_22 : decode method_13_code 22 = .ok (.iconst 1, 1) := dr_dd nD_L_fault_0 13 rfl
theorem d_L_fault_23 : decode method_13_code 23 = .ok (.ireturn, 1) := dr_dd nD_L_fault_0 14 rfl
theorem d_L_fault_24 : decode method_13_code 24 = .ok (.iconst 0, 1) := dr_dd nD_L_fault_0 15 rfl
theorem d_L_fault_25 : decode method_13_code 25 = .ok (.ireturn, 1) := dr_dd nD_L_fault_0 16 rfl
abbrev nL_L_aim_0 : List (Nat × Instr × Nat) := [(0, .aload_n 3, 1), (1, .iconst 0, 1), (2, .aload_n 0, 1), (3, .iload_n 1, 1), (4, .iload_n 2, 1), (5, .invokevirtual 58, 3), (8, .i2l, 1), (9, .lastore, 1), (10, .goto 7, 3), (13, .astore 4, 2), (15, .iconst 1, 1), (16, .ireturn, 1), (17, .iconst 0, 1), (18, .ireturn, 1)]
theorem nD_L_aim_0 : ∀ q ∈ nL_L_aim_0, decode method_14_code q.1 = .ok (q.2.1, q.2.2) := by decide +kernel
theorem d_L_aim_0 : decode method_14_code 0 = .ok (.aload_n 3, 1) := dr_dd nD_L_aim_0 0 rfl
theorem d_L_aim_1 : decode method_14_code 1 = .ok (.iconst 0, 1) := dr_dd nD_L_aim_0 1 rfl
theorem d_L_aim_2 : decode method_14_code 2 = .ok (.aload_n 0, 1) := dr_dd nD_L_aim_0 2 rfl
theorem d_L_aim_3 : decode method_14_code 3 = .ok (.iload_n 1, 1) := dr_dd nD_L_aim_0 3 rfl
theorem d_L_aim_4 : decode method_14_code 4 = .ok (.iload_n 2, 1) := dr_dd nD_L_aim_0 4 rfl
theorem d_L_aim_5 : decode method_14_code 5 = .ok (.invokevirtual 58, 3) := dr_dd nD_L_aim_0 5 rfl
theorem d_L_aim_8 : decode method_14_code 8 = .ok (.i2l, 1) := dr_dd nD_L_aim_0 6 rfl
theorem d_L_aim_9 : decode method_14_code 9 = .ok (.lastore, 1) := dr_dd nD_L_aim_0 7 rfl
theorem d_L_aim_10 : decode method_14_code 10 = .ok (.goto 7, 3) := dr_dd nD_L_aim_0 8 rfl
theorem d_L_aim_13 : decode method_14_code 13 = .ok (.astore 4, 2) := dr_dd nD_L_aim_0 9 rfl
theorem d_L_aim_15 : decode method_14_code 15 = .ok (.iconst 1, 1) := dr_dd nD_L_aim_0 10 rfl
theorem d_L_aim_16 : decode method_14_code 16 = .ok (.ireturn, 1) := dr_dd nD_L_aim_0 11 rfl
theorem d_L_aim_17 : decode method_14_code 17 = .ok (.iconst 0, 1) := dr_dd nD_L_aim_0 12 rfl
theorem d_L_aim_18 : decode method_14_code 18 = .ok (.ireturn, 1) := dr_dd nD_L_aim_0 13 rfl
abbrev nL_L_score_0 : List (Nat × Instr × Nat) := [(0, .aload_n 3, 1), (1, .iconst 0, 1), (2, .aload_n 0, 1), (3, .iload_n 1, 1), (4, .iload_n 2, 1), (5, .invokevirtual 61, 3), (8, .i2l, 1), (9, .lastore, 1), (10, .goto 11, 3), (13, .astore 4, 2), (15, .iconst 1, 1), (16, .ireturn, 1), (17, .astore 4, 2), (19, .iconst 2, 1), (20, .ireturn, 1), (21, .iconst 0, 1), (22, .ireturn, 1)]
theorem nD_L_score_0 : ∀ q ∈ nL_L_score_0, decode method_15_code q.1 = .ok (q.2.1, q.2.2) := by decide +kernel
theorem d_L_score_0 : decode method_15_code 0 = .ok (.aload_n 3, 1) := dr_dd nD_L_score_0 0 rfl
theorem d_L_score_1 : decode method_15_code 1 = .ok (.iconst 0, 1) := dr_dd nD_L_score_0 1 rfl
theorem d_L_score_2 : decode method_15_code 2 = .ok (.aload_n 0, 1) := dr_dd nD_L_score_0 2 rfl
theorem d_L_score_3 : decode method_15_code 3 = .ok (.iload_n 1, 1) := dr_dd nD_L_score_0 3 rfl
theorem d_L_score_4 : decode method_15_code 4 = .ok (.iload_n 2, 1) := dr_dd nD_L_score_0 4 rfl
theorem d_L_score_5 : decode method_15_code 5 = .ok (.invokevirtual 61, 3) := dr_dd nD_L_score_0 5 rfl
theorem d_L_score_8 : decode method_15_code 8 = .ok (.i2l, 1) := dr_dd nD_L_score_0 6 rfl
theorem d_L_score_9 : decode method_15_code 9 = .ok (.lastore, 1) := dr_dd nD_L_score_0 7 rfl
theorem d_L_score_10 : decode method_15_code 10 = .ok (.goto 11, 3) := dr_dd nD_L_score_0 8 rfl
theorem d_L_score_13 : decode method_15_code 13 = .ok (.astore 4, 2) := dr_dd nD_L_score_0 9 rfl
theorem d_L_score_15 : decode method_15_code 15 = .ok (.iconst 1, 1) := dr_dd nD_L_score_0 10 rfl
theorem d_L_score_16 : decode method_15_code 16 = .ok (.ireturn, 1) := dr_dd nD_L_score_0 11 rfl
theorem d_L_score_17 : decode method_15_code 17 = .ok (.astore 4, 2) := dr_dd nD_L_score_0 12 rfl
theorem d_L_score_19 : decode method_15_code 19 = .ok (.iconst 2, 1) := dr_dd nD_L_score_0 13 rfl
theorem d_L_score_20 : decode method_15_code 20 = .ok (.ireturn, 1) := dr_dd nD_L_score_0 14 rfl
theorem d_L_score_21 : decode method_15_code 21 = .ok (.iconst 0, 1) := dr_dd nD_L_score_0 15 rfl
theorem d_L_score_22 : decode method_15_code 22 = .ok (.ireturn, 1) := dr_dd nD_L_score_0 16 rfl
abbrev nL_L_compare_0 : List (Nat × Instr × Nat) := [(0, .aload_n 3, 1), (1, .iconst 0, 1), (2, .aload_n 0, 1), (3, .iload_n 1, 1), (4, .iload_n 2, 1), (5, .invokevirtual 66, 3), (8, .i2l, 1), (9, .lastore, 1), (10, .goto 7, 3), (13, .astore 4, 2), (15, .iconst 1, 1), (16, .ireturn, 1), (17, .iconst 0, 1), (18, .ireturn, 1)]
theorem nD_L_compare_0 : ∀ q ∈ nL_L_compare_0, decode method_16_code q.1 = .ok (q.2.1, q.2.2) := by decide +kernel
theorem d_L_compare_0 : decode method_16_code 0 = .ok (.aload_n 3, 1) := dr_dd nD_L_compare_0 0 rfl
theorem d_L_compare_1 : decode method_16_code 1 = .ok (.iconst 0, 1) := dr_dd nD_L_compare_0 1 rfl
theorem d_L_compare_2 : decode method_16_code 2 = .ok (.aload_n 0, 1) := dr_dd nD_L_compare_0 2 rfl
theorem d_L_compare_3 : decode method_16_code 3 = .ok (.iload_n 1, 1) := dr_dd nD_L_compare_0 3 rfl
theorem d_L_compare_4 : decode method_16_code 4 = .ok (.iload_n 2, 1) := dr_dd nD_L_compare_0 4 rfl
theorem d_L_compare_5 : decode method_16_code 5 = .ok (.invokevirtual 66, 3) := dr_dd nD_L_compare_0 5 rfl
theorem d_L_compare_8 : decode method_16_code 8 = .ok (.i2l, 1) := dr_dd nD_L_compare_0 6 rfl
theorem d_L_compare_9 : decode method_16_code 9 = .ok (.lastore, 1) := dr_dd nD_L_compare_0 7 rfl
theorem d_L_compare_10 : decode method_16_code 10 = .ok (.goto 7, 3) := dr_dd nD_L_compare_0 8 rfl
theorem d_L_compare_13 : decode method_16_code 13 = .ok (.astore 4, 2) := dr_dd nD_L_compare_0 9 rfl
theorem d_L_compare_15 : decode method_16_code 15 = .ok (.iconst 1, 1) := dr_dd nD_L_compare_0 10 rfl
theorem d_L_compare_16 : decode method_16_code 16 = .ok (.ireturn, 1) := dr_dd nD_L_compare_0 11 rfl
theorem d_L_compare_17 : decode method_16_code 17 = .ok (.iconst 0, 1) := dr_dd nD_L_compare_0 12 rfl
theorem d_L_compare_18 : decode method_16_code 18 = .ok (.ireturn, 1) := dr_dd nD_L_compare_0 13 rfl
abbrev nL_L_observe_0 : List (Nat × Instr × Nat) := [(0, .aload 4, 2), (2, .iconst 0, 1), (3, .aload_n 0, 1), (4, .iload_n 1, 1), (5, .iload_n 2, 1), (6, .iload_n 3, 1), (7, .invokevirtual 69, 3), (10, .i2l, 1), (11, .lastore, 1), (12, .goto 15, 3), (15, .astore 5, 2), (17, .iconst 1, 1), (18, .ireturn, 1), (19, .astore 5, 2), (21, .iconst 2, 1), (22, .ireturn, 1), (23, .astore 5, 2), (25, .iconst 3, 1), (26, .ireturn, 1), (27, .iconst 0, 1), (28, .ireturn, 1)]
theorem nD_L_observe_0 : ∀ q ∈ nL_L_observe_0, decode method_17_code q.1 = .ok (q.2.1, q.2.2) := by decide +kernel
theorem d_L_observe_0 : decode method_17_code 0 = .ok (.aload 4, 2) := dr_dd nD_L_observe_0 0 rfl
theorem d_L_observe_2 : decode method_17_code 2 = .ok (.iconst 0, 1) := dr_dd nD_L_observe_0 1 rfl
theorem d_L_observe_3 : decode method_17_code 3 = .ok (.aload_n 0, 1) := dr_dd nD_L_observe_0 2 rfl
theorem d_L_observe_4 : decode method_17_code 4 = .ok (.iload_n 1, 1) := dr_dd nD_L_observe_0 3 rfl
theorem d_L_observe_5 : decode method_17_code 5 = .ok (.iload_n 2, 1) := dr_dd nD_L_observe_0 4 rfl
theorem d_L_observe_6 : decode method_17_code 6 = .ok (.iload_n 3, 1) := dr_dd nD_L_observe_0 5 rfl
theorem d_L_observe_7 : decode method_17_code 7 = .ok (.invokevirtual 69, 3) := dr_dd nD_L_observe_0 6 rfl
theorem d_L_observe_10 : decode method_17_code 10 = .ok (.i2l, 1) := dr_dd nD_L_observe_0 7 rfl
theorem d_L_observe_11 : decode method_17_code 11 = .ok (.lastore, 1) := dr_dd nD_L_observe_0 8 rfl
theorem d_L_observe_12 : decode method_17_code 12 = .ok (.goto 15, 3) := dr_dd nD_L_observe_0 9 rfl
theorem d_L_observe_15 : decode method_17_code 15 = .ok (.astore 5, 2) := dr_dd nD_L_observe_0 10 rfl
theorem d_L_observe_17 : decode method_17_code 17 = .ok (.iconst 1, 1) := dr_dd nD_L_observe_0 11 rfl
theorem d_L_observe_18 : decode method_17_code 18 = .ok (.ireturn, 1) := dr_dd nD_L_observe_0 12 rfl
theorem d_L_observe_19 : decode method_17_code 19 = .ok (.astore 5, 2) := dr_dd nD_L_observe_0 13 rfl
theorem d_L_observe_21 : decode method_17_code 21 = .ok (.iconst 2, 1) := dr_dd nD_L_observe_0 14 rfl
theorem d_L_observe_22 : decode method_17_code 22 = .ok (.ireturn, 1) := dr_dd nD_L_observe_0 15 rfl
theorem d_L_observe_23 : decode method_17_code 23 = .ok (.astore 5, 2) := dr_dd nD_L_observe_0 16 rfl
theorem d_L_observe_25 : decode method_17_code 25 = .ok (.iconst 3, 1) := dr_dd nD_L_observe_0 17 rfl
theorem d_L_observe_26 : decode method_17_code 26 = .ok (.ireturn, 1) := dr_dd nD_L_observe_0 18 rfl
theorem d_L_observe_27 : decode method_17_code 27 = .ok (.iconst 0, 1) := dr_dd nD_L_observe_0 19 rfl
theorem d_L_observe_28 : decode method_17_code 28 = .ok (.ireturn, 1) := dr_dd nD_L_observe_0 20 rfl
abbrev nL_L_row_0 : List (Nat × Instr × Nat) := [(0, .aload_n 3, 1), (1, .iconst 0, 1), (2, .aload_n 0, 1), (3, .iload_n 1, 1), (4, .iload_n 2, 1), (5, .invokevirtual 72, 3), (8, .i2l, 1), (9, .lastore, 1), (10, .goto 7, 3), (13, .astore 4, 2), (15, .iconst 1, 1), (16, .ireturn, 1), (17, .iconst 0, 1), (18, .ireturn, 1)]
theorem nD_L_row_0 : ∀ q ∈ nL_L_row_0, decode method_18_code q.1 = .ok (q.2.1, q.2.2) := by decide +kernel
theorem d_L_row_0 : decode method_18_code 0 = .ok (.aload_n 3, 1) := dr_dd nD_L_row_0 0 rfl
theorem d_L_row_1 : decode method_18_code 1 = .ok (.iconst 0, 1) := dr_dd nD_L_row_0 1 rfl
theorem d_L_row_2 : decode method_18_code 2 = .ok (.aload_n 0, 1) := dr_dd nD_L_row_0 2 rfl
theorem d_L_row_3 : decode method_18_code 3 = .ok (.iload_n 1, 1) := dr_dd nD_L_row_0 3 rfl
theorem d_L_row_4 : decode method_18_code 4 = .ok (.iload_n 2, 1) := dr_dd nD_L_row_0 4 rfl
theorem d_L_row_5 : decode method_18_code 5 = .ok (.invokevirtual 72, 3) := dr_dd nD_L_row_0 5 rfl
theorem d_L_row_8 : decode method_18_code 8 = .ok (.i2l, 1) := dr_dd nD_L_row_0 6 rfl
theorem d_L_row_9 : decode method_18_code 9 = .ok (.lastore, 1) := dr_dd nD_L_row_0 7 rfl
theorem d_L_row_10 : decode method_18_code 10 = .ok (.goto 7, 3) := dr_dd nD_L_row_0 8 rfl
theorem d_L_row_13 : decode method_18_code 13 = .ok (.astore 4, 2) := dr_dd nD_L_row_0 9 rfl
theorem d_L_row_15 : decode method_18_code 15 = .ok (.iconst 1, 1) := dr_dd nD_L_row_0 10 rfl
theorem d_L_row_16 : decode method_18_code 16 = .ok (.ireturn, 1) := dr_dd nD_L_row_0 11 rfl
theorem d_L_row_17 : decode method_18_code 17 = .ok (.iconst 0, 1) := dr_dd nD_L_row_0 12 rfl
theorem d_L_row_18 : decode method_18_code 18 = .ok (.ireturn, 1) := dr_dd nD_L_row_0 13 rfl
abbrev nL_L_play_0 : List (Nat × Instr × Nat) := [(0, .aload_n 3, 1), (1, .iconst 0, 1), (2, .aload_n 0, 1), (3, .iload_n 1, 1), (4, .iload_n 2, 1), (5, .invokevirtual 75, 3), (8, .i2l, 1), (9, .lastore, 1), (10, .goto 15, 3), (13, .astore 4, 2), (15, .iconst 1, 1), (16, .ireturn, 1), (17, .astore 4, 2), (19, .iconst 2, 1), (20, .ireturn, 1), (21, .astore 4, 2), (23, .iconst 3, 1), (24, .ireturn, 1), (25, .iconst 0, 1), (26, .ireturn, 1)]
theorem nD_L_play_0 : ∀ q ∈ nL_L_play_0, decode method_19_code q.1 = .ok (q.2.1, q.2.2) := by decide +kernel
theorem d_L_play_0 : decode method_19_code 0 = .ok (.aload_n 3, 1) := dr_dd nD_L_play_0 0 rfl
theorem d_L_play_1 : decode method_19_code 1 = .ok (.iconst 0, 1) := dr_dd nD_L_play_0 1 rfl
theorem d_L_play_2 : decode method_19_code 2 = .ok (.aload_n 0, 1) := dr_dd nD_L_play_0 2 rfl
theorem d_L_play_3 : decode method_19_code 3 = .ok (.iload_n 1, 1) := dr_dd nD_L_play_0 3 rfl
theorem d_L_play_4 : decode method_19_code 4 = .ok (.iload_n 2, 1) := dr_dd nD_L_play_0 4 rfl
theorem d_L_play_5 : decode method_19_code 5 = .ok (.invokevirtual 75, 3) := dr_dd nD_L_play_0 5 rfl
theorem d_L_play_8 : decode method_19_code 8 = .ok (.i2l, 1) := dr_dd nD_L_play_0 6 rfl
theorem d_L_play_9 : decode method_19_code 9 = .ok (.lastore, 1) := dr_dd nD_L_play_0 7 rfl
theorem d_L_play_10 : decode method_19_code 10 = .ok (.goto 15, 3) := dr_dd nD_L_play_0 8 rfl
theorem d_L_play_13 : decode method_19_code 13 = .ok (.astore 4, 2) := dr_dd nD_L_play_0 9 rfl
theorem d_L_play_15 : decode method_19_code 15 = .ok (.iconst 1, 1) := dr_dd nD_L_play_0 10 rfl
theorem d_L_play_16 : decode method_19_code 16 = .ok (.ireturn, 1) := dr_dd nD_L_play_0 11 rfl
theorem d_L_play_17 : decode method_19_code 17 = .ok (.astore 4, 2) := dr_dd nD_L_play_0 12 rfl
theorem d_L_play_19 : decode method_19_code 19 = .ok (.iconst 2, 1) := dr_dd nD_L_play_0 13 rfl
theorem d_L_play_20 : decode method_19_code 20 = .ok (.ireturn, 1) := dr_dd nD_L_play_0 14 rfl
theorem d_L_play_21 : decode method_19_code 21 = .ok (.astore 4, 2) := dr_dd nD_L_play_0 15 rfl
theorem d_L_play_23 : decode method_19_code 23 = .ok (.iconst 3, 1) := dr_dd nD_L_play_0 16 rfl
theorem d_L_play_24 : decode method_19_code 24 = .ok (.ireturn, 1) := dr_dd nD_L_play_0 17 rfl
theorem d_L_play_25 : decode method_19_code 25 = .ok (.iconst 0, 1) := dr_dd nD_L_play_0 18 rfl
theorem d_L_play_26 : decode method_19_code 26 = .ok (.ireturn, 1) := dr_dd nD_L_play_0 19 rfl
abbrev nL_L_drill_0 : List (Nat × Instr × Nat) := [(0, .aload_n 3, 1), (1, .iconst 0, 1), (2, .aload_n 0, 1), (3, .iload_n 1, 1), (4, .iload_n 2, 1), (5, .invokevirtual 78, 3), (8, .i2l, 1), (9, .lastore, 1), (10, .goto 7, 3), (13, .astore 4, 2), (15, .iconst 1, 1), (16, .ireturn, 1), (17, .iconst 0, 1), (18, .ireturn, 1)]
theorem nD_L_drill_0 : ∀ q ∈ nL_L_drill_0, decode method_20_code q.1 = .ok (q.2.1, q.2.2) := by decide +kernel
theorem d_L_drill_0 : decode method_20_code 0 = .ok (.aload_n 3, 1) := dr_dd nD_L_drill_0 0 rfl
theorem d_L_drill_1 : decode method_20_code 1 = .ok (.iconst 0, 1) := dr_dd nD_L_drill_0 1 rfl
theorem d_L_drill_2 : decode method_20_code 2 = .ok (.aload_n 0, 1) := dr_dd nD_L_drill_0 2 rfl
theorem d_L_drill_3 : decode method_20_code 3 = .ok (.iload_n 1, 1) := dr_dd nD_L_drill_0 3 rfl
theorem d_L_drill_4 : decode method_20_code 4 = .ok (.iload_n 2, 1) := dr_dd nD_L_drill_0 4 rfl
theorem d_L_drill_5 : decode method_20_code 5 = .ok (.invokevirtual 78, 3) := dr_dd nD_L_drill_0 5 rfl
theorem d_L_drill_8 : decode method_20_code 8 = .ok (.i2l, 1) := dr_dd nD_L_drill_0 6 rfl
theorem d_L_drill_9 : decode method_20_code 9 = .ok (.lastore, 1) := dr_dd nD_L_drill_0 7 rfl
theorem d_L_drill_10 : decode method_20_code 10 = .ok (.goto 7, 3) := dr_dd nD_L_drill_0 8 rfl
theorem d_L_drill_13 : decode method_20_code 13 = .ok (.astore 4, 2) := dr_dd nD_L_drill_0 9 rfl
theorem d_L_drill_15 : decode method_20_code 15 = .ok (.iconst 1, 1) := dr_dd nD_L_drill_0 10 rfl
theorem d_L_drill_16 : decode method_20_code 16 = .ok (.ireturn, 1) := dr_dd nD_L_drill_0 11 rfl
theorem d_L_drill_17 : decode method_20_code 17 = .ok (.iconst 0, 1) := dr_dd nD_L_drill_0 12 rfl
theorem d_L_drill_18 : decode method_20_code 18 = .ok (.ireturn, 1) := dr_dd nD_L_drill_0 13 rfl
abbrev nL_L_law_0 : List (Nat × Instr × Nat) := [(0, .new 8, 3), (3, .dup, 1), (4, .invokespecial 81, 3), (7, .astore_n 1, 1), (8, .new 82, 3), (11, .dup, 1), (12, .invokespecial 84, 3), (15, .astore_n 2, 1), (16, .iconst 1, 1), (17, .newarray .long, 2), (19, .astore_n 3, 1), (20, .iconst 0, 1), (21, .istore 4, 2), (23, .iload 4, 2), (25, .aload_n 0, 1), (26, .arraylength, 1), (27, .iconst 4, 1), (28, .isub, 1), (29, .if_icmp .gt 1293, 3), (32, .aload_n 0, 1), (33, .iload 4, 2), (35, .iaload, 1), (36, .bipush 31, 2), (38, .iand, 1), (39, .tableswitch 1277 0 18 #[89, 189, 233, 246, 290, 326, 374, 430, 498, 554, 634, 714, 789, 857, 925, 993, 1073, 1141, 1209], 89), (128, .aload_n 1, 1), (129, .aload_n 0, 1), (130, .iload 4, 2), (132, .iconst 1, 1), (133, .iadd, 1), (134, .iaload, 1), (135, .i2l, 1), (136, .bipush 32, 2), (138, .lshl, 1), (139, .aload_n 0, 1), (140, .iload 4, 2), (142, .iconst 2, 1), (143, .iadd, 1), (144, .iaload, 1), (145, .i2l, 1)]
theorem nD_L_law_0 : ∀ q ∈ nL_L_law_0, decode code q.1 = .ok (q.2.1, q.2.2) := by decide +kernel
theorem d_L_law_0 : decode code 0 = .ok (.new 8, 3) := dr_dd nD_L_law_0 0 rfl
theorem d_L_law_3 : decode code 3 = .ok (.dup, 1) := dr_dd nD_L_law_0 1 rfl
theorem d_L_law_4 : decode code 4 = .ok (.invokespecial 81, 3) := dr_dd nD_L_law_0 2 rfl
theorem d_L_law_7 : decode code 7 = .ok (.astore_n 1, 1) := dr_dd nD_L_law_0 3 rfl
theorem d_L_law_8 : decode code 8 = .ok (.new 82, 3) := dr_dd nD_L_law_0 4 rfl
theorem d_L_law_11 : decode code 11 = .ok (.dup, 1) := dr_dd nD_L_law_0 5 rfl
theorem d_L_law_12 : decode code 12 = .ok (.invokespecial 84, 3) := dr_dd nD_L_law_0 6 rfl
theorem d_L_law_15 : decode code 15 = .ok (.astore_n 2, 1) := dr_dd nD_L_law_0 7 rfl
theorem d_L_law_16 : decode code 16 = .ok (.iconst 1, 1) := dr_dd nD_L_law_0 8 rfl
theorem d_L_law_17 : decode code 17 = .ok (.newarray .long, 2) := dr_dd nD_L_law_0 9 rfl
theorem d_L_law_19 : decode code 19 = .ok (.astore_n 3, 1) := dr_dd nD_L_law_0 10 rfl
theorem d_L_law_20 : decode code 20 = .ok (.iconst 0, 1) := dr_dd nD_L_law_0 11 rfl
theorem d_L_law_21 : decode code 21 = .ok (.istore 4, 2) := dr_dd nD_L_law_0 12 rfl
theorem d_L_law_23 : decode code 23 = .ok (.iload 4, 2) := dr_dd nD_L_law_0 13 rfl
theorem d_L_law_25 : decode code 25 = .ok (.aload_n 0, 1) := dr_dd nD_L_law_0 14 rfl
theorem d_L_law_26 : decode code 26 = .ok (.arraylength, 1) := dr_dd nD_L_law_0 15 rfl
theorem d_L_law_27 : decode code 27 = .ok (.iconst 4, 1) := dr_dd nD_L_law_0 16 rfl
theorem d_L_law_28 : decode code 28 = .ok (.isub, 1) := dr_dd nD_L_law_0 17 rfl
theorem d_L_law_29 : decode code 29 = .ok (.if_icmp .gt 1293, 3) := dr_dd nD_L_law_0 18 rfl
theorem d_L_law_32 : decode code 32 = .ok (.aload_n 0, 1) := dr_dd nD_L_law_0 19 rfl
theorem d_L_law_33 : decode code 33 = .ok (.iload 4, 2) := dr_dd nD_L_law_0 20 rfl
theorem d_L_law_35 : decode code 35 = .ok (.iaload, 1) := dr_dd nD_L_law_0 21 rfl
theorem d_L_law_36 : decode code 36 = .ok (.bipush 31, 2) := dr_dd nD_L_law_0 22 rfl
theorem d_L_law_38 : decode code 38 = .ok (.iand, 1) := dr_dd nD_L_law_0 23 rfl
theorem d_L_law_39 : decode code 39 = .ok (.tableswitch 1277 0 18 #[89, 189, 233, 246, 290, 326, 374, 430, 498, 554, 634, 714, 789, 857, 925, 993, 1073, 1141, 1209], 89) := dr_dd nD_L_law_0 24 rfl
theorem d_L_law_128 : decode code 128 = .ok (.aload_n 1, 1) := dr_dd nD_L_law_0 25 rfl
theorem d_L_law_129 : decode code 129 = .ok (.aload_n 0, 1) := dr_dd nD_L_law_0 26 rfl
theorem d_L_law_130 : decode code 130 = .ok (.iload 4, 2) := dr_dd nD_L_law_0 27 rfl
theorem d_L_law_132 : decode code 132 = .ok (.iconst 1, 1) := dr_dd nD_L_law_0 28 rfl
theorem d_L_law_133 : decode code 133 = .ok (.iadd, 1) := dr_dd nD_L_law_0 29 rfl
theorem d_L_law_134 : decode code 134 = .ok (.iaload, 1) := dr_dd nD_L_law_0 30 rfl
theorem d_L_law_135 : decode code 135 = .ok (.i2l, 1) := dr_dd nD_L_law_0 31 rfl
theorem d_L_law_136 : decode code 136 = .ok (.bipush 32, 2) := dr_dd nD_L_law_0 32 rfl
theorem d_L_law_138 : decode code 138 = .ok (.lshl, 1) := dr_dd nD_L_law_0 33 rfl
theorem d_L_law_139 : decode code 139 = .ok (.aload_n 0, 1) := dr_dd nD_L_law_0 34 rfl
theorem d_L_law_140 : decode code 140 = .ok (.iload 4, 2) := dr_dd nD_L_law_0 35 rfl
theorem d_L_law_142 : decode code 142 = .ok (.iconst 2, 1) := dr_dd nD_L_law_0 36 rfl
theorem d_L_law_143 : decode code 143 = .ok (.iadd, 1) := dr_dd nD_L_law_0 37 rfl
theorem d_L_law_144 : decode code 144 = .ok (.iaload, 1) := dr_dd nD_L_law_0 38 rfl
theorem d_L_law_145 : decode code 145 = .ok (.i2l, 1) := dr_dd nD_L_law_0 39 rfl
abbrev nL_L_law_1 : List (Nat × Instr × Nat) := [(146, .ldc2_w 85, 3), (149, .land, 1), (150, .lor, 1), (151, .aload_n 0, 1), (152, .iload 4, 2), (154, .iconst 3, 1), (155, .iadd, 1), (156, .iaload, 1), (157, .aload_n 3, 1), (158, .invokestatic 87, 3), (161, .istore 5, 2), (163, .aload_n 2, 1), (164, .aload_n 0, 1), (165, .iload 4, 2), (167, .iconst 1, 1), (168, .iadd, 1), (169, .iaload, 1), (170, .i2l, 1), (171, .bipush 32, 2), (173, .lshl, 1), (174, .aload_n 0, 1), (175, .iload 4, 2), (177, .iconst 2, 1), (178, .iadd, 1), (179, .iaload, 1), (180, .i2l, 1), (181, .ldc2_w 85, 3), (184, .land, 1), (185, .lor, 1), (186, .aload_n 0, 1), (187, .iload 4, 2), (189, .iconst 3, 1), (190, .iadd, 1), (191, .iaload, 1), (192, .invokevirtual 92, 3), (195, .istore 6, 2), (197, .aload_n 2, 1), (198, .invokevirtual 93, 3), (201, .iload 5, 2), (203, .if_icmp .eq 5, 3)]
theorem nD_L_law_1 : ∀ q ∈ nL_L_law_1, decode code q.1 = .ok (q.2.1, q.2.2) := by decide +kernel
theorem d_L_law_146 : decode code 146 = .ok (.ldc2_w 85, 3) := dr_dd nD_L_law_1 0 rfl
theorem d_L_law_149 : decode code 149 = .ok (.land, 1) := dr_dd nD_L_law_1 1 rfl
theorem d_L_law_150 : decode code 150 = .ok (.lor, 1) := dr_dd nD_L_law_1 2 rfl
theorem d_L_law_151 : decode code 151 = .ok (.aload_n 0, 1) := dr_dd nD_L_law_1 3 rfl
theorem d_L_law_152 : decode code 152 = .ok (.iload 4, 2) := dr_dd nD_L_law_1 4 rfl
theorem d_L_law_154 : decode code 154 = .ok (.iconst 3, 1) := dr_dd nD_L_law_1 5 rfl
theorem d_L_law_155 : decode code 155 = .ok (.iadd, 1) := dr_dd nD_L_law_1 6 rfl
theorem d_L_law_156 : decode code 156 = .ok (.iaload, 1) := dr_dd nD_L_law_1 7 rfl
theorem d_L_law_157 : decode code 157 = .ok (.aload_n 3, 1) := dr_dd nD_L_law_1 8 rfl
theorem d_L_law_158 : decode code 158 = .ok (.invokestatic 87, 3) := dr_dd nD_L_law_1 9 rfl
theorem d_L_law_161 : decode code 161 = .ok (.istore 5, 2) := dr_dd nD_L_law_1 10 rfl
theorem d_L_law_163 : decode code 163 = .ok (.aload_n 2, 1) := dr_dd nD_L_law_1 11 rfl
theorem d_L_law_164 : decode code 164 = .ok (.aload_n 0, 1) := dr_dd nD_L_law_1 12 rfl
theorem d_L_law_165 : decode code 165 = .ok (.iload 4, 2) := dr_dd nD_L_law_1 13 rfl
theorem d_L_law_167 : decode code 167 = .ok (.iconst 1, 1) := dr_dd nD_L_law_1 14 rfl
theorem d_L_law_168 : decode code 168 = .ok (.iadd, 1) := dr_dd nD_L_law_1 15 rfl
theorem d_L_law_169 : decode code 169 = .ok (.iaload, 1) := dr_dd nD_L_law_1 16 rfl
theorem d_L_law_170 : decode code 170 = .ok (.i2l, 1) := dr_dd nD_L_law_1 17 rfl
theorem d_L_law_171 : decode code 171 = .ok (.bipush 32, 2) := dr_dd nD_L_law_1 18 rfl
theorem d_L_law_173 : decode code 173 = .ok (.lshl, 1) := dr_dd nD_L_law_1 19 rfl
theorem d_L_law_174 : decode code 174 = .ok (.aload_n 0, 1) := dr_dd nD_L_law_1 20 rfl
theorem d_L_law_175 : decode code 175 = .ok (.iload 4, 2) := dr_dd nD_L_law_1 21 rfl
theorem d_L_law_177 : decode code 177 = .ok (.iconst 2, 1) := dr_dd nD_L_law_1 22 rfl
theorem d_L_law_178 : decode code 178 = .ok (.iadd, 1) := dr_dd nD_L_law_1 23 rfl
theorem d_L_law_179 : decode code 179 = .ok (.iaload, 1) := dr_dd nD_L_law_1 24 rfl
theorem d_L_law_180 : decode code 180 = .ok (.i2l, 1) := dr_dd nD_L_law_1 25 rfl
theorem d_L_law_181 : decode code 181 = .ok (.ldc2_w 85, 3) := dr_dd nD_L_law_1 26 rfl
theorem d_L_law_184 : decode code 184 = .ok (.land, 1) := dr_dd nD_L_law_1 27 rfl
theorem d_L_law_185 : decode code 185 = .ok (.lor, 1) := dr_dd nD_L_law_1 28 rfl
theorem d_L_law_186 : decode code 186 = .ok (.aload_n 0, 1) := dr_dd nD_L_law_1 29 rfl
theorem d_L_law_187 : decode code 187 = .ok (.iload 4, 2) := dr_dd nD_L_law_1 30 rfl
theorem d_L_law_189 : decode code 189 = .ok (.iconst 3, 1) := dr_dd nD_L_law_1 31 rfl
theorem d_L_law_190 : decode code 190 = .ok (.iadd, 1) := dr_dd nD_L_law_1 32 rfl
theorem d_L_law_191 : decode code 191 = .ok (.iaload, 1) := dr_dd nD_L_law_1 33 rfl
theorem d_L_law_192 : decode code 192 = .ok (.invokevirtual 92, 3) := dr_dd nD_L_law_1 34 rfl
theorem d_L_law_195 : decode code 195 = .ok (.istore 6, 2) := dr_dd nD_L_law_1 35 rfl
theorem d_L_law_197 : decode code 197 = .ok (.aload_n 2, 1) := dr_dd nD_L_law_1 36 rfl
theorem d_L_law_198 : decode code 198 = .ok (.invokevirtual 93, 3) := dr_dd nD_L_law_1 37 rfl
theorem d_L_law_201 : decode code 201 = .ok (.iload 5, 2) := dr_dd nD_L_law_1 38 rfl
theorem d_L_law_203 : decode code 203 = .ok (.if_icmp .eq 5, 3) := dr_dd nD_L_law_1 39 rfl
abbrev nL_L_law_2 : List (Nat × Instr × Nat) := [(206, .iconst 0, 1), (207, .ireturn, 1), (208, .iload 5, 2), (210, .ifCond .ne 15, 3), (213, .aload_n 3, 1), (214, .iconst 0, 1), (215, .laload, 1), (216, .iload 6, 2), (218, .i2l, 1), (219, .lcmp, 1), (220, .ifCond .eq 5, 3), (223, .iconst 0, 1), (224, .ireturn, 1), (225, .goto 1091, 3), (228, .aload_n 1, 1), (229, .aload_n 3, 1), (230, .invokestatic 96, 3), (233, .istore 5, 2), (235, .aload_n 2, 1), (236, .invokevirtual 99, 3), (239, .istore 6, 2), (241, .aload_n 2, 1), (242, .invokevirtual 93, 3), (245, .iload 5, 2), (247, .if_icmp .eq 5, 3), (250, .iconst 0, 1), (251, .ireturn, 1), (252, .iload 5, 2), (254, .ifCond .ne 15, 3), (257, .aload_n 3, 1), (258, .iconst 0, 1), (259, .laload, 1), (260, .iload 6, 2), (262, .i2l, 1), (263, .lcmp, 1), (264, .ifCond .eq 5, 3), (267, .iconst 0, 1), (268, .ireturn, 1), (269, .goto 1047, 3), (272, .aload_n 1, 1)]
theorem nD_L_law_2 : ∀ q ∈ nL_L_law_2, decode code q.1 = .ok (q.2.1, q.2.2) := by decide +kernel
theorem d_L_law_206 : decode code 206 = .ok (.iconst 0, 1) := dr_dd nD_L_law_2 0 rfl
theorem d_L_law_207 : decode code 207 = .ok (.ireturn, 1) := dr_dd nD_L_law_2 1 rfl
theorem d_L_law_208 : decode code 208 = .ok (.iload 5, 2) := dr_dd nD_L_law_2 2 rfl
theorem d_L_law_210 : decode code 210 = .ok (.ifCond .ne 15, 3) := dr_dd nD_L_law_2 3 rfl
theorem d_L_law_213 : decode code 213 = .ok (.aload_n 3, 1) := dr_dd nD_L_law_2 4 rfl
theorem d_L_law_214 : decode code 214 = .ok (.iconst 0, 1) := dr_dd nD_L_law_2 5 rfl
theorem d_L_law_215 : decode code 215 = .ok (.laload, 1) := dr_dd nD_L_law_2 6 rfl
theorem d_L_law_216 : decode code 216 = .ok (.iload 6, 2) := dr_dd nD_L_law_2 7 rfl
theorem d_L_law_218 : decode code 218 = .ok (.i2l, 1) := dr_dd nD_L_law_2 8 rfl
theorem d_L_law_219 : decode code 219 = .ok (.lcmp, 1) := dr_dd nD_L_law_2 9 rfl
theorem d_L_law_220 : decode code 220 = .ok (.ifCond .eq 5, 3) := dr_dd nD_L_law_2 10 rfl
theorem d_L_law_223 : decode code 223 = .ok (.iconst 0, 1) := dr_dd nD_L_law_2 11 rfl
theorem d_L_law_224 : decode code 224 = .ok (.ireturn, 1) := dr_dd nD_L_law_2 12 rfl
theorem d_L_law_225 : decode code 225 = .ok (.goto 1091, 3) := dr_dd nD_L_law_2 13 rfl
theorem d_L_law_228 : decode code 228 = .ok (.aload_n 1, 1) := dr_dd nD_L_law_2 14 rfl
theorem d_L_law_229 : decode code 229 = .ok (.aload_n 3, 1) := dr_dd nD_L_law_2 15 rfl
theorem d_L_law_230 : decode code 230 = .ok (.invokestatic 96, 3) := dr_dd nD_L_law_2 16 rfl
theorem d_L_law_233 : decode code 233 = .ok (.istore 5, 2) := dr_dd nD_L_law_2 17 rfl
theorem d_L_law_235 : decode code 235 = .ok (.aload_n 2, 1) := dr_dd nD_L_law_2 18 rfl
theorem d_L_law_236 : decode code 236 = .ok (.invokevirtual 99, 3) := dr_dd nD_L_law_2 19 rfl
theorem d_L_law_239 : decode code 239 = .ok (.istore 6, 2) := dr_dd nD_L_law_2 20 rfl
theorem d_L_law_241 : decode code 241 = .ok (.aload_n 2, 1) := dr_dd nD_L_law_2 21 rfl
theorem d_L_law_242 : decode code 242 = .ok (.invokevirtual 93, 3) := dr_dd nD_L_law_2 22 rfl
theorem d_L_law_245 : decode code 245 = .ok (.iload 5, 2) := dr_dd nD_L_law_2 23 rfl
theorem d_L_law_247 : decode code 247 = .ok (.if_icmp .eq 5, 3) := dr_dd nD_L_law_2 24 rfl
theorem d_L_law_250 : decode code 250 = .ok (.iconst 0, 1) := dr_dd nD_L_law_2 25 rfl
theorem d_L_law_251 : decode code 251 = .ok (.ireturn, 1) := dr_dd nD_L_law_2 26 rfl
theorem d_L_law_252 : decode code 252 = .ok (.iload 5, 2) := dr_dd nD_L_law_2 27 rfl
theorem d_L_law_254 : decode code 254 = .ok (.ifCond .ne 15, 3) := dr_dd nD_L_law_2 28 rfl
theorem d_L_law_257 : decode code 257 = .ok (.aload_n 3, 1) := dr_dd nD_L_law_2 29 rfl
theorem d_L_law_258 : decode code 258 = .ok (.iconst 0, 1) := dr_dd nD_L_law_2 30 rfl
theorem d_L_law_259 : decode code 259 = .ok (.laload, 1) := dr_dd nD_L_law_2 31 rfl
theorem d_L_law_260 : decode code 260 = .ok (.iload 6, 2) := dr_dd nD_L_law_2 32 rfl
theorem d_L_law_262 : decode code 262 = .ok (.i2l, 1) := dr_dd nD_L_law_2 33 rfl
theorem d_L_law_263 : decode code 263 = .ok (.lcmp, 1) := dr_dd nD_L_law_2 34 rfl
theorem d_L_law_264 : decode code 264 = .ok (.ifCond .eq 5, 3) := dr_dd nD_L_law_2 35 rfl
theorem d_L_law_267 : decode code 267 = .ok (.iconst 0, 1) := dr_dd nD_L_law_2 36 rfl
theorem d_L_law_268 : decode code 268 = .ok (.ireturn, 1) := dr_dd nD_L_law_2 37 rfl
theorem d_L_law_269 : decode code 269 = .ok (.goto 1047, 3) := dr_dd nD_L_law_2 38 rfl
theorem d_L_law_272 : decode code 272 = .ok (.aload_n 1, 1) := dr_dd nD_L_law_2 39 rfl
abbrev nL_L_law_3 : List (Nat × Instr × Nat) := [(273, .invokevirtual 100, 3), (276, .aload_n 2, 1), (277, .invokevirtual 103, 3), (280, .if_icmp .eq 1036, 3), (283, .iconst 0, 1), (284, .ireturn, 1), (285, .aload_n 1, 1), (286, .aload_n 3, 1), (287, .invokestatic 104, 3), (290, .istore 5, 2), (292, .aload_n 2, 1), (293, .invokevirtual 106, 3), (296, .istore 6, 2), (298, .aload_n 2, 1), (299, .invokevirtual 93, 3), (302, .iload 5, 2), (304, .if_icmp .eq 5, 3), (307, .iconst 0, 1), (308, .ireturn, 1), (309, .iload 5, 2), (311, .ifCond .ne 15, 3), (314, .aload_n 3, 1), (315, .iconst 0, 1), (316, .laload, 1), (317, .iload 6, 2), (319, .i2l, 1), (320, .lcmp, 1), (321, .ifCond .eq 5, 3), (324, .iconst 0, 1), (325, .ireturn, 1), (326, .goto 990, 3), (329, .aload_n 1, 1), (330, .aload_n 0, 1), (331, .iload 4, 2), (333, .iconst 1, 1), (334, .iadd, 1), (335, .iaload, 1), (336, .invokestatic 107, 3), (339, .istore 5, 2), (341, .aload_n 2, 1)]
theorem nD_L_law_3 : ∀ q ∈ nL_L_law_3, decode code q.1 = .ok (q.2.1, q.2.2) := by decide +kernel
theorem d_L_law_273 : decode code 273 = .ok (.invokevirtual 100, 3) := dr_dd nD_L_law_3 0 rfl
theorem d_L_law_276 : decode code 276 = .ok (.aload_n 2, 1) := dr_dd nD_L_law_3 1 rfl
theorem d_L_law_277 : decode code 277 = .ok (.invokevirtual 103, 3) := dr_dd nD_L_law_3 2 rfl
theorem d_L_law_280 : decode code 280 = .ok (.if_icmp .eq 1036, 3) := dr_dd nD_L_law_3 3 rfl
theorem d_L_law_283 : decode code 283 = .ok (.iconst 0, 1) := dr_dd nD_L_law_3 4 rfl
theorem d_L_law_284 : decode code 284 = .ok (.ireturn, 1) := dr_dd nD_L_law_3 5 rfl
theorem d_L_law_285 : decode code 285 = .ok (.aload_n 1, 1) := dr_dd nD_L_law_3 6 rfl
theorem d_L_law_286 : decode code 286 = .ok (.aload_n 3, 1) := dr_dd nD_L_law_3 7 rfl
theorem d_L_law_287 : decode code 287 = .ok (.invokestatic 104, 3) := dr_dd nD_L_law_3 8 rfl
theorem d_L_law_290 : decode code 290 = .ok (.istore 5, 2) := dr_dd nD_L_law_3 9 rfl
theorem d_L_law_292 : decode code 292 = .ok (.aload_n 2, 1) := dr_dd nD_L_law_3 10 rfl
theorem d_L_law_293 : decode code 293 = .ok (.invokevirtual 106, 3) := dr_dd nD_L_law_3 11 rfl
theorem d_L_law_296 : decode code 296 = .ok (.istore 6, 2) := dr_dd nD_L_law_3 12 rfl
theorem d_L_law_298 : decode code 298 = .ok (.aload_n 2, 1) := dr_dd nD_L_law_3 13 rfl
theorem d_L_law_299 : decode code 299 = .ok (.invokevirtual 93, 3) := dr_dd nD_L_law_3 14 rfl
theorem d_L_law_302 : decode code 302 = .ok (.iload 5, 2) := dr_dd nD_L_law_3 15 rfl
theorem d_L_law_304 : decode code 304 = .ok (.if_icmp .eq 5, 3) := dr_dd nD_L_law_3 16 rfl
theorem d_L_law_307 : decode code 307 = .ok (.iconst 0, 1) := dr_dd nD_L_law_3 17 rfl
theorem d_L_law_308 : decode code 308 = .ok (.ireturn, 1) := dr_dd nD_L_law_3 18 rfl
theorem d_L_law_309 : decode code 309 = .ok (.iload 5, 2) := dr_dd nD_L_law_3 19 rfl
theorem d_L_law_311 : decode code 311 = .ok (.ifCond .ne 15, 3) := dr_dd nD_L_law_3 20 rfl
theorem d_L_law_314 : decode code 314 = .ok (.aload_n 3, 1) := dr_dd nD_L_law_3 21 rfl
theorem d_L_law_315 : decode code 315 = .ok (.iconst 0, 1) := dr_dd nD_L_law_3 22 rfl
theorem d_L_law_316 : decode code 316 = .ok (.laload, 1) := dr_dd nD_L_law_3 23 rfl
theorem d_L_law_317 : decode code 317 = .ok (.iload 6, 2) := dr_dd nD_L_law_3 24 rfl
theorem d_L_law_319 : decode code 319 = .ok (.i2l, 1) := dr_dd nD_L_law_3 25 rfl
theorem d_L_law_320 : decode code 320 = .ok (.lcmp, 1) := dr_dd nD_L_law_3 26 rfl
theorem d_L_law_321 : decode code 321 = .ok (.ifCond .eq 5, 3) := dr_dd nD_L_law_3 27 rfl
theorem d_L_law_324 : decode code 324 = .ok (.iconst 0, 1) := dr_dd nD_L_law_3 28 rfl
theorem d_L_law_325 : decode code 325 = .ok (.ireturn, 1) := dr_dd nD_L_law_3 29 rfl
theorem d_L_law_326 : decode code 326 = .ok (.goto 990, 3) := dr_dd nD_L_law_3 30 rfl
theorem d_L_law_329 : decode code 329 = .ok (.aload_n 1, 1) := dr_dd nD_L_law_3 31 rfl
theorem d_L_law_330 : decode code 330 = .ok (.aload_n 0, 1) := dr_dd nD_L_law_3 32 rfl
theorem d_L_law_331 : decode code 331 = .ok (.iload 4, 2) := dr_dd nD_L_law_3 33 rfl
theorem d_L_law_333 : decode code 333 = .ok (.iconst 1, 1) := dr_dd nD_L_law_3 34 rfl
theorem d_L_law_334 : decode code 334 = .ok (.iadd, 1) := dr_dd nD_L_law_3 35 rfl
theorem d_L_law_335 : decode code 335 = .ok (.iaload, 1) := dr_dd nD_L_law_3 36 rfl
theorem d_L_law_336 : decode code 336 = .ok (.invokestatic 107, 3) := dr_dd nD_L_law_3 37 rfl
theorem d_L_law_339 : decode code 339 = .ok (.istore 5, 2) := dr_dd nD_L_law_3 38 rfl
theorem d_L_law_341 : decode code 341 = .ok (.aload_n 2, 1) := dr_dd nD_L_law_3 39 rfl
abbrev nL_L_law_4 : List (Nat × Instr × Nat) := [(342, .aload_n 0, 1), (343, .iload 4, 2), (345, .iconst 1, 1), (346, .iadd, 1), (347, .iaload, 1), (348, .invokevirtual 110, 3), (351, .aload_n 2, 1), (352, .invokevirtual 93, 3), (355, .iload 5, 2), (357, .if_icmp .eq 5, 3), (360, .iconst 0, 1), (361, .ireturn, 1), (362, .goto 954, 3), (365, .aload_n 1, 1), (366, .aload_n 0, 1), (367, .iload 4, 2), (369, .iconst 1, 1), (370, .iadd, 1), (371, .iaload, 1), (372, .aload_n 0, 1), (373, .iload 4, 2), (375, .iconst 2, 1), (376, .iadd, 1), (377, .iaload, 1), (378, .invokestatic 111, 3), (381, .istore 5, 2), (383, .aload_n 2, 1), (384, .aload_n 0, 1), (385, .iload 4, 2), (387, .iconst 1, 1), (388, .iadd, 1), (389, .iaload, 1), (390, .aload_n 0, 1), (391, .iload 4, 2), (393, .iconst 2, 1), (394, .iadd, 1), (395, .iaload, 1), (396, .invokevirtual 114, 3), (399, .aload_n 2, 1), (400, .invokevirtual 93, 3)]
theorem nD_L_law_4 : ∀ q ∈ nL_L_law_4, decode code q.1 = .ok (q.2.1, q.2.2) := by decide +kernel
theorem d_L_law_342 : decode code 342 = .ok (.aload_n 0, 1) := dr_dd nD_L_law_4 0 rfl
theorem d_L_law_343 : decode code 343 = .ok (.iload 4, 2) := dr_dd nD_L_law_4 1 rfl
theorem d_L_law_345 : decode code 345 = .ok (.iconst 1, 1) := dr_dd nD_L_law_4 2 rfl
theorem d_L_law_346 : decode code 346 = .ok (.iadd, 1) := dr_dd nD_L_law_4 3 rfl
theorem d_L_law_347 : decode code 347 = .ok (.iaload, 1) := dr_dd nD_L_law_4 4 rfl
theorem d_L_law_348 : decode code 348 = .ok (.invokevirtual 110, 3) := dr_dd nD_L_law_4 5 rfl
theorem d_L_law_351 : decode code 351 = .ok (.aload_n 2, 1) := dr_dd nD_L_law_4 6 rfl
theorem d_L_law_352 : decode code 352 = .ok (.invokevirtual 93, 3) := dr_dd nD_L_law_4 7 rfl
theorem d_L_law_355 : decode code 355 = .ok (.iload 5, 2) := dr_dd nD_L_law_4 8 rfl
theorem d_L_law_357 : decode code 357 = .ok (.if_icmp .eq 5, 3) := dr_dd nD_L_law_4 9 rfl
theorem d_L_law_360 : decode code 360 = .ok (.iconst 0, 1) := dr_dd nD_L_law_4 10 rfl
theorem d_L_law_361 : decode code 361 = .ok (.ireturn, 1) := dr_dd nD_L_law_4 11 rfl
theorem d_L_law_362 : decode code 362 = .ok (.goto 954, 3) := dr_dd nD_L_law_4 12 rfl
theorem d_L_law_365 : decode code 365 = .ok (.aload_n 1, 1) := dr_dd nD_L_law_4 13 rfl
theorem d_L_law_366 : decode code 366 = .ok (.aload_n 0, 1) := dr_dd nD_L_law_4 14 rfl
theorem d_L_law_367 : decode code 367 = .ok (.iload 4, 2) := dr_dd nD_L_law_4 15 rfl
theorem d_L_law_369 : decode code 369 = .ok (.iconst 1, 1) := dr_dd nD_L_law_4 16 rfl
theorem d_L_law_370 : decode code 370 = .ok (.iadd, 1) := dr_dd nD_L_law_4 17 rfl
theorem d_L_law_371 : decode code 371 = .ok (.iaload, 1) := dr_dd nD_L_law_4 18 rfl
theorem d_L_law_372 : decode code 372 = .ok (.aload_n 0, 1) := dr_dd nD_L_law_4 19 rfl
theorem d_L_law_373 : decode code 373 = .ok (.iload 4, 2) := dr_dd nD_L_law_4 20 rfl
theorem d_L_law_375 : decode code 375 = .ok (.iconst 2, 1) := dr_dd nD_L_law_4 21 rfl
theorem d_L_law_376 : decode code 376 = .ok (.iadd, 1) := dr_dd nD_L_law_4 22 rfl
theorem d_L_law_377 : decode code 377 = .ok (.iaload, 1) := dr_dd nD_L_law_4 23 rfl
theorem d_L_law_378 : decode code 378 = .ok (.invokestatic 111, 3) := dr_dd nD_L_law_4 24 rfl
theorem d_L_law_381 : decode code 381 = .ok (.istore 5, 2) := dr_dd nD_L_law_4 25 rfl
theorem d_L_law_383 : decode code 383 = .ok (.aload_n 2, 1) := dr_dd nD_L_law_4 26 rfl
theorem d_L_law_384 : decode code 384 = .ok (.aload_n 0, 1) := dr_dd nD_L_law_4 27 rfl
theorem d_L_law_385 : decode code 385 = .ok (.iload 4, 2) := dr_dd nD_L_law_4 28 rfl
theorem d_L_law_387 : decode code 387 = .ok (.iconst 1, 1) := dr_dd nD_L_law_4 29 rfl
theorem d_L_law_388 : decode code 388 = .ok (.iadd, 1) := dr_dd nD_L_law_4 30 rfl
theorem d_L_law_389 : decode code 389 = .ok (.iaload, 1) := dr_dd nD_L_law_4 31 rfl
theorem d_L_law_390 : decode code 390 = .ok (.aload_n 0, 1) := dr_dd nD_L_law_4 32 rfl
theorem d_L_law_391 : decode code 391 = .ok (.iload 4, 2) := dr_dd nD_L_law_4 33 rfl
theorem d_L_law_393 : decode code 393 = .ok (.iconst 2, 1) := dr_dd nD_L_law_4 34 rfl
theorem d_L_law_394 : decode code 394 = .ok (.iadd, 1) := dr_dd nD_L_law_4 35 rfl
theorem d_L_law_395 : decode code 395 = .ok (.iaload, 1) := dr_dd nD_L_law_4 36 rfl
theorem d_L_law_396 : decode code 396 = .ok (.invokevirtual 114, 3) := dr_dd nD_L_law_4 37 rfl
theorem d_L_law_399 : decode code 399 = .ok (.aload_n 2, 1) := dr_dd nD_L_law_4 38 rfl
theorem d_L_law_400 : decode code 400 = .ok (.invokevirtual 93, 3) := dr_dd nD_L_law_4 39 rfl
abbrev nL_L_law_5 : List (Nat × Instr × Nat) := [(403, .iload 5, 2), (405, .if_icmp .eq 5, 3), (408, .iconst 0, 1), (409, .ireturn, 1), (410, .goto 906, 3), (413, .aload_n 1, 1), (414, .aload_n 0, 1), (415, .iload 4, 2), (417, .iconst 1, 1), (418, .iadd, 1), (419, .iaload, 1), (420, .aload_n 3, 1), (421, .invokestatic 115, 3), (424, .istore 5, 2), (426, .aload_n 2, 1), (427, .aload_n 0, 1), (428, .iload 4, 2), (430, .iconst 1, 1), (431, .iadd, 1), (432, .iaload, 1), (433, .invokevirtual 118, 3), (436, .istore 6, 2), (438, .aload_n 2, 1), (439, .invokevirtual 93, 3), (442, .iload 5, 2), (444, .if_icmp .eq 5, 3), (447, .iconst 0, 1), (448, .ireturn, 1), (449, .iload 5, 2), (451, .ifCond .ne 15, 3), (454, .aload_n 3, 1), (455, .iconst 0, 1), (456, .laload, 1), (457, .iload 6, 2), (459, .i2l, 1), (460, .lcmp, 1), (461, .ifCond .eq 5, 3), (464, .iconst 0, 1), (465, .ireturn, 1), (466, .goto 850, 3)]
theorem nD_L_law_5 : ∀ q ∈ nL_L_law_5, decode code q.1 = .ok (q.2.1, q.2.2) := by decide +kernel
theorem d_L_law_403 : decode code 403 = .ok (.iload 5, 2) := dr_dd nD_L_law_5 0 rfl
theorem d_L_law_405 : decode code 405 = .ok (.if_icmp .eq 5, 3) := dr_dd nD_L_law_5 1 rfl
theorem d_L_law_408 : decode code 408 = .ok (.iconst 0, 1) := dr_dd nD_L_law_5 2 rfl
theorem d_L_law_409 : decode code 409 = .ok (.ireturn, 1) := dr_dd nD_L_law_5 3 rfl
theorem d_L_law_410 : decode code 410 = .ok (.goto 906, 3) := dr_dd nD_L_law_5 4 rfl
theorem d_L_law_413 : decode code 413 = .ok (.aload_n 1, 1) := dr_dd nD_L_law_5 5 rfl
theorem d_L_law_414 : decode code 414 = .ok (.aload_n 0, 1) := dr_dd nD_L_law_5 6 rfl
theorem d_L_law_415 : decode code 415 = .ok (.iload 4, 2) := dr_dd nD_L_law_5 7 rfl
theorem d_L_law_417 : decode code 417 = .ok (.iconst 1, 1) := dr_dd nD_L_law_5 8 rfl
theorem d_L_law_418 : decode code 418 = .ok (.iadd, 1) := dr_dd nD_L_law_5 9 rfl
theorem d_L_law_419 : decode code 419 = .ok (.iaload, 1) := dr_dd nD_L_law_5 10 rfl
theorem d_L_law_420 : decode code 420 = .ok (.aload_n 3, 1) := dr_dd nD_L_law_5 11 rfl
theorem d_L_law_421 : decode code 421 = .ok (.invokestatic 115, 3) := dr_dd nD_L_law_5 12 rfl
theorem d_L_law_424 : decode code 424 = .ok (.istore 5, 2) := dr_dd nD_L_law_5 13 rfl
theorem d_L_law_426 : decode code 426 = .ok (.aload_n 2, 1) := dr_dd nD_L_law_5 14 rfl
theorem d_L_law_427 : decode code 427 = .ok (.aload_n 0, 1) := dr_dd nD_L_law_5 15 rfl
theorem d_L_law_428 : decode code 428 = .ok (.iload 4, 2) := dr_dd nD_L_law_5 16 rfl
theorem d_L_law_430 : decode code 430 = .ok (.iconst 1, 1) := dr_dd nD_L_law_5 17 rfl
theorem d_L_law_431 : decode code 431 = .ok (.iadd, 1) := dr_dd nD_L_law_5 18 rfl
theorem d_L_law_432 : decode code 432 = .ok (.iaload, 1) := dr_dd nD_L_law_5 19 rfl
theorem d_L_law_433 : decode code 433 = .ok (.invokevirtual 118, 3) := dr_dd nD_L_law_5 20 rfl
theorem d_L_law_436 : decode code 436 = .ok (.istore 6, 2) := dr_dd nD_L_law_5 21 rfl
theorem d_L_law_438 : decode code 438 = .ok (.aload_n 2, 1) := dr_dd nD_L_law_5 22 rfl
theorem d_L_law_439 : decode code 439 = .ok (.invokevirtual 93, 3) := dr_dd nD_L_law_5 23 rfl
theorem d_L_law_442 : decode code 442 = .ok (.iload 5, 2) := dr_dd nD_L_law_5 24 rfl
theorem d_L_law_444 : decode code 444 = .ok (.if_icmp .eq 5, 3) := dr_dd nD_L_law_5 25 rfl
theorem d_L_law_447 : decode code 447 = .ok (.iconst 0, 1) := dr_dd nD_L_law_5 26 rfl
theorem d_L_law_448 : decode code 448 = .ok (.ireturn, 1) := dr_dd nD_L_law_5 27 rfl
theorem d_L_law_449 : decode code 449 = .ok (.iload 5, 2) := dr_dd nD_L_law_5 28 rfl
theorem d_L_law_451 : decode code 451 = .ok (.ifCond .ne 15, 3) := dr_dd nD_L_law_5 29 rfl
theorem d_L_law_454 : decode code 454 = .ok (.aload_n 3, 1) := dr_dd nD_L_law_5 30 rfl
theorem d_L_law_455 : decode code 455 = .ok (.iconst 0, 1) := dr_dd nD_L_law_5 31 rfl
theorem d_L_law_456 : decode code 456 = .ok (.laload, 1) := dr_dd nD_L_law_5 32 rfl
theorem d_L_law_457 : decode code 457 = .ok (.iload 6, 2) := dr_dd nD_L_law_5 33 rfl
theorem d_L_law_459 : decode code 459 = .ok (.i2l, 1) := dr_dd nD_L_law_5 34 rfl
theorem d_L_law_460 : decode code 460 = .ok (.lcmp, 1) := dr_dd nD_L_law_5 35 rfl
theorem d_L_law_461 : decode code 461 = .ok (.ifCond .eq 5, 3) := dr_dd nD_L_law_5 36 rfl
theorem d_L_law_464 : decode code 464 = .ok (.iconst 0, 1) := dr_dd nD_L_law_5 37 rfl
theorem d_L_law_465 : decode code 465 = .ok (.ireturn, 1) := dr_dd nD_L_law_5 38 rfl
theorem d_L_law_466 : decode code 466 = .ok (.goto 850, 3) := dr_dd nD_L_law_5 39 rfl
abbrev nL_L_law_6 : List (Nat × Instr × Nat) := [(469, .aload_n 1, 1), (470, .aload_n 0, 1), (471, .iload 4, 2), (473, .iconst 1, 1), (474, .iadd, 1), (475, .iaload, 1), (476, .aload_n 0, 1), (477, .iload 4, 2), (479, .iconst 2, 1), (480, .iadd, 1), (481, .iaload, 1), (482, .aload_n 3, 1), (483, .invokestatic 119, 3), (486, .istore 5, 2), (488, .aload_n 2, 1), (489, .aload_n 0, 1), (490, .iload 4, 2), (492, .iconst 1, 1), (493, .iadd, 1), (494, .iaload, 1), (495, .aload_n 0, 1), (496, .iload 4, 2), (498, .iconst 2, 1), (499, .iadd, 1), (500, .iaload, 1), (501, .invokevirtual 122, 3), (504, .istore 6, 2), (506, .aload_n 2, 1), (507, .invokevirtual 93, 3), (510, .iload 5, 2), (512, .if_icmp .eq 5, 3), (515, .iconst 0, 1), (516, .ireturn, 1), (517, .iload 5, 2), (519, .ifCond .ne 15, 3), (522, .aload_n 3, 1), (523, .iconst 0, 1), (524, .laload, 1), (525, .iload 6, 2), (527, .i2l, 1)]
theorem nD_L_law_6 : ∀ q ∈ nL_L_law_6, decode code q.1 = .ok (q.2.1, q.2.2) := by decide +kernel
theorem d_L_law_469 : decode code 469 = .ok (.aload_n 1, 1) := dr_dd nD_L_law_6 0 rfl
theorem d_L_law_470 : decode code 470 = .ok (.aload_n 0, 1) := dr_dd nD_L_law_6 1 rfl
theorem d_L_law_471 : decode code 471 = .ok (.iload 4, 2) := dr_dd nD_L_law_6 2 rfl
theorem d_L_law_473 : decode code 473 = .ok (.iconst 1, 1) := dr_dd nD_L_law_6 3 rfl
theorem d_L_law_474 : decode code 474 = .ok (.iadd, 1) := dr_dd nD_L_law_6 4 rfl
theorem d_L_law_475 : decode code 475 = .ok (.iaload, 1) := dr_dd nD_L_law_6 5 rfl
theorem d_L_law_476 : decode code 476 = .ok (.aload_n 0, 1) := dr_dd nD_L_law_6 6 rfl
theorem d_L_law_477 : decode code 477 = .ok (.iload 4, 2) := dr_dd nD_L_law_6 7 rfl
theorem d_L_law_479 : decode code 479 = .ok (.iconst 2, 1) := dr_dd nD_L_law_6 8 rfl
theorem d_L_law_480 : decode code 480 = .ok (.iadd, 1) := dr_dd nD_L_law_6 9 rfl
theorem d_L_law_481 : decode code 481 = .ok (.iaload, 1) := dr_dd nD_L_law_6 10 rfl
theorem d_L_law_482 : decode code 482 = .ok (.aload_n 3, 1) := dr_dd nD_L_law_6 11 rfl
theorem d_L_law_483 : decode code 483 = .ok (.invokestatic 119, 3) := dr_dd nD_L_law_6 12 rfl
theorem d_L_law_486 : decode code 486 = .ok (.istore 5, 2) := dr_dd nD_L_law_6 13 rfl
theorem d_L_law_488 : decode code 488 = .ok (.aload_n 2, 1) := dr_dd nD_L_law_6 14 rfl
theorem d_L_law_489 : decode code 489 = .ok (.aload_n 0, 1) := dr_dd nD_L_law_6 15 rfl
theorem d_L_law_490 : decode code 490 = .ok (.iload 4, 2) := dr_dd nD_L_law_6 16 rfl
theorem d_L_law_492 : decode code 492 = .ok (.iconst 1, 1) := dr_dd nD_L_law_6 17 rfl
theorem d_L_law_493 : decode code 493 = .ok (.iadd, 1) := dr_dd nD_L_law_6 18 rfl
theorem d_L_law_494 : decode code 494 = .ok (.iaload, 1) := dr_dd nD_L_law_6 19 rfl
theorem d_L_law_495 : decode code 495 = .ok (.aload_n 0, 1) := dr_dd nD_L_law_6 20 rfl
theorem d_L_law_496 : decode code 496 = .ok (.iload 4, 2) := dr_dd nD_L_law_6 21 rfl
theorem d_L_law_498 : decode code 498 = .ok (.iconst 2, 1) := dr_dd nD_L_law_6 22 rfl
theorem d_L_law_499 : decode code 499 = .ok (.iadd, 1) := dr_dd nD_L_law_6 23 rfl
theorem d_L_law_500 : decode code 500 = .ok (.iaload, 1) := dr_dd nD_L_law_6 24 rfl
theorem d_L_law_501 : decode code 501 = .ok (.invokevirtual 122, 3) := dr_dd nD_L_law_6 25 rfl
theorem d_L_law_504 : decode code 504 = .ok (.istore 6, 2) := dr_dd nD_L_law_6 26 rfl
theorem d_L_law_506 : decode code 506 = .ok (.aload_n 2, 1) := dr_dd nD_L_law_6 27 rfl
theorem d_L_law_507 : decode code 507 = .ok (.invokevirtual 93, 3) := dr_dd nD_L_law_6 28 rfl
theorem d_L_law_510 : decode code 510 = .ok (.iload 5, 2) := dr_dd nD_L_law_6 29 rfl
theorem d_L_law_512 : decode code 512 = .ok (.if_icmp .eq 5, 3) := dr_dd nD_L_law_6 30 rfl
theorem d_L_law_515 : decode code 515 = .ok (.iconst 0, 1) := dr_dd nD_L_law_6 31 rfl
theorem d_L_law_516 : decode code 516 = .ok (.ireturn, 1) := dr_dd nD_L_law_6 32 rfl
theorem d_L_law_517 : decode code 517 = .ok (.iload 5, 2) := dr_dd nD_L_law_6 33 rfl
theorem d_L_law_519 : decode code 519 = .ok (.ifCond .ne 15, 3) := dr_dd nD_L_law_6 34 rfl
theorem d_L_law_522 : decode code 522 = .ok (.aload_n 3, 1) := dr_dd nD_L_law_6 35 rfl
theorem d_L_law_523 : decode code 523 = .ok (.iconst 0, 1) := dr_dd nD_L_law_6 36 rfl
theorem d_L_law_524 : decode code 524 = .ok (.laload, 1) := dr_dd nD_L_law_6 37 rfl
theorem d_L_law_525 : decode code 525 = .ok (.iload 6, 2) := dr_dd nD_L_law_6 38 rfl
theorem d_L_law_527 : decode code 527 = .ok (.i2l, 1) := dr_dd nD_L_law_6 39 rfl
abbrev nL_L_law_7 : List (Nat × Instr × Nat) := [(528, .lcmp, 1), (529, .ifCond .eq 5, 3), (532, .iconst 0, 1), (533, .ireturn, 1), (534, .goto 782, 3), (537, .aload_n 1, 1), (538, .aload_n 0, 1), (539, .iload 4, 2), (541, .iconst 1, 1), (542, .iadd, 1), (543, .iaload, 1), (544, .aload_n 3, 1), (545, .invokestatic 123, 3), (548, .istore 5, 2), (550, .aload_n 2, 1), (551, .aload_n 0, 1), (552, .iload 4, 2), (554, .iconst 1, 1), (555, .iadd, 1), (556, .iaload, 1), (557, .invokevirtual 125, 3), (560, .istore 6, 2), (562, .aload_n 2, 1), (563, .invokevirtual 93, 3), (566, .iload 5, 2), (568, .if_icmp .eq 5, 3), (571, .iconst 0, 1), (572, .ireturn, 1), (573, .iload 5, 2), (575, .ifCond .ne 15, 3), (578, .aload_n 3, 1), (579, .iconst 0, 1), (580, .laload, 1), (581, .iload 6, 2), (583, .i2l, 1), (584, .lcmp, 1), (585, .ifCond .eq 5, 3), (588, .iconst 0, 1), (589, .ireturn, 1), (590, .goto 726, 3)]
theorem nD_L_law_7 : ∀ q ∈ nL_L_law_7, decode code q.1 = .ok (q.2.1, q.2.2) := by decide +kernel
theorem d_L_law_528 : decode code 528 = .ok (.lcmp, 1) := dr_dd nD_L_law_7 0 rfl
theorem d_L_law_529 : decode code 529 = .ok (.ifCond .eq 5, 3) := dr_dd nD_L_law_7 1 rfl
theorem d_L_law_532 : decode code 532 = .ok (.iconst 0, 1) := dr_dd nD_L_law_7 2 rfl
theorem d_L_law_533 : decode code 533 = .ok (.ireturn, 1) := dr_dd nD_L_law_7 3 rfl
theorem d_L_law_534 : decode code 534 = .ok (.goto 782, 3) := dr_dd nD_L_law_7 4 rfl
theorem d_L_law_537 : decode code 537 = .ok (.aload_n 1, 1) := dr_dd nD_L_law_7 5 rfl
theorem d_L_law_538 : decode code 538 = .ok (.aload_n 0, 1) := dr_dd nD_L_law_7 6 rfl
theorem d_L_law_539 : decode code 539 = .ok (.iload 4, 2) := dr_dd nD_L_law_7 7 rfl
theorem d_L_law_541 : decode code 541 = .ok (.iconst 1, 1) := dr_dd nD_L_law_7 8 rfl
theorem d_L_law_542 : decode code 542 = .ok (.iadd, 1) := dr_dd nD_L_law_7 9 rfl
theorem d_L_law_543 : decode code 543 = .ok (.iaload, 1) := dr_dd nD_L_law_7 10 rfl
theorem d_L_law_544 : decode code 544 = .ok (.aload_n 3, 1) := dr_dd nD_L_law_7 11 rfl
theorem d_L_law_545 : decode code 545 = .ok (.invokestatic 123, 3) := dr_dd nD_L_law_7 12 rfl
theorem d_L_law_548 : decode code 548 = .ok (.istore 5, 2) := dr_dd nD_L_law_7 13 rfl
theorem d_L_law_550 : decode code 550 = .ok (.aload_n 2, 1) := dr_dd nD_L_law_7 14 rfl
theorem d_L_law_551 : decode code 551 = .ok (.aload_n 0, 1) := dr_dd nD_L_law_7 15 rfl
theorem d_L_law_552 : decode code 552 = .ok (.iload 4, 2) := dr_dd nD_L_law_7 16 rfl
theorem d_L_law_554 : decode code 554 = .ok (.iconst 1, 1) := dr_dd nD_L_law_7 17 rfl
theorem d_L_law_555 : decode code 555 = .ok (.iadd, 1) := dr_dd nD_L_law_7 18 rfl
theorem d_L_law_556 : decode code 556 = .ok (.iaload, 1) := dr_dd nD_L_law_7 19 rfl
theorem d_L_law_557 : decode code 557 = .ok (.invokevirtual 125, 3) := dr_dd nD_L_law_7 20 rfl
theorem d_L_law_560 : decode code 560 = .ok (.istore 6, 2) := dr_dd nD_L_law_7 21 rfl
theorem d_L_law_562 : decode code 562 = .ok (.aload_n 2, 1) := dr_dd nD_L_law_7 22 rfl
theorem d_L_law_563 : decode code 563 = .ok (.invokevirtual 93, 3) := dr_dd nD_L_law_7 23 rfl
theorem d_L_law_566 : decode code 566 = .ok (.iload 5, 2) := dr_dd nD_L_law_7 24 rfl
theorem d_L_law_568 : decode code 568 = .ok (.if_icmp .eq 5, 3) := dr_dd nD_L_law_7 25 rfl
theorem d_L_law_571 : decode code 571 = .ok (.iconst 0, 1) := dr_dd nD_L_law_7 26 rfl
theorem d_L_law_572 : decode code 572 = .ok (.ireturn, 1) := dr_dd nD_L_law_7 27 rfl
theorem d_L_law_573 : decode code 573 = .ok (.iload 5, 2) := dr_dd nD_L_law_7 28 rfl
theorem d_L_law_575 : decode code 575 = .ok (.ifCond .ne 15, 3) := dr_dd nD_L_law_7 29 rfl
theorem d_L_law_578 : decode code 578 = .ok (.aload_n 3, 1) := dr_dd nD_L_law_7 30 rfl
theorem d_L_law_579 : decode code 579 = .ok (.iconst 0, 1) := dr_dd nD_L_law_7 31 rfl
theorem d_L_law_580 : decode code 580 = .ok (.laload, 1) := dr_dd nD_L_law_7 32 rfl
theorem d_L_law_581 : decode code 581 = .ok (.iload 6, 2) := dr_dd nD_L_law_7 33 rfl
theorem d_L_law_583 : decode code 583 = .ok (.i2l, 1) := dr_dd nD_L_law_7 34 rfl
theorem d_L_law_584 : decode code 584 = .ok (.lcmp, 1) := dr_dd nD_L_law_7 35 rfl
theorem d_L_law_585 : decode code 585 = .ok (.ifCond .eq 5, 3) := dr_dd nD_L_law_7 36 rfl
theorem d_L_law_588 : decode code 588 = .ok (.iconst 0, 1) := dr_dd nD_L_law_7 37 rfl
theorem d_L_law_589 : decode code 589 = .ok (.ireturn, 1) := dr_dd nD_L_law_7 38 rfl
theorem d_L_law_590 : decode code 590 = .ok (.goto 726, 3) := dr_dd nD_L_law_7 39 rfl
abbrev nL_L_law_8 : List (Nat × Instr × Nat) := [(593, .aload_n 1, 1), (594, .aload_n 0, 1), (595, .iload 4, 2), (597, .iconst 1, 1), (598, .iadd, 1), (599, .iaload, 1), (600, .aload_n 0, 1), (601, .iload 4, 2), (603, .iconst 2, 1), (604, .iadd, 1), (605, .iaload, 1), (606, .aload_n 0, 1), (607, .iload 4, 2), (609, .iconst 3, 1), (610, .iadd, 1), (611, .iaload, 1), (612, .aload_n 3, 1), (613, .invokestatic 126, 3), (616, .istore 5, 2), (618, .aload_n 2, 1), (619, .aload_n 0, 1), (620, .iload 4, 2), (622, .iconst 1, 1), (623, .iadd, 1), (624, .iaload, 1), (625, .aload_n 0, 1), (626, .iload 4, 2), (628, .iconst 2, 1), (629, .iadd, 1), (630, .iaload, 1), (631, .aload_n 0, 1), (632, .iload 4, 2), (634, .iconst 3, 1), (635, .iadd, 1), (636, .iaload, 1), (637, .invokevirtual 129, 3), (640, .istore 6, 2), (642, .aload_n 2, 1), (643, .invokevirtual 93, 3), (646, .iload 5, 2)]
theorem nD_L_law_8 : ∀ q ∈ nL_L_law_8, decode code q.1 = .ok (q.2.1, q.2.2) := by decide +kernel
theorem d_L_law_593 : decode code 593 = .ok (.aload_n 1, 1) := dr_dd nD_L_law_8 0 rfl
theorem d_L_law_594 : decode code 594 = .ok (.aload_n 0, 1) := dr_dd nD_L_law_8 1 rfl
theorem d_L_law_595 : decode code 595 = .ok (.iload 4, 2) := dr_dd nD_L_law_8 2 rfl
theorem d_L_law_597 : decode code 597 = .ok (.iconst 1, 1) := dr_dd nD_L_law_8 3 rfl
theorem d_L_law_598 : decode code 598 = .ok (.iadd, 1) := dr_dd nD_L_law_8 4 rfl
theorem d_L_law_599 : decode code 599 = .ok (.iaload, 1) := dr_dd nD_L_law_8 5 rfl
theorem d_L_law_600 : decode code 600 = .ok (.aload_n 0, 1) := dr_dd nD_L_law_8 6 rfl
theorem d_L_law_601 : decode code 601 = .ok (.iload 4, 2) := dr_dd nD_L_law_8 7 rfl
theorem d_L_law_603 : decode code 603 = .ok (.iconst 2, 1) := dr_dd nD_L_law_8 8 rfl
theorem d_L_law_604 : decode code 604 = .ok (.iadd, 1) := dr_dd nD_L_law_8 9 rfl
theorem d_L_law_605 : decode code 605 = .ok (.iaload, 1) := dr_dd nD_L_law_8 10 rfl
theorem d_L_law_606 : decode code 606 = .ok (.aload_n 0, 1) := dr_dd nD_L_law_8 11 rfl
theorem d_L_law_607 : decode code 607 = .ok (.iload 4, 2) := dr_dd nD_L_law_8 12 rfl
theorem d_L_law_609 : decode code 609 = .ok (.iconst 3, 1) := dr_dd nD_L_law_8 13 rfl
theorem d_L_law_610 : decode code 610 = .ok (.iadd, 1) := dr_dd nD_L_law_8 14 rfl
theorem d_L_law_611 : decode code 611 = .ok (.iaload, 1) := dr_dd nD_L_law_8 15 rfl
theorem d_L_law_612 : decode code 612 = .ok (.aload_n 3, 1) := dr_dd nD_L_law_8 16 rfl
theorem d_L_law_613 : decode code 613 = .ok (.invokestatic 126, 3) := dr_dd nD_L_law_8 17 rfl
theorem d_L_law_616 : decode code 616 = .ok (.istore 5, 2) := dr_dd nD_L_law_8 18 rfl
theorem d_L_law_618 : decode code 618 = .ok (.aload_n 2, 1) := dr_dd nD_L_law_8 19 rfl
theorem d_L_law_619 : decode code 619 = .ok (.aload_n 0, 1) := dr_dd nD_L_law_8 20 rfl
theorem d_L_law_620 : decode code 620 = .ok (.iload 4, 2) := dr_dd nD_L_law_8 21 rfl
theorem d_L_law_622 : decode code 622 = .ok (.iconst 1, 1) := dr_dd nD_L_law_8 22 rfl
theorem d_L_law_623 : decode code 623 = .ok (.iadd, 1) := dr_dd nD_L_law_8 23 rfl
theorem d_L_law_624 : decode code 624 = .ok (.iaload, 1) := dr_dd nD_L_law_8 24 rfl
theorem d_L_law_625 : decode code 625 = .ok (.aload_n 0, 1) := dr_dd nD_L_law_8 25 rfl
theorem d_L_law_626 : decode code 626 = .ok (.iload 4, 2) := dr_dd nD_L_law_8 26 rfl
theorem d_L_law_628 : decode code 628 = .ok (.iconst 2, 1) := dr_dd nD_L_law_8 27 rfl
theorem d_L_law_629 : decode code 629 = .ok (.iadd, 1) := dr_dd nD_L_law_8 28 rfl
theorem d_L_law_630 : decode code 630 = .ok (.iaload, 1) := dr_dd nD_L_law_8 29 rfl
theorem d_L_law_631 : decode code 631 = .ok (.aload_n 0, 1) := dr_dd nD_L_law_8 30 rfl
theorem d_L_law_632 : decode code 632 = .ok (.iload 4, 2) := dr_dd nD_L_law_8 31 rfl
theorem d_L_law_634 : decode code 634 = .ok (.iconst 3, 1) := dr_dd nD_L_law_8 32 rfl
theorem d_L_law_635 : decode code 635 = .ok (.iadd, 1) := dr_dd nD_L_law_8 33 rfl
theorem d_L_law_636 : decode code 636 = .ok (.iaload, 1) := dr_dd nD_L_law_8 34 rfl
theorem d_L_law_637 : decode code 637 = .ok (.invokevirtual 129, 3) := dr_dd nD_L_law_8 35 rfl
theorem d_L_law_640 : decode code 640 = .ok (.istore 6, 2) := dr_dd nD_L_law_8 36 rfl
theorem d_L_law_642 : decode code 642 = .ok (.aload_n 2, 1) := dr_dd nD_L_law_8 37 rfl
theorem d_L_law_643 : decode code 643 = .ok (.invokevirtual 93, 3) := dr_dd nD_L_law_8 38 rfl
theorem d_L_law_646 : decode code 646 = .ok (.iload 5, 2) := dr_dd nD_L_law_8 39 rfl
abbrev nL_L_law_9 : List (Nat × Instr × Nat) := [(648, .if_icmp .eq 5, 3), (651, .iconst 0, 1), (652, .ireturn, 1), (653, .iload 5, 2), (655, .ifCond .ne 15, 3), (658, .aload_n 3, 1), (659, .iconst 0, 1), (660, .laload, 1), (661, .iload 6, 2), (663, .i2l, 1), (664, .lcmp, 1), (665, .ifCond .eq 5, 3), (668, .iconst 0, 1), (669, .ireturn, 1), (670, .goto 646, 3), (673, .aload_n 1, 1), (674, .aload_n 0, 1), (675, .iload 4, 2), (677, .iconst 1, 1), (678, .iadd, 1), (679, .iaload, 1), (680, .aload_n 0, 1), (681, .iload 4, 2), (683, .iconst 2, 1), (684, .iadd, 1), (685, .iaload, 1), (686, .aload_n 0, 1), (687, .iload 4, 2), (689, .iconst 3, 1), (690, .iadd, 1), (691, .iaload, 1), (692, .aload_n 3, 1), (693, .invokestatic 130, 3), (696, .istore 5, 2), (698, .aload_n 2, 1), (699, .aload_n 0, 1), (700, .iload 4, 2), (702, .iconst 1, 1), (703, .iadd, 1), (704, .iaload, 1)]
theorem nD_L_law_9 : ∀ q ∈ nL_L_law_9, decode code q.1 = .ok (q.2.1, q.2.2) := by decide +kernel
theorem d_L_law_648 : decode code 648 = .ok (.if_icmp .eq 5, 3) := dr_dd nD_L_law_9 0 rfl
theorem d_L_law_651 : decode code 651 = .ok (.iconst 0, 1) := dr_dd nD_L_law_9 1 rfl
theorem d_L_law_652 : decode code 652 = .ok (.ireturn, 1) := dr_dd nD_L_law_9 2 rfl
theorem d_L_law_653 : decode code 653 = .ok (.iload 5, 2) := dr_dd nD_L_law_9 3 rfl
theorem d_L_law_655 : decode code 655 = .ok (.ifCond .ne 15, 3) := dr_dd nD_L_law_9 4 rfl
theorem d_L_law_658 : decode code 658 = .ok (.aload_n 3, 1) := dr_dd nD_L_law_9 5 rfl
theorem d_L_law_659 : decode code 659 = .ok (.iconst 0, 1) := dr_dd nD_L_law_9 6 rfl
theorem d_L_law_660 : decode code 660 = .ok (.laload, 1) := dr_dd nD_L_law_9 7 rfl
theorem d_L_law_661 : decode code 661 = .ok (.iload 6, 2) := dr_dd nD_L_law_9 8 rfl
theorem d_L_law_663 : decode code 663 = .ok (.i2l, 1) := dr_dd nD_L_law_9 9 rfl
theorem d_L_law_664 : decode code 664 = .ok (.lcmp, 1) := dr_dd nD_L_law_9 10 rfl
theorem d_L_law_665 : decode code 665 = .ok (.ifCond .eq 5, 3) := dr_dd nD_L_law_9 11 rfl
theorem d_L_law_668 : decode code 668 = .ok (.iconst 0, 1) := dr_dd nD_L_law_9 12 rfl
theorem d_L_law_669 : decode code 669 = .ok (.ireturn, 1) := dr_dd nD_L_law_9 13 rfl
theorem d_L_law_670 : decode code 670 = .ok (.goto 646, 3) := dr_dd nD_L_law_9 14 rfl
theorem d_L_law_673 : decode code 673 = .ok (.aload_n 1, 1) := dr_dd nD_L_law_9 15 rfl
theorem d_L_law_674 : decode code 674 = .ok (.aload_n 0, 1) := dr_dd nD_L_law_9 16 rfl
theorem d_L_law_675 : decode code 675 = .ok (.iload 4, 2) := dr_dd nD_L_law_9 17 rfl
theorem d_L_law_677 : decode code 677 = .ok (.iconst 1, 1) := dr_dd nD_L_law_9 18 rfl
theorem d_L_law_678 : decode code 678 = .ok (.iadd, 1) := dr_dd nD_L_law_9 19 rfl
theorem d_L_law_679 : decode code 679 = .ok (.iaload, 1) := dr_dd nD_L_law_9 20 rfl
theorem d_L_law_680 : decode code 680 = .ok (.aload_n 0, 1) := dr_dd nD_L_law_9 21 rfl
theorem d_L_law_681 : decode code 681 = .ok (.iload 4, 2) := dr_dd nD_L_law_9 22 rfl
theorem d_L_law_683 : decode code 683 = .ok (.iconst 2, 1) := dr_dd nD_L_law_9 23 rfl
theorem d_L_law_684 : decode code 684 = .ok (.iadd, 1) := dr_dd nD_L_law_9 24 rfl
theorem d_L_law_685 : decode code 685 = .ok (.iaload, 1) := dr_dd nD_L_law_9 25 rfl
theorem d_L_law_686 : decode code 686 = .ok (.aload_n 0, 1) := dr_dd nD_L_law_9 26 rfl
theorem d_L_law_687 : decode code 687 = .ok (.iload 4, 2) := dr_dd nD_L_law_9 27 rfl
theorem d_L_law_689 : decode code 689 = .ok (.iconst 3, 1) := dr_dd nD_L_law_9 28 rfl
theorem d_L_law_690 : decode code 690 = .ok (.iadd, 1) := dr_dd nD_L_law_9 29 rfl
theorem d_L_law_691 : decode code 691 = .ok (.iaload, 1) := dr_dd nD_L_law_9 30 rfl
theorem d_L_law_692 : decode code 692 = .ok (.aload_n 3, 1) := dr_dd nD_L_law_9 31 rfl
theorem d_L_law_693 : decode code 693 = .ok (.invokestatic 130, 3) := dr_dd nD_L_law_9 32 rfl
theorem d_L_law_696 : decode code 696 = .ok (.istore 5, 2) := dr_dd nD_L_law_9 33 rfl
theorem d_L_law_698 : decode code 698 = .ok (.aload_n 2, 1) := dr_dd nD_L_law_9 34 rfl
theorem d_L_law_699 : decode code 699 = .ok (.aload_n 0, 1) := dr_dd nD_L_law_9 35 rfl
theorem d_L_law_700 : decode code 700 = .ok (.iload 4, 2) := dr_dd nD_L_law_9 36 rfl
theorem d_L_law_702 : decode code 702 = .ok (.iconst 1, 1) := dr_dd nD_L_law_9 37 rfl
theorem d_L_law_703 : decode code 703 = .ok (.iadd, 1) := dr_dd nD_L_law_9 38 rfl
theorem d_L_law_704 : decode code 704 = .ok (.iaload, 1) := dr_dd nD_L_law_9 39 rfl
abbrev nL_L_law_10 : List (Nat × Instr × Nat) := [(705, .aload_n 0, 1), (706, .iload 4, 2), (708, .iconst 2, 1), (709, .iadd, 1), (710, .iaload, 1), (711, .aload_n 0, 1), (712, .iload 4, 2), (714, .iconst 3, 1), (715, .iadd, 1), (716, .iaload, 1), (717, .invokevirtual 132, 3), (720, .istore 6, 2), (722, .aload_n 2, 1), (723, .invokevirtual 93, 3), (726, .iload 5, 2), (728, .if_icmp .eq 5, 3), (731, .iconst 0, 1), (732, .ireturn, 1), (733, .iload 5, 2), (735, .ifCond .ne 15, 3), (738, .aload_n 3, 1), (739, .iconst 0, 1), (740, .laload, 1), (741, .iload 6, 2), (743, .i2l, 1), (744, .lcmp, 1), (745, .ifCond .eq 5, 3), (748, .iconst 0, 1), (749, .ireturn, 1), (750, .goto 566, 3), (753, .aload_n 1, 1), (754, .aload_n 0, 1), (755, .iload 4, 2), (757, .iconst 1, 1), (758, .iadd, 1), (759, .iaload, 1), (760, .aload_n 0, 1), (761, .iload 4, 2), (763, .iconst 2, 1), (764, .iadd, 1)]
theorem nD_L_law_10 : ∀ q ∈ nL_L_law_10, decode code q.1 = .ok (q.2.1, q.2.2) := by decide +kernel
theorem d_L_law_705 : decode code 705 = .ok (.aload_n 0, 1) := dr_dd nD_L_law_10 0 rfl
theorem d_L_law_706 : decode code 706 = .ok (.iload 4, 2) := dr_dd nD_L_law_10 1 rfl
theorem d_L_law_708 : decode code 708 = .ok (.iconst 2, 1) := dr_dd nD_L_law_10 2 rfl
theorem d_L_law_709 : decode code 709 = .ok (.iadd, 1) := dr_dd nD_L_law_10 3 rfl
theorem d_L_law_710 : decode code 710 = .ok (.iaload, 1) := dr_dd nD_L_law_10 4 rfl
theorem d_L_law_711 : decode code 711 = .ok (.aload_n 0, 1) := dr_dd nD_L_law_10 5 rfl
theorem d_L_law_712 : decode code 712 = .ok (.iload 4, 2) := dr_dd nD_L_law_10 6 rfl
theorem d_L_law_714 : decode code 714 = .ok (.iconst 3, 1) := dr_dd nD_L_law_10 7 rfl
theorem d_L_law_715 : decode code 715 = .ok (.iadd, 1) := dr_dd nD_L_law_10 8 rfl
theorem d_L_law_716 : decode code 716 = .ok (.iaload, 1) := dr_dd nD_L_law_10 9 rfl
theorem d_L_law_717 : decode code 717 = .ok (.invokevirtual 132, 3) := dr_dd nD_L_law_10 10 rfl
theorem d_L_law_720 : decode code 720 = .ok (.istore 6, 2) := dr_dd nD_L_law_10 11 rfl
theorem d_L_law_722 : decode code 722 = .ok (.aload_n 2, 1) := dr_dd nD_L_law_10 12 rfl
theorem d_L_law_723 : decode code 723 = .ok (.invokevirtual 93, 3) := dr_dd nD_L_law_10 13 rfl
theorem d_L_law_726 : decode code 726 = .ok (.iload 5, 2) := dr_dd nD_L_law_10 14 rfl
theorem d_L_law_728 : decode code 728 = .ok (.if_icmp .eq 5, 3) := dr_dd nD_L_law_10 15 rfl
theorem d_L_law_731 : decode code 731 = .ok (.iconst 0, 1) := dr_dd nD_L_law_10 16 rfl
theorem d_L_law_732 : decode code 732 = .ok (.ireturn, 1) := dr_dd nD_L_law_10 17 rfl
theorem d_L_law_733 : decode code 733 = .ok (.iload 5, 2) := dr_dd nD_L_law_10 18 rfl
theorem d_L_law_735 : decode code 735 = .ok (.ifCond .ne 15, 3) := dr_dd nD_L_law_10 19 rfl
theorem d_L_law_738 : decode code 738 = .ok (.aload_n 3, 1) := dr_dd nD_L_law_10 20 rfl
theorem d_L_law_739 : decode code 739 = .ok (.iconst 0, 1) := dr_dd nD_L_law_10 21 rfl
theorem d_L_law_740 : decode code 740 = .ok (.laload, 1) := dr_dd nD_L_law_10 22 rfl
theorem d_L_law_741 : decode code 741 = .ok (.iload 6, 2) := dr_dd nD_L_law_10 23 rfl
theorem d_L_law_743 : decode code 743 = .ok (.i2l, 1) := dr_dd nD_L_law_10 24 rfl
theorem d_L_law_744 : decode code 744 = .ok (.lcmp, 1) := dr_dd nD_L_law_10 25 rfl
theorem d_L_law_745 : decode code 745 = .ok (.ifCond .eq 5, 3) := dr_dd nD_L_law_10 26 rfl
theorem d_L_law_748 : decode code 748 = .ok (.iconst 0, 1) := dr_dd nD_L_law_10 27 rfl
theorem d_L_law_749 : decode code 749 = .ok (.ireturn, 1) := dr_dd nD_L_law_10 28 rfl
theorem d_L_law_750 : decode code 750 = .ok (.goto 566, 3) := dr_dd nD_L_law_10 29 rfl
theorem d_L_law_753 : decode code 753 = .ok (.aload_n 1, 1) := dr_dd nD_L_law_10 30 rfl
theorem d_L_law_754 : decode code 754 = .ok (.aload_n 0, 1) := dr_dd nD_L_law_10 31 rfl
theorem d_L_law_755 : decode code 755 = .ok (.iload 4, 2) := dr_dd nD_L_law_10 32 rfl
theorem d_L_law_757 : decode code 757 = .ok (.iconst 1, 1) := dr_dd nD_L_law_10 33 rfl
theorem d_L_law_758 : decode code 758 = .ok (.iadd, 1) := dr_dd nD_L_law_10 34 rfl
theorem d_L_law_759 : decode code 759 = .ok (.iaload, 1) := dr_dd nD_L_law_10 35 rfl
theorem d_L_law_760 : decode code 760 = .ok (.aload_n 0, 1) := dr_dd nD_L_law_10 36 rfl
theorem d_L_law_761 : decode code 761 = .ok (.iload 4, 2) := dr_dd nD_L_law_10 37 rfl
theorem d_L_law_763 : decode code 763 = .ok (.iconst 2, 1) := dr_dd nD_L_law_10 38 rfl
theorem d_L_law_764 : decode code 764 = .ok (.iadd, 1) := dr_dd nD_L_law_10 39 rfl
abbrev nL_L_law_11 : List (Nat × Instr × Nat) := [(765, .iaload, 1), (766, .aload_n 3, 1), (767, .invokestatic 133, 3), (770, .istore 5, 2), (772, .aload_n 2, 1), (773, .aload_n 0, 1), (774, .iload 4, 2), (776, .iconst 1, 1), (777, .iadd, 1), (778, .iaload, 1), (779, .aload_n 0, 1), (780, .iload 4, 2), (782, .iconst 2, 1), (783, .iadd, 1), (784, .iaload, 1), (785, .invokevirtual 135, 3), (788, .istore 6, 2), (790, .aload_n 2, 1), (791, .invokevirtual 93, 3), (794, .iload 5, 2), (796, .if_icmp .eq 5, 3), (799, .iconst 0, 1), (800, .ireturn, 1), (801, .iload 5, 2), (803, .ifCond .ne 22, 3), (806, .aload_n 3, 1), (807, .iconst 0, 1), (808, .laload, 1), (809, .iload 6, 2), (811, .ifCond .eq 7, 3), (814, .lconst 1, 1), (815, .goto 4, 3), (818, .lconst 0, 1), (819, .lcmp, 1), (820, .ifCond .eq 5, 3), (823, .iconst 0, 1), (824, .ireturn, 1), (825, .goto 491, 3), (828, .aload_n 1, 1), (829, .aload_n 0, 1)]
theorem nD_L_law_11 : ∀ q ∈ nL_L_law_11, decode code q.1 = .ok (q.2.1, q.2.2) := by decide +kernel
theorem d_L_law_765 : decode code 765 = .ok (.iaload, 1) := dr_dd nD_L_law_11 0 rfl
theorem d_L_law_766 : decode code 766 = .ok (.aload_n 3, 1) := dr_dd nD_L_law_11 1 rfl
theorem d_L_law_767 : decode code 767 = .ok (.invokestatic 133, 3) := dr_dd nD_L_law_11 2 rfl
theorem d_L_law_770 : decode code 770 = .ok (.istore 5, 2) := dr_dd nD_L_law_11 3 rfl
theorem d_L_law_772 : decode code 772 = .ok (.aload_n 2, 1) := dr_dd nD_L_law_11 4 rfl
theorem d_L_law_773 : decode code 773 = .ok (.aload_n 0, 1) := dr_dd nD_L_law_11 5 rfl
theorem d_L_law_774 : decode code 774 = .ok (.iload 4, 2) := dr_dd nD_L_law_11 6 rfl
theorem d_L_law_776 : decode code 776 = .ok (.iconst 1, 1) := dr_dd nD_L_law_11 7 rfl
theorem d_L_law_777 : decode code 777 = .ok (.iadd, 1) := dr_dd nD_L_law_11 8 rfl
theorem d_L_law_778 : decode code 778 = .ok (.iaload, 1) := dr_dd nD_L_law_11 9 rfl
theorem d_L_law_779 : decode code 779 = .ok (.aload_n 0, 1) := dr_dd nD_L_law_11 10 rfl
theorem d_L_law_780 : decode code 780 = .ok (.iload 4, 2) := dr_dd nD_L_law_11 11 rfl
theorem d_L_law_782 : decode code 782 = .ok (.iconst 2, 1) := dr_dd nD_L_law_11 12 rfl
theorem d_L_law_783 : decode code 783 = .ok (.iadd, 1) := dr_dd nD_L_law_11 13 rfl
theorem d_L_law_784 : decode code 784 = .ok (.iaload, 1) := dr_dd nD_L_law_11 14 rfl
theorem d_L_law_785 : decode code 785 = .ok (.invokevirtual 135, 3) := dr_dd nD_L_law_11 15 rfl
theorem d_L_law_788 : decode code 788 = .ok (.istore 6, 2) := dr_dd nD_L_law_11 16 rfl
theorem d_L_law_790 : decode code 790 = .ok (.aload_n 2, 1) := dr_dd nD_L_law_11 17 rfl
theorem d_L_law_791 : decode code 791 = .ok (.invokevirtual 93, 3) := dr_dd nD_L_law_11 18 rfl
theorem d_L_law_794 : decode code 794 = .ok (.iload 5, 2) := dr_dd nD_L_law_11 19 rfl
theorem d_L_law_796 : decode code 796 = .ok (.if_icmp .eq 5, 3) := dr_dd nD_L_law_11 20 rfl
theorem d_L_law_799 : decode code 799 = .ok (.iconst 0, 1) := dr_dd nD_L_law_11 21 rfl
theorem d_L_law_800 : decode code 800 = .ok (.ireturn, 1) := dr_dd nD_L_law_11 22 rfl
theorem d_L_law_801 : decode code 801 = .ok (.iload 5, 2) := dr_dd nD_L_law_11 23 rfl
theorem d_L_law_803 : decode code 803 = .ok (.ifCond .ne 22, 3) := dr_dd nD_L_law_11 24 rfl
theorem d_L_law_806 : decode code 806 = .ok (.aload_n 3, 1) := dr_dd nD_L_law_11 25 rfl
theorem d_L_law_807 : decode code 807 = .ok (.iconst 0, 1) := dr_dd nD_L_law_11 26 rfl
theorem d_L_law_808 : decode code 808 = .ok (.laload, 1) := dr_dd nD_L_law_11 27 rfl
theorem d_L_law_809 : decode code 809 = .ok (.iload 6, 2) := dr_dd nD_L_law_11 28 rfl
theorem d_L_law_811 : decode code 811 = .ok (.ifCond .eq 7, 3) := dr_dd nD_L_law_11 29 rfl
theorem d_L_law_814 : decode code 814 = .ok (.lconst 1, 1) := dr_dd nD_L_law_11 30 rfl
theorem d_L_law_815 : decode code 815 = .ok (.goto 4, 3) := dr_dd nD_L_law_11 31 rfl
theorem d_L_law_818 : decode code 818 = .ok (.lconst 0, 1) := dr_dd nD_L_law_11 32 rfl
theorem d_L_law_819 : decode code 819 = .ok (.lcmp, 1) := dr_dd nD_L_law_11 33 rfl
theorem d_L_law_820 : decode code 820 = .ok (.ifCond .eq 5, 3) := dr_dd nD_L_law_11 34 rfl
theorem d_L_law_823 : decode code 823 = .ok (.iconst 0, 1) := dr_dd nD_L_law_11 35 rfl
theorem d_L_law_824 : decode code 824 = .ok (.ireturn, 1) := dr_dd nD_L_law_11 36 rfl
theorem d_L_law_825 : decode code 825 = .ok (.goto 491, 3) := dr_dd nD_L_law_11 37 rfl
theorem d_L_law_828 : decode code 828 = .ok (.aload_n 1, 1) := dr_dd nD_L_law_11 38 rfl
theorem d_L_law_829 : decode code 829 = .ok (.aload_n 0, 1) := dr_dd nD_L_law_11 39 rfl
abbrev nL_L_law_12 : List (Nat × Instr × Nat) := [(830, .iload 4, 2), (832, .iconst 1, 1), (833, .iadd, 1), (834, .iaload, 1), (835, .aload_n 0, 1), (836, .iload 4, 2), (838, .iconst 2, 1), (839, .iadd, 1), (840, .iaload, 1), (841, .aload_n 3, 1), (842, .invokestatic 136, 3), (845, .istore 5, 2), (847, .aload_n 2, 1), (848, .aload_n 0, 1), (849, .iload 4, 2), (851, .iconst 1, 1), (852, .iadd, 1), (853, .iaload, 1), (854, .aload_n 0, 1), (855, .iload 4, 2), (857, .iconst 2, 1), (858, .iadd, 1), (859, .iaload, 1), (860, .invokevirtual 138, 3), (863, .istore 6, 2), (865, .aload_n 2, 1), (866, .invokevirtual 93, 3), (869, .iload 5, 2), (871, .if_icmp .eq 5, 3), (874, .iconst 0, 1), (875, .ireturn, 1), (876, .iload 5, 2), (878, .ifCond .ne 15, 3), (881, .aload_n 3, 1), (882, .iconst 0, 1), (883, .laload, 1), (884, .iload 6, 2), (886, .i2l, 1), (887, .lcmp, 1), (888, .ifCond .eq 5, 3)]
theorem nD_L_law_12 : ∀ q ∈ nL_L_law_12, decode code q.1 = .ok (q.2.1, q.2.2) := by decide +kernel
theorem d_L_law_830 : decode code 830 = .ok (.iload 4, 2) := dr_dd nD_L_law_12 0 rfl
theorem d_L_law_832 : decode code 832 = .ok (.iconst 1, 1) := dr_dd nD_L_law_12 1 rfl
theorem d_L_law_833 : decode code 833 = .ok (.iadd, 1) := dr_dd nD_L_law_12 2 rfl
theorem d_L_law_834 : decode code 834 = .ok (.iaload, 1) := dr_dd nD_L_law_12 3 rfl
theorem d_L_law_835 : decode code 835 = .ok (.aload_n 0, 1) := dr_dd nD_L_law_12 4 rfl
theorem d_L_law_836 : decode code 836 = .ok (.iload 4, 2) := dr_dd nD_L_law_12 5 rfl
theorem d_L_law_838 : decode code 838 = .ok (.iconst 2, 1) := dr_dd nD_L_law_12 6 rfl
theorem d_L_law_839 : decode code 839 = .ok (.iadd, 1) := dr_dd nD_L_law_12 7 rfl
theorem d_L_law_840 : decode code 840 = .ok (.iaload, 1) := dr_dd nD_L_law_12 8 rfl
theorem d_L_law_841 : decode code 841 = .ok (.aload_n 3, 1) := dr_dd nD_L_law_12 9 rfl
theorem d_L_law_842 : decode code 842 = .ok (.invokestatic 136, 3) := dr_dd nD_L_law_12 10 rfl
theorem d_L_law_845 : decode code 845 = .ok (.istore 5, 2) := dr_dd nD_L_law_12 11 rfl
theorem d_L_law_847 : decode code 847 = .ok (.aload_n 2, 1) := dr_dd nD_L_law_12 12 rfl
theorem d_L_law_848 : decode code 848 = .ok (.aload_n 0, 1) := dr_dd nD_L_law_12 13 rfl
theorem d_L_law_849 : decode code 849 = .ok (.iload 4, 2) := dr_dd nD_L_law_12 14 rfl
theorem d_L_law_851 : decode code 851 = .ok (.iconst 1, 1) := dr_dd nD_L_law_12 15 rfl
theorem d_L_law_852 : decode code 852 = .ok (.iadd, 1) := dr_dd nD_L_law_12 16 rfl
theorem d_L_law_853 : decode code 853 = .ok (.iaload, 1) := dr_dd nD_L_law_12 17 rfl
theorem d_L_law_854 : decode code 854 = .ok (.aload_n 0, 1) := dr_dd nD_L_law_12 18 rfl
theorem d_L_law_855 : decode code 855 = .ok (.iload 4, 2) := dr_dd nD_L_law_12 19 rfl
theorem d_L_law_857 : decode code 857 = .ok (.iconst 2, 1) := dr_dd nD_L_law_12 20 rfl
theorem d_L_law_858 : decode code 858 = .ok (.iadd, 1) := dr_dd nD_L_law_12 21 rfl
theorem d_L_law_859 : decode code 859 = .ok (.iaload, 1) := dr_dd nD_L_law_12 22 rfl
theorem d_L_law_860 : decode code 860 = .ok (.invokevirtual 138, 3) := dr_dd nD_L_law_12 23 rfl
theorem d_L_law_863 : decode code 863 = .ok (.istore 6, 2) := dr_dd nD_L_law_12 24 rfl
theorem d_L_law_865 : decode code 865 = .ok (.aload_n 2, 1) := dr_dd nD_L_law_12 25 rfl
theorem d_L_law_866 : decode code 866 = .ok (.invokevirtual 93, 3) := dr_dd nD_L_law_12 26 rfl
theorem d_L_law_869 : decode code 869 = .ok (.iload 5, 2) := dr_dd nD_L_law_12 27 rfl
theorem d_L_law_871 : decode code 871 = .ok (.if_icmp .eq 5, 3) := dr_dd nD_L_law_12 28 rfl
theorem d_L_law_874 : decode code 874 = .ok (.iconst 0, 1) := dr_dd nD_L_law_12 29 rfl
theorem d_L_law_875 : decode code 875 = .ok (.ireturn, 1) := dr_dd nD_L_law_12 30 rfl
theorem d_L_law_876 : decode code 876 = .ok (.iload 5, 2) := dr_dd nD_L_law_12 31 rfl
theorem d_L_law_878 : decode code 878 = .ok (.ifCond .ne 15, 3) := dr_dd nD_L_law_12 32 rfl
theorem d_L_law_881 : decode code 881 = .ok (.aload_n 3, 1) := dr_dd nD_L_law_12 33 rfl
theorem d_L_law_882 : decode code 882 = .ok (.iconst 0, 1) := dr_dd nD_L_law_12 34 rfl
theorem d_L_law_883 : decode code 883 = .ok (.laload, 1) := dr_dd nD_L_law_12 35 rfl
theorem d_L_law_884 : decode code 884 = .ok (.iload 6, 2) := dr_dd nD_L_law_12 36 rfl
theorem d_L_law_886 : decode code 886 = .ok (.i2l, 1) := dr_dd nD_L_law_12 37 rfl
theorem d_L_law_887 : decode code 887 = .ok (.lcmp, 1) := dr_dd nD_L_law_12 38 rfl
theorem d_L_law_888 : decode code 888 = .ok (.ifCond .eq 5, 3) := dr_dd nD_L_law_12 39 rfl
abbrev nL_L_law_13 : List (Nat × Instr × Nat) := [(891, .iconst 0, 1), (892, .ireturn, 1), (893, .goto 423, 3), (896, .aload_n 1, 1), (897, .aload_n 0, 1), (898, .iload 4, 2), (900, .iconst 1, 1), (901, .iadd, 1), (902, .iaload, 1), (903, .aload_n 0, 1), (904, .iload 4, 2), (906, .iconst 2, 1), (907, .iadd, 1), (908, .iaload, 1), (909, .aload_n 3, 1), (910, .invokestatic 139, 3), (913, .istore 5, 2), (915, .aload_n 2, 1), (916, .aload_n 0, 1), (917, .iload 4, 2), (919, .iconst 1, 1), (920, .iadd, 1), (921, .iaload, 1), (922, .aload_n 0, 1), (923, .iload 4, 2), (925, .iconst 2, 1), (926, .iadd, 1), (927, .iaload, 1), (928, .invokevirtual 141, 3), (931, .istore 6, 2), (933, .aload_n 2, 1), (934, .invokevirtual 93, 3), (937, .iload 5, 2), (939, .if_icmp .eq 5, 3), (942, .iconst 0, 1), (943, .ireturn, 1), (944, .iload 5, 2), (946, .ifCond .ne 15, 3), (949, .aload_n 3, 1), (950, .iconst 0, 1)]
theorem nD_L_law_13 : ∀ q ∈ nL_L_law_13, decode code q.1 = .ok (q.2.1, q.2.2) := by decide +kernel
theorem d_L_law_891 : decode code 891 = .ok (.iconst 0, 1) := dr_dd nD_L_law_13 0 rfl
theorem d_L_law_892 : decode code 892 = .ok (.ireturn, 1) := dr_dd nD_L_law_13 1 rfl
theorem d_L_law_893 : decode code 893 = .ok (.goto 423, 3) := dr_dd nD_L_law_13 2 rfl
theorem d_L_law_896 : decode code 896 = .ok (.aload_n 1, 1) := dr_dd nD_L_law_13 3 rfl
theorem d_L_law_897 : decode code 897 = .ok (.aload_n 0, 1) := dr_dd nD_L_law_13 4 rfl
theorem d_L_law_898 : decode code 898 = .ok (.iload 4, 2) := dr_dd nD_L_law_13 5 rfl
theorem d_L_law_900 : decode code 900 = .ok (.iconst 1, 1) := dr_dd nD_L_law_13 6 rfl
theorem d_L_law_901 : decode code 901 = .ok (.iadd, 1) := dr_dd nD_L_law_13 7 rfl
theorem d_L_law_902 : decode code 902 = .ok (.iaload, 1) := dr_dd nD_L_law_13 8 rfl
theorem d_L_law_903 : decode code 903 = .ok (.aload_n 0, 1) := dr_dd nD_L_law_13 9 rfl
theorem d_L_law_904 : decode code 904 = .ok (.iload 4, 2) := dr_dd nD_L_law_13 10 rfl
theorem d_L_law_906 : decode code 906 = .ok (.iconst 2, 1) := dr_dd nD_L_law_13 11 rfl
theorem d_L_law_907 : decode code 907 = .ok (.iadd, 1) := dr_dd nD_L_law_13 12 rfl
theorem d_L_law_908 : decode code 908 = .ok (.iaload, 1) := dr_dd nD_L_law_13 13 rfl
theorem d_L_law_909 : decode code 909 = .ok (.aload_n 3, 1) := dr_dd nD_L_law_13 14 rfl
theorem d_L_law_910 : decode code 910 = .ok (.invokestatic 139, 3) := dr_dd nD_L_law_13 15 rfl
theorem d_L_law_913 : decode code 913 = .ok (.istore 5, 2) := dr_dd nD_L_law_13 16 rfl
theorem d_L_law_915 : decode code 915 = .ok (.aload_n 2, 1) := dr_dd nD_L_law_13 17 rfl
theorem d_L_law_916 : decode code 916 = .ok (.aload_n 0, 1) := dr_dd nD_L_law_13 18 rfl
theorem d_L_law_917 : decode code 917 = .ok (.iload 4, 2) := dr_dd nD_L_law_13 19 rfl
theorem d_L_law_919 : decode code 919 = .ok (.iconst 1, 1) := dr_dd nD_L_law_13 20 rfl
theorem d_L_law_920 : decode code 920 = .ok (.iadd, 1) := dr_dd nD_L_law_13 21 rfl
theorem d_L_law_921 : decode code 921 = .ok (.iaload, 1) := dr_dd nD_L_law_13 22 rfl
theorem d_L_law_922 : decode code 922 = .ok (.aload_n 0, 1) := dr_dd nD_L_law_13 23 rfl
theorem d_L_law_923 : decode code 923 = .ok (.iload 4, 2) := dr_dd nD_L_law_13 24 rfl
theorem d_L_law_925 : decode code 925 = .ok (.iconst 2, 1) := dr_dd nD_L_law_13 25 rfl
theorem d_L_law_926 : decode code 926 = .ok (.iadd, 1) := dr_dd nD_L_law_13 26 rfl
theorem d_L_law_927 : decode code 927 = .ok (.iaload, 1) := dr_dd nD_L_law_13 27 rfl
theorem d_L_law_928 : decode code 928 = .ok (.invokevirtual 141, 3) := dr_dd nD_L_law_13 28 rfl
theorem d_L_law_931 : decode code 931 = .ok (.istore 6, 2) := dr_dd nD_L_law_13 29 rfl
theorem d_L_law_933 : decode code 933 = .ok (.aload_n 2, 1) := dr_dd nD_L_law_13 30 rfl
theorem d_L_law_934 : decode code 934 = .ok (.invokevirtual 93, 3) := dr_dd nD_L_law_13 31 rfl
theorem d_L_law_937 : decode code 937 = .ok (.iload 5, 2) := dr_dd nD_L_law_13 32 rfl
theorem d_L_law_939 : decode code 939 = .ok (.if_icmp .eq 5, 3) := dr_dd nD_L_law_13 33 rfl
theorem d_L_law_942 : decode code 942 = .ok (.iconst 0, 1) := dr_dd nD_L_law_13 34 rfl
theorem d_L_law_943 : decode code 943 = .ok (.ireturn, 1) := dr_dd nD_L_law_13 35 rfl
theorem d_L_law_944 : decode code 944 = .ok (.iload 5, 2) := dr_dd nD_L_law_13 36 rfl
theorem d_L_law_946 : decode code 946 = .ok (.ifCond .ne 15, 3) := dr_dd nD_L_law_13 37 rfl
theorem d_L_law_949 : decode code 949 = .ok (.aload_n 3, 1) := dr_dd nD_L_law_13 38 rfl
theorem d_L_law_950 : decode code 950 = .ok (.iconst 0, 1) := dr_dd nD_L_law_13 39 rfl
abbrev nL_L_law_14 : List (Nat × Instr × Nat) := [(951, .laload, 1), (952, .iload 6, 2), (954, .i2l, 1), (955, .lcmp, 1), (956, .ifCond .eq 5, 3), (959, .iconst 0, 1), (960, .ireturn, 1), (961, .goto 355, 3), (964, .aload_n 1, 1), (965, .aload_n 0, 1), (966, .iload 4, 2), (968, .iconst 1, 1), (969, .iadd, 1), (970, .iaload, 1), (971, .aload_n 0, 1), (972, .iload 4, 2), (974, .iconst 2, 1), (975, .iadd, 1), (976, .iaload, 1), (977, .aload_n 3, 1), (978, .invokestatic 142, 3), (981, .istore 5, 2), (983, .aload_n 2, 1), (984, .aload_n 0, 1), (985, .iload 4, 2), (987, .iconst 1, 1), (988, .iadd, 1), (989, .iaload, 1), (990, .aload_n 0, 1), (991, .iload 4, 2), (993, .iconst 2, 1), (994, .iadd, 1), (995, .iaload, 1), (996, .invokevirtual 144, 3), (999, .istore 6, 2), (1001, .aload_n 2, 1), (1002, .invokevirtual 93, 3), (1005, .iload 5, 2), (1007, .if_icmp .eq 5, 3), (1010, .iconst 0, 1)]
theorem nD_L_law_14 : ∀ q ∈ nL_L_law_14, decode code q.1 = .ok (q.2.1, q.2.2) := by decide +kernel
theorem d_L_law_951 : decode code 951 = .ok (.laload, 1) := dr_dd nD_L_law_14 0 rfl
theorem d_L_law_952 : decode code 952 = .ok (.iload 6, 2) := dr_dd nD_L_law_14 1 rfl
theorem d_L_law_954 : decode code 954 = .ok (.i2l, 1) := dr_dd nD_L_law_14 2 rfl
theorem d_L_law_955 : decode code 955 = .ok (.lcmp, 1) := dr_dd nD_L_law_14 3 rfl
theorem d_L_law_956 : decode code 956 = .ok (.ifCond .eq 5, 3) := dr_dd nD_L_law_14 4 rfl
theorem d_L_law_959 : decode code 959 = .ok (.iconst 0, 1) := dr_dd nD_L_law_14 5 rfl
theorem d_L_law_960 : decode code 960 = .ok (.ireturn, 1) := dr_dd nD_L_law_14 6 rfl
theorem d_L_law_961 : decode code 961 = .ok (.goto 355, 3) := dr_dd nD_L_law_14 7 rfl
theorem d_L_law_964 : decode code 964 = .ok (.aload_n 1, 1) := dr_dd nD_L_law_14 8 rfl
theorem d_L_law_965 : decode code 965 = .ok (.aload_n 0, 1) := dr_dd nD_L_law_14 9 rfl
theorem d_L_law_966 : decode code 966 = .ok (.iload 4, 2) := dr_dd nD_L_law_14 10 rfl
theorem d_L_law_968 : decode code 968 = .ok (.iconst 1, 1) := dr_dd nD_L_law_14 11 rfl
theorem d_L_law_969 : decode code 969 = .ok (.iadd, 1) := dr_dd nD_L_law_14 12 rfl
theorem d_L_law_970 : decode code 970 = .ok (.iaload, 1) := dr_dd nD_L_law_14 13 rfl
theorem d_L_law_971 : decode code 971 = .ok (.aload_n 0, 1) := dr_dd nD_L_law_14 14 rfl
theorem d_L_law_972 : decode code 972 = .ok (.iload 4, 2) := dr_dd nD_L_law_14 15 rfl
theorem d_L_law_974 : decode code 974 = .ok (.iconst 2, 1) := dr_dd nD_L_law_14 16 rfl
theorem d_L_law_975 : decode code 975 = .ok (.iadd, 1) := dr_dd nD_L_law_14 17 rfl
theorem d_L_law_976 : decode code 976 = .ok (.iaload, 1) := dr_dd nD_L_law_14 18 rfl
theorem d_L_law_977 : decode code 977 = .ok (.aload_n 3, 1) := dr_dd nD_L_law_14 19 rfl
theorem d_L_law_978 : decode code 978 = .ok (.invokestatic 142, 3) := dr_dd nD_L_law_14 20 rfl
theorem d_L_law_981 : decode code 981 = .ok (.istore 5, 2) := dr_dd nD_L_law_14 21 rfl
theorem d_L_law_983 : decode code 983 = .ok (.aload_n 2, 1) := dr_dd nD_L_law_14 22 rfl
theorem d_L_law_984 : decode code 984 = .ok (.aload_n 0, 1) := dr_dd nD_L_law_14 23 rfl
theorem d_L_law_985 : decode code 985 = .ok (.iload 4, 2) := dr_dd nD_L_law_14 24 rfl
theorem d_L_law_987 : decode code 987 = .ok (.iconst 1, 1) := dr_dd nD_L_law_14 25 rfl
theorem d_L_law_988 : decode code 988 = .ok (.iadd, 1) := dr_dd nD_L_law_14 26 rfl
theorem d_L_law_989 : decode code 989 = .ok (.iaload, 1) := dr_dd nD_L_law_14 27 rfl
theorem d_L_law_990 : decode code 990 = .ok (.aload_n 0, 1) := dr_dd nD_L_law_14 28 rfl
theorem d_L_law_991 : decode code 991 = .ok (.iload 4, 2) := dr_dd nD_L_law_14 29 rfl
theorem d_L_law_993 : decode code 993 = .ok (.iconst 2, 1) := dr_dd nD_L_law_14 30 rfl
theorem d_L_law_994 : decode code 994 = .ok (.iadd, 1) := dr_dd nD_L_law_14 31 rfl
theorem d_L_law_995 : decode code 995 = .ok (.iaload, 1) := dr_dd nD_L_law_14 32 rfl
theorem d_L_law_996 : decode code 996 = .ok (.invokevirtual 144, 3) := dr_dd nD_L_law_14 33 rfl
theorem d_L_law_999 : decode code 999 = .ok (.istore 6, 2) := dr_dd nD_L_law_14 34 rfl
theorem d_L_law_1001 : decode code 1001 = .ok (.aload_n 2, 1) := dr_dd nD_L_law_14 35 rfl
theorem d_L_law_1002 : decode code 1002 = .ok (.invokevirtual 93, 3) := dr_dd nD_L_law_14 36 rfl
theorem d_L_law_1005 : decode code 1005 = .ok (.iload 5, 2) := dr_dd nD_L_law_14 37 rfl
theorem d_L_law_1007 : decode code 1007 = .ok (.if_icmp .eq 5, 3) := dr_dd nD_L_law_14 38 rfl
theorem d_L_law_1010 : decode code 1010 = .ok (.iconst 0, 1) := dr_dd nD_L_law_14 39 rfl
abbrev nL_L_law_15 : List (Nat × Instr × Nat) := [(1011, .ireturn, 1), (1012, .iload 5, 2), (1014, .ifCond .ne 15, 3), (1017, .aload_n 3, 1), (1018, .iconst 0, 1), (1019, .laload, 1), (1020, .iload 6, 2), (1022, .i2l, 1), (1023, .lcmp, 1), (1024, .ifCond .eq 5, 3), (1027, .iconst 0, 1), (1028, .ireturn, 1), (1029, .goto 287, 3), (1032, .aload_n 1, 1), (1033, .aload_n 0, 1), (1034, .iload 4, 2), (1036, .iconst 1, 1), (1037, .iadd, 1), (1038, .iaload, 1), (1039, .aload_n 0, 1), (1040, .iload 4, 2), (1042, .iconst 2, 1), (1043, .iadd, 1), (1044, .iaload, 1), (1045, .aload_n 0, 1), (1046, .iload 4, 2), (1048, .iconst 3, 1), (1049, .iadd, 1), (1050, .iaload, 1), (1051, .aload_n 3, 1), (1052, .invokestatic 145, 3), (1055, .istore 5, 2), (1057, .aload_n 2, 1), (1058, .aload_n 0, 1), (1059, .iload 4, 2), (1061, .iconst 1, 1), (1062, .iadd, 1), (1063, .iaload, 1), (1064, .aload_n 0, 1), (1065, .iload 4, 2)]
theorem nD_L_law_15 : ∀ q ∈ nL_L_law_15, decode code q.1 = .ok (q.2.1, q.2.2) := by decide +kernel
theorem d_L_law_1011 : decode code 1011 = .ok (.ireturn, 1) := dr_dd nD_L_law_15 0 rfl
theorem d_L_law_1012 : decode code 1012 = .ok (.iload 5, 2) := dr_dd nD_L_law_15 1 rfl
theorem d_L_law_1014 : decode code 1014 = .ok (.ifCond .ne 15, 3) := dr_dd nD_L_law_15 2 rfl
theorem d_L_law_1017 : decode code 1017 = .ok (.aload_n 3, 1) := dr_dd nD_L_law_15 3 rfl
theorem d_L_law_1018 : decode code 1018 = .ok (.iconst 0, 1) := dr_dd nD_L_law_15 4 rfl
theorem d_L_law_1019 : decode code 1019 = .ok (.laload, 1) := dr_dd nD_L_law_15 5 rfl
theorem d_L_law_1020 : decode code 1020 = .ok (.iload 6, 2) := dr_dd nD_L_law_15 6 rfl
theorem d_L_law_1022 : decode code 1022 = .ok (.i2l, 1) := dr_dd nD_L_law_15 7 rfl
theorem d_L_law_1023 : decode code 1023 = .ok (.lcmp, 1) := dr_dd nD_L_law_15 8 rfl
theorem d_L_law_1024 : decode code 1024 = .ok (.ifCond .eq 5, 3) := dr_dd nD_L_law_15 9 rfl
theorem d_L_law_1027 : decode code 1027 = .ok (.iconst 0, 1) := dr_dd nD_L_law_15 10 rfl
theorem d_L_law_1028 : decode code 1028 = .ok (.ireturn, 1) := dr_dd nD_L_law_15 11 rfl
theorem d_L_law_1029 : decode code 1029 = .ok (.goto 287, 3) := dr_dd nD_L_law_15 12 rfl
theorem d_L_law_1032 : decode code 1032 = .ok (.aload_n 1, 1) := dr_dd nD_L_law_15 13 rfl
theorem d_L_law_1033 : decode code 1033 = .ok (.aload_n 0, 1) := dr_dd nD_L_law_15 14 rfl
theorem d_L_law_1034 : decode code 1034 = .ok (.iload 4, 2) := dr_dd nD_L_law_15 15 rfl
theorem d_L_law_1036 : decode code 1036 = .ok (.iconst 1, 1) := dr_dd nD_L_law_15 16 rfl
theorem d_L_law_1037 : decode code 1037 = .ok (.iadd, 1) := dr_dd nD_L_law_15 17 rfl
theorem d_L_law_1038 : decode code 1038 = .ok (.iaload, 1) := dr_dd nD_L_law_15 18 rfl
theorem d_L_law_1039 : decode code 1039 = .ok (.aload_n 0, 1) := dr_dd nD_L_law_15 19 rfl
theorem d_L_law_1040 : decode code 1040 = .ok (.iload 4, 2) := dr_dd nD_L_law_15 20 rfl
theorem d_L_law_1042 : decode code 1042 = .ok (.iconst 2, 1) := dr_dd nD_L_law_15 21 rfl
theorem d_L_law_1043 : decode code 1043 = .ok (.iadd, 1) := dr_dd nD_L_law_15 22 rfl
theorem d_L_law_1044 : decode code 1044 = .ok (.iaload, 1) := dr_dd nD_L_law_15 23 rfl
theorem d_L_law_1045 : decode code 1045 = .ok (.aload_n 0, 1) := dr_dd nD_L_law_15 24 rfl
theorem d_L_law_1046 : decode code 1046 = .ok (.iload 4, 2) := dr_dd nD_L_law_15 25 rfl
theorem d_L_law_1048 : decode code 1048 = .ok (.iconst 3, 1) := dr_dd nD_L_law_15 26 rfl
theorem d_L_law_1049 : decode code 1049 = .ok (.iadd, 1) := dr_dd nD_L_law_15 27 rfl
theorem d_L_law_1050 : decode code 1050 = .ok (.iaload, 1) := dr_dd nD_L_law_15 28 rfl
theorem d_L_law_1051 : decode code 1051 = .ok (.aload_n 3, 1) := dr_dd nD_L_law_15 29 rfl
theorem d_L_law_1052 : decode code 1052 = .ok (.invokestatic 145, 3) := dr_dd nD_L_law_15 30 rfl
theorem d_L_law_1055 : decode code 1055 = .ok (.istore 5, 2) := dr_dd nD_L_law_15 31 rfl
theorem d_L_law_1057 : decode code 1057 = .ok (.aload_n 2, 1) := dr_dd nD_L_law_15 32 rfl
theorem d_L_law_1058 : decode code 1058 = .ok (.aload_n 0, 1) := dr_dd nD_L_law_15 33 rfl
theorem d_L_law_1059 : decode code 1059 = .ok (.iload 4, 2) := dr_dd nD_L_law_15 34 rfl
theorem d_L_law_1061 : decode code 1061 = .ok (.iconst 1, 1) := dr_dd nD_L_law_15 35 rfl
theorem d_L_law_1062 : decode code 1062 = .ok (.iadd, 1) := dr_dd nD_L_law_15 36 rfl
theorem d_L_law_1063 : decode code 1063 = .ok (.iaload, 1) := dr_dd nD_L_law_15 37 rfl
theorem d_L_law_1064 : decode code 1064 = .ok (.aload_n 0, 1) := dr_dd nD_L_law_15 38 rfl
theorem d_L_law_1065 : decode code 1065 = .ok (.iload 4, 2) := dr_dd nD_L_law_15 39 rfl
abbrev nL_L_law_16 : List (Nat × Instr × Nat) := [(1067, .iconst 2, 1), (1068, .iadd, 1), (1069, .iaload, 1), (1070, .aload_n 0, 1), (1071, .iload 4, 2), (1073, .iconst 3, 1), (1074, .iadd, 1), (1075, .iaload, 1), (1076, .invokevirtual 147, 3), (1079, .istore 6, 2), (1081, .aload_n 2, 1), (1082, .invokevirtual 93, 3), (1085, .iload 5, 2), (1087, .if_icmp .eq 5, 3), (1090, .iconst 0, 1), (1091, .ireturn, 1), (1092, .iload 5, 2), (1094, .ifCond .ne 15, 3), (1097, .aload_n 3, 1), (1098, .iconst 0, 1), (1099, .laload, 1), (1100, .iload 6, 2), (1102, .i2l, 1), (1103, .lcmp, 1), (1104, .ifCond .eq 5, 3), (1107, .iconst 0, 1), (1108, .ireturn, 1), (1109, .goto 207, 3), (1112, .aload_n 1, 1), (1113, .aload_n 0, 1), (1114, .iload 4, 2), (1116, .iconst 1, 1), (1117, .iadd, 1), (1118, .iaload, 1), (1119, .aload_n 0, 1), (1120, .iload 4, 2), (1122, .iconst 2, 1), (1123, .iadd, 1), (1124, .iaload, 1), (1125, .aload_n 3, 1)]
theorem nD_L_law_16 : ∀ q ∈ nL_L_law_16, decode code q.1 = .ok (q.2.1, q.2.2) := by decide +kernel
theorem d_L_law_1067 : decode code 1067 = .ok (.iconst 2, 1) := dr_dd nD_L_law_16 0 rfl
theorem d_L_law_1068 : decode code 1068 = .ok (.iadd, 1) := dr_dd nD_L_law_16 1 rfl
theorem d_L_law_1069 : decode code 1069 = .ok (.iaload, 1) := dr_dd nD_L_law_16 2 rfl
theorem d_L_law_1070 : decode code 1070 = .ok (.aload_n 0, 1) := dr_dd nD_L_law_16 3 rfl
theorem d_L_law_1071 : decode code 1071 = .ok (.iload 4, 2) := dr_dd nD_L_law_16 4 rfl
theorem d_L_law_1073 : decode code 1073 = .ok (.iconst 3, 1) := dr_dd nD_L_law_16 5 rfl
theorem d_L_law_1074 : decode code 1074 = .ok (.iadd, 1) := dr_dd nD_L_law_16 6 rfl
theorem d_L_law_1075 : decode code 1075 = .ok (.iaload, 1) := dr_dd nD_L_law_16 7 rfl
theorem d_L_law_1076 : decode code 1076 = .ok (.invokevirtual 147, 3) := dr_dd nD_L_law_16 8 rfl
theorem d_L_law_1079 : decode code 1079 = .ok (.istore 6, 2) := dr_dd nD_L_law_16 9 rfl
theorem d_L_law_1081 : decode code 1081 = .ok (.aload_n 2, 1) := dr_dd nD_L_law_16 10 rfl
theorem d_L_law_1082 : decode code 1082 = .ok (.invokevirtual 93, 3) := dr_dd nD_L_law_16 11 rfl
theorem d_L_law_1085 : decode code 1085 = .ok (.iload 5, 2) := dr_dd nD_L_law_16 12 rfl
theorem d_L_law_1087 : decode code 1087 = .ok (.if_icmp .eq 5, 3) := dr_dd nD_L_law_16 13 rfl
theorem d_L_law_1090 : decode code 1090 = .ok (.iconst 0, 1) := dr_dd nD_L_law_16 14 rfl
theorem d_L_law_1091 : decode code 1091 = .ok (.ireturn, 1) := dr_dd nD_L_law_16 15 rfl
theorem d_L_law_1092 : decode code 1092 = .ok (.iload 5, 2) := dr_dd nD_L_law_16 16 rfl
theorem d_L_law_1094 : decode code 1094 = .ok (.ifCond .ne 15, 3) := dr_dd nD_L_law_16 17 rfl
theorem d_L_law_1097 : decode code 1097 = .ok (.aload_n 3, 1) := dr_dd nD_L_law_16 18 rfl
theorem d_L_law_1098 : decode code 1098 = .ok (.iconst 0, 1) := dr_dd nD_L_law_16 19 rfl
theorem d_L_law_1099 : decode code 1099 = .ok (.laload, 1) := dr_dd nD_L_law_16 20 rfl
theorem d_L_law_1100 : decode code 1100 = .ok (.iload 6, 2) := dr_dd nD_L_law_16 21 rfl
theorem d_L_law_1102 : decode code 1102 = .ok (.i2l, 1) := dr_dd nD_L_law_16 22 rfl
theorem d_L_law_1103 : decode code 1103 = .ok (.lcmp, 1) := dr_dd nD_L_law_16 23 rfl
theorem d_L_law_1104 : decode code 1104 = .ok (.ifCond .eq 5, 3) := dr_dd nD_L_law_16 24 rfl
theorem d_L_law_1107 : decode code 1107 = .ok (.iconst 0, 1) := dr_dd nD_L_law_16 25 rfl
theorem d_L_law_1108 : decode code 1108 = .ok (.ireturn, 1) := dr_dd nD_L_law_16 26 rfl
theorem d_L_law_1109 : decode code 1109 = .ok (.goto 207, 3) := dr_dd nD_L_law_16 27 rfl
theorem d_L_law_1112 : decode code 1112 = .ok (.aload_n 1, 1) := dr_dd nD_L_law_16 28 rfl
theorem d_L_law_1113 : decode code 1113 = .ok (.aload_n 0, 1) := dr_dd nD_L_law_16 29 rfl
theorem d_L_law_1114 : decode code 1114 = .ok (.iload 4, 2) := dr_dd nD_L_law_16 30 rfl
theorem d_L_law_1116 : decode code 1116 = .ok (.iconst 1, 1) := dr_dd nD_L_law_16 31 rfl
theorem d_L_law_1117 : decode code 1117 = .ok (.iadd, 1) := dr_dd nD_L_law_16 32 rfl
theorem d_L_law_1118 : decode code 1118 = .ok (.iaload, 1) := dr_dd nD_L_law_16 33 rfl
theorem d_L_law_1119 : decode code 1119 = .ok (.aload_n 0, 1) := dr_dd nD_L_law_16 34 rfl
theorem d_L_law_1120 : decode code 1120 = .ok (.iload 4, 2) := dr_dd nD_L_law_16 35 rfl
theorem d_L_law_1122 : decode code 1122 = .ok (.iconst 2, 1) := dr_dd nD_L_law_16 36 rfl
theorem d_L_law_1123 : decode code 1123 = .ok (.iadd, 1) := dr_dd nD_L_law_16 37 rfl
theorem d_L_law_1124 : decode code 1124 = .ok (.iaload, 1) := dr_dd nD_L_law_16 38 rfl
theorem d_L_law_1125 : decode code 1125 = .ok (.aload_n 3, 1) := dr_dd nD_L_law_16 39 rfl
abbrev nL_L_law_17 : List (Nat × Instr × Nat) := [(1126, .invokestatic 148, 3), (1129, .istore 5, 2), (1131, .aload_n 2, 1), (1132, .aload_n 0, 1), (1133, .iload 4, 2), (1135, .iconst 1, 1), (1136, .iadd, 1), (1137, .iaload, 1), (1138, .aload_n 0, 1), (1139, .iload 4, 2), (1141, .iconst 2, 1), (1142, .iadd, 1), (1143, .iaload, 1), (1144, .invokevirtual 150, 3), (1147, .istore 6, 2), (1149, .aload_n 2, 1), (1150, .invokevirtual 93, 3), (1153, .iload 5, 2), (1155, .if_icmp .eq 5, 3), (1158, .iconst 0, 1), (1159, .ireturn, 1), (1160, .iload 5, 2), (1162, .ifCond .ne 15, 3), (1165, .aload_n 3, 1), (1166, .iconst 0, 1), (1167, .laload, 1), (1168, .iload 6, 2), (1170, .i2l, 1), (1171, .lcmp, 1), (1172, .ifCond .eq 5, 3), (1175, .iconst 0, 1), (1176, .ireturn, 1), (1177, .goto 139, 3), (1180, .aload_n 1, 1), (1181, .aload_n 0, 1), (1182, .iload 4, 2), (1184, .iconst 1, 1), (1185, .iadd, 1), (1186, .iaload, 1), (1187, .aload_n 0, 1)]
theorem nD_L_law_17 : ∀ q ∈ nL_L_law_17, decode code q.1 = .ok (q.2.1, q.2.2) := by decide +kernel
theorem d_L_law_1126 : decode code 1126 = .ok (.invokestatic 148, 3) := dr_dd nD_L_law_17 0 rfl
theorem d_L_law_1129 : decode code 1129 = .ok (.istore 5, 2) := dr_dd nD_L_law_17 1 rfl
theorem d_L_law_1131 : decode code 1131 = .ok (.aload_n 2, 1) := dr_dd nD_L_law_17 2 rfl
theorem d_L_law_1132 : decode code 1132 = .ok (.aload_n 0, 1) := dr_dd nD_L_law_17 3 rfl
theorem d_L_law_1133 : decode code 1133 = .ok (.iload 4, 2) := dr_dd nD_L_law_17 4 rfl
theorem d_L_law_1135 : decode code 1135 = .ok (.iconst 1, 1) := dr_dd nD_L_law_17 5 rfl
theorem d_L_law_1136 : decode code 1136 = .ok (.iadd, 1) := dr_dd nD_L_law_17 6 rfl
theorem d_L_law_1137 : decode code 1137 = .ok (.iaload, 1) := dr_dd nD_L_law_17 7 rfl
theorem d_L_law_1138 : decode code 1138 = .ok (.aload_n 0, 1) := dr_dd nD_L_law_17 8 rfl
theorem d_L_law_1139 : decode code 1139 = .ok (.iload 4, 2) := dr_dd nD_L_law_17 9 rfl
theorem d_L_law_1141 : decode code 1141 = .ok (.iconst 2, 1) := dr_dd nD_L_law_17 10 rfl
theorem d_L_law_1142 : decode code 1142 = .ok (.iadd, 1) := dr_dd nD_L_law_17 11 rfl
theorem d_L_law_1143 : decode code 1143 = .ok (.iaload, 1) := dr_dd nD_L_law_17 12 rfl
theorem d_L_law_1144 : decode code 1144 = .ok (.invokevirtual 150, 3) := dr_dd nD_L_law_17 13 rfl
theorem d_L_law_1147 : decode code 1147 = .ok (.istore 6, 2) := dr_dd nD_L_law_17 14 rfl
theorem d_L_law_1149 : decode code 1149 = .ok (.aload_n 2, 1) := dr_dd nD_L_law_17 15 rfl
theorem d_L_law_1150 : decode code 1150 = .ok (.invokevirtual 93, 3) := dr_dd nD_L_law_17 16 rfl
theorem d_L_law_1153 : decode code 1153 = .ok (.iload 5, 2) := dr_dd nD_L_law_17 17 rfl
theorem d_L_law_1155 : decode code 1155 = .ok (.if_icmp .eq 5, 3) := dr_dd nD_L_law_17 18 rfl
theorem d_L_law_1158 : decode code 1158 = .ok (.iconst 0, 1) := dr_dd nD_L_law_17 19 rfl
theorem d_L_law_1159 : decode code 1159 = .ok (.ireturn, 1) := dr_dd nD_L_law_17 20 rfl
theorem d_L_law_1160 : decode code 1160 = .ok (.iload 5, 2) := dr_dd nD_L_law_17 21 rfl
theorem d_L_law_1162 : decode code 1162 = .ok (.ifCond .ne 15, 3) := dr_dd nD_L_law_17 22 rfl
theorem d_L_law_1165 : decode code 1165 = .ok (.aload_n 3, 1) := dr_dd nD_L_law_17 23 rfl
theorem d_L_law_1166 : decode code 1166 = .ok (.iconst 0, 1) := dr_dd nD_L_law_17 24 rfl
theorem d_L_law_1167 : decode code 1167 = .ok (.laload, 1) := dr_dd nD_L_law_17 25 rfl
theorem d_L_law_1168 : decode code 1168 = .ok (.iload 6, 2) := dr_dd nD_L_law_17 26 rfl
theorem d_L_law_1170 : decode code 1170 = .ok (.i2l, 1) := dr_dd nD_L_law_17 27 rfl
theorem d_L_law_1171 : decode code 1171 = .ok (.lcmp, 1) := dr_dd nD_L_law_17 28 rfl
theorem d_L_law_1172 : decode code 1172 = .ok (.ifCond .eq 5, 3) := dr_dd nD_L_law_17 29 rfl
theorem d_L_law_1175 : decode code 1175 = .ok (.iconst 0, 1) := dr_dd nD_L_law_17 30 rfl
theorem d_L_law_1176 : decode code 1176 = .ok (.ireturn, 1) := dr_dd nD_L_law_17 31 rfl
theorem d_L_law_1177 : decode code 1177 = .ok (.goto 139, 3) := dr_dd nD_L_law_17 32 rfl
theorem d_L_law_1180 : decode code 1180 = .ok (.aload_n 1, 1) := dr_dd nD_L_law_17 33 rfl
theorem d_L_law_1181 : decode code 1181 = .ok (.aload_n 0, 1) := dr_dd nD_L_law_17 34 rfl
theorem d_L_law_1182 : decode code 1182 = .ok (.iload 4, 2) := dr_dd nD_L_law_17 35 rfl
theorem d_L_law_1184 : decode code 1184 = .ok (.iconst 1, 1) := dr_dd nD_L_law_17 36 rfl
theorem d_L_law_1185 : decode code 1185 = .ok (.iadd, 1) := dr_dd nD_L_law_17 37 rfl
theorem d_L_law_1186 : decode code 1186 = .ok (.iaload, 1) := dr_dd nD_L_law_17 38 rfl
theorem d_L_law_1187 : decode code 1187 = .ok (.aload_n 0, 1) := dr_dd nD_L_law_17 39 rfl
abbrev nL_L_law_18 : List (Nat × Instr × Nat) := [(1188, .iload 4, 2), (1190, .iconst 2, 1), (1191, .iadd, 1), (1192, .iaload, 1), (1193, .aload_n 3, 1), (1194, .invokestatic 151, 3), (1197, .istore 5, 2), (1199, .aload_n 2, 1), (1200, .aload_n 0, 1), (1201, .iload 4, 2), (1203, .iconst 1, 1), (1204, .iadd, 1), (1205, .iaload, 1), (1206, .aload_n 0, 1), (1207, .iload 4, 2), (1209, .iconst 2, 1), (1210, .iadd, 1), (1211, .iaload, 1), (1212, .invokevirtual 153, 3), (1215, .istore 6, 2), (1217, .aload_n 2, 1), (1218, .invokevirtual 93, 3), (1221, .iload 5, 2), (1223, .if_icmp .eq 5, 3), (1226, .iconst 0, 1), (1227, .ireturn, 1), (1228, .iload 5, 2), (1230, .ifCond .ne 15, 3), (1233, .aload_n 3, 1), (1234, .iconst 0, 1), (1235, .laload, 1), (1236, .iload 6, 2), (1238, .i2l, 1), (1239, .lcmp, 1), (1240, .ifCond .eq 5, 3), (1243, .iconst 0, 1), (1244, .ireturn, 1), (1245, .goto 71, 3), (1248, .aload_n 1, 1), (1249, .aload_n 0, 1)]
theorem nD_L_law_18 : ∀ q ∈ nL_L_law_18, decode code q.1 = .ok (q.2.1, q.2.2) := by decide +kernel
theorem d_L_law_1188 : decode code 1188 = .ok (.iload 4, 2) := dr_dd nD_L_law_18 0 rfl
theorem d_L_law_1190 : decode code 1190 = .ok (.iconst 2, 1) := dr_dd nD_L_law_18 1 rfl
theorem d_L_law_1191 : decode code 1191 = .ok (.iadd, 1) := dr_dd nD_L_law_18 2 rfl
theorem d_L_law_1192 : decode code 1192 = .ok (.iaload, 1) := dr_dd nD_L_law_18 3 rfl
theorem d_L_law_1193 : decode code 1193 = .ok (.aload_n 3, 1) := dr_dd nD_L_law_18 4 rfl
theorem d_L_law_1194 : decode code 1194 = .ok (.invokestatic 151, 3) := dr_dd nD_L_law_18 5 rfl
theorem d_L_law_1197 : decode code 1197 = .ok (.istore 5, 2) := dr_dd nD_L_law_18 6 rfl
theorem d_L_law_1199 : decode code 1199 = .ok (.aload_n 2, 1) := dr_dd nD_L_law_18 7 rfl
theorem d_L_law_1200 : decode code 1200 = .ok (.aload_n 0, 1) := dr_dd nD_L_law_18 8 rfl
theorem d_L_law_1201 : decode code 1201 = .ok (.iload 4, 2) := dr_dd nD_L_law_18 9 rfl
theorem d_L_law_1203 : decode code 1203 = .ok (.iconst 1, 1) := dr_dd nD_L_law_18 10 rfl
theorem d_L_law_1204 : decode code 1204 = .ok (.iadd, 1) := dr_dd nD_L_law_18 11 rfl
theorem d_L_law_1205 : decode code 1205 = .ok (.iaload, 1) := dr_dd nD_L_law_18 12 rfl
theorem d_L_law_1206 : decode code 1206 = .ok (.aload_n 0, 1) := dr_dd nD_L_law_18 13 rfl
theorem d_L_law_1207 : decode code 1207 = .ok (.iload 4, 2) := dr_dd nD_L_law_18 14 rfl
theorem d_L_law_1209 : decode code 1209 = .ok (.iconst 2, 1) := dr_dd nD_L_law_18 15 rfl
theorem d_L_law_1210 : decode code 1210 = .ok (.iadd, 1) := dr_dd nD_L_law_18 16 rfl
theorem d_L_law_1211 : decode code 1211 = .ok (.iaload, 1) := dr_dd nD_L_law_18 17 rfl
theorem d_L_law_1212 : decode code 1212 = .ok (.invokevirtual 153, 3) := dr_dd nD_L_law_18 18 rfl
theorem d_L_law_1215 : decode code 1215 = .ok (.istore 6, 2) := dr_dd nD_L_law_18 19 rfl
theorem d_L_law_1217 : decode code 1217 = .ok (.aload_n 2, 1) := dr_dd nD_L_law_18 20 rfl
theorem d_L_law_1218 : decode code 1218 = .ok (.invokevirtual 93, 3) := dr_dd nD_L_law_18 21 rfl
theorem d_L_law_1221 : decode code 1221 = .ok (.iload 5, 2) := dr_dd nD_L_law_18 22 rfl
theorem d_L_law_1223 : decode code 1223 = .ok (.if_icmp .eq 5, 3) := dr_dd nD_L_law_18 23 rfl
theorem d_L_law_1226 : decode code 1226 = .ok (.iconst 0, 1) := dr_dd nD_L_law_18 24 rfl
theorem d_L_law_1227 : decode code 1227 = .ok (.ireturn, 1) := dr_dd nD_L_law_18 25 rfl
theorem d_L_law_1228 : decode code 1228 = .ok (.iload 5, 2) := dr_dd nD_L_law_18 26 rfl
theorem d_L_law_1230 : decode code 1230 = .ok (.ifCond .ne 15, 3) := dr_dd nD_L_law_18 27 rfl
theorem d_L_law_1233 : decode code 1233 = .ok (.aload_n 3, 1) := dr_dd nD_L_law_18 28 rfl
theorem d_L_law_1234 : decode code 1234 = .ok (.iconst 0, 1) := dr_dd nD_L_law_18 29 rfl
theorem d_L_law_1235 : decode code 1235 = .ok (.laload, 1) := dr_dd nD_L_law_18 30 rfl
theorem d_L_law_1236 : decode code 1236 = .ok (.iload 6, 2) := dr_dd nD_L_law_18 31 rfl
theorem d_L_law_1238 : decode code 1238 = .ok (.i2l, 1) := dr_dd nD_L_law_18 32 rfl
theorem d_L_law_1239 : decode code 1239 = .ok (.lcmp, 1) := dr_dd nD_L_law_18 33 rfl
theorem d_L_law_1240 : decode code 1240 = .ok (.ifCond .eq 5, 3) := dr_dd nD_L_law_18 34 rfl
theorem d_L_law_1243 : decode code 1243 = .ok (.iconst 0, 1) := dr_dd nD_L_law_18 35 rfl
theorem d_L_law_1244 : decode code 1244 = .ok (.ireturn, 1) := dr_dd nD_L_law_18 36 rfl
theorem d_L_law_1245 : decode code 1245 = .ok (.goto 71, 3) := dr_dd nD_L_law_18 37 rfl
theorem d_L_law_1248 : decode code 1248 = .ok (.aload_n 1, 1) := dr_dd nD_L_law_18 38 rfl
theorem d_L_law_1249 : decode code 1249 = .ok (.aload_n 0, 1) := dr_dd nD_L_law_18 39 rfl
abbrev nL_L_law_19 : List (Nat × Instr × Nat) := [(1250, .iload 4, 2), (1252, .iconst 1, 1), (1253, .iadd, 1), (1254, .iaload, 1), (1255, .aload_n 0, 1), (1256, .iload 4, 2), (1258, .iconst 2, 1), (1259, .iadd, 1), (1260, .iaload, 1), (1261, .aload_n 3, 1), (1262, .invokestatic 154, 3), (1265, .istore 5, 2), (1267, .aload_n 2, 1), (1268, .aload_n 0, 1), (1269, .iload 4, 2), (1271, .iconst 1, 1), (1272, .iadd, 1), (1273, .iaload, 1), (1274, .aload_n 0, 1), (1275, .iload 4, 2), (1277, .iconst 2, 1), (1278, .iadd, 1), (1279, .iaload, 1), (1280, .invokevirtual 156, 3), (1283, .istore 6, 2), (1285, .aload_n 2, 1), (1286, .invokevirtual 93, 3), (1289, .iload 5, 2), (1291, .if_icmp .eq 5, 3), (1294, .iconst 0, 1), (1295, .ireturn, 1), (1296, .iload 5, 2), (1298, .ifCond .ne 15, 3), (1301, .aload_n 3, 1), (1302, .iconst 0, 1), (1303, .laload, 1), (1304, .iload 6, 2), (1306, .i2l, 1), (1307, .lcmp, 1), (1308, .ifCond .eq 5, 3)]
theorem nD_L_law_19 : ∀ q ∈ nL_L_law_19, decode code q.1 = .ok (q.2.1, q.2.2) := by decide +kernel
theorem d_L_law_1250 : decode code 1250 = .ok (.iload 4, 2) := dr_dd nD_L_law_19 0 rfl
theorem d_L_law_1252 : decode code 1252 = .ok (.iconst 1, 1) := dr_dd nD_L_law_19 1 rfl
theorem d_L_law_1253 : decode code 1253 = .ok (.iadd, 1) := dr_dd nD_L_law_19 2 rfl
theorem d_L_law_1254 : decode code 1254 = .ok (.iaload, 1) := dr_dd nD_L_law_19 3 rfl
theorem d_L_law_1255 : decode code 1255 = .ok (.aload_n 0, 1) := dr_dd nD_L_law_19 4 rfl
theorem d_L_law_1256 : decode code 1256 = .ok (.iload 4, 2) := dr_dd nD_L_law_19 5 rfl
theorem d_L_law_1258 : decode code 1258 = .ok (.iconst 2, 1) := dr_dd nD_L_law_19 6 rfl
theorem d_L_law_1259 : decode code 1259 = .ok (.iadd, 1) := dr_dd nD_L_law_19 7 rfl
theorem d_L_law_1260 : decode code 1260 = .ok (.iaload, 1) := dr_dd nD_L_law_19 8 rfl
theorem d_L_law_1261 : decode code 1261 = .ok (.aload_n 3, 1) := dr_dd nD_L_law_19 9 rfl
theorem d_L_law_1262 : decode code 1262 = .ok (.invokestatic 154, 3) := dr_dd nD_L_law_19 10 rfl
theorem d_L_law_1265 : decode code 1265 = .ok (.istore 5, 2) := dr_dd nD_L_law_19 11 rfl
theorem d_L_law_1267 : decode code 1267 = .ok (.aload_n 2, 1) := dr_dd nD_L_law_19 12 rfl
theorem d_L_law_1268 : decode code 1268 = .ok (.aload_n 0, 1) := dr_dd nD_L_law_19 13 rfl
theorem d_L_law_1269 : decode code 1269 = .ok (.iload 4, 2) := dr_dd nD_L_law_19 14 rfl
theorem d_L_law_1271 : decode code 1271 = .ok (.iconst 1, 1) := dr_dd nD_L_law_19 15 rfl
theorem d_L_law_1272 : decode code 1272 = .ok (.iadd, 1) := dr_dd nD_L_law_19 16 rfl
theorem d_L_law_1273 : decode code 1273 = .ok (.iaload, 1) := dr_dd nD_L_law_19 17 rfl
theorem d_L_law_1274 : decode code 1274 = .ok (.aload_n 0, 1) := dr_dd nD_L_law_19 18 rfl
theorem d_L_law_1275 : decode code 1275 = .ok (.iload 4, 2) := dr_dd nD_L_law_19 19 rfl
theorem d_L_law_1277 : decode code 1277 = .ok (.iconst 2, 1) := dr_dd nD_L_law_19 20 rfl
theorem d_L_law_1278 : decode code 1278 = .ok (.iadd, 1) := dr_dd nD_L_law_19 21 rfl
theorem d_L_law_1279 : decode code 1279 = .ok (.iaload, 1) := dr_dd nD_L_law_19 22 rfl
theorem d_L_law_1280 : decode code 1280 = .ok (.invokevirtual 156, 3) := dr_dd nD_L_law_19 23 rfl
theorem d_L_law_1283 : decode code 1283 = .ok (.istore 6, 2) := dr_dd nD_L_law_19 24 rfl
theorem d_L_law_1285 : decode code 1285 = .ok (.aload_n 2, 1) := dr_dd nD_L_law_19 25 rfl
theorem d_L_law_1286 : decode code 1286 = .ok (.invokevirtual 93, 3) := dr_dd nD_L_law_19 26 rfl
theorem d_L_law_1289 : decode code 1289 = .ok (.iload 5, 2) := dr_dd nD_L_law_19 27 rfl
theorem d_L_law_1291 : decode code 1291 = .ok (.if_icmp .eq 5, 3) := dr_dd nD_L_law_19 28 rfl
theorem d_L_law_1294 : decode code 1294 = .ok (.iconst 0, 1) := dr_dd nD_L_law_19 29 rfl
theorem d_L_law_1295 : decode code 1295 = .ok (.ireturn, 1) := dr_dd nD_L_law_19 30 rfl
theorem d_L_law_1296 : decode code 1296 = .ok (.iload 5, 2) := dr_dd nD_L_law_19 31 rfl
theorem d_L_law_1298 : decode code 1298 = .ok (.ifCond .ne 15, 3) := dr_dd nD_L_law_19 32 rfl
theorem d_L_law_1301 : decode code 1301 = .ok (.aload_n 3, 1) := dr_dd nD_L_law_19 33 rfl
theorem d_L_law_1302 : decode code 1302 = .ok (.iconst 0, 1) := dr_dd nD_L_law_19 34 rfl
theorem d_L_law_1303 : decode code 1303 = .ok (.laload, 1) := dr_dd nD_L_law_19 35 rfl
theorem d_L_law_1304 : decode code 1304 = .ok (.iload 6, 2) := dr_dd nD_L_law_19 36 rfl
theorem d_L_law_1306 : decode code 1306 = .ok (.i2l, 1) := dr_dd nD_L_law_19 37 rfl
theorem d_L_law_1307 : decode code 1307 = .ok (.lcmp, 1) := dr_dd nD_L_law_19 38 rfl
theorem d_L_law_1308 : decode code 1308 = .ok (.ifCond .eq 5, 3) := dr_dd nD_L_law_19 39 rfl
abbrev nL_L_law_20 : List (Nat × Instr × Nat) := [(1311, .iconst 0, 1), (1312, .ireturn, 1), (1313, .goto 3, 3), (1316, .iinc 4 4, 3), (1319, .goto (-1296), 3), (1322, .iconst 1, 1), (1323, .ireturn, 1)]
theorem nD_L_law_20 : ∀ q ∈ nL_L_law_20, decode code q.1 = .ok (q.2.1, q.2.2) := by decide +kernel
theorem d_L_law_1311 : decode code 1311 = .ok (.iconst 0, 1) := dr_dd nD_L_law_20 0 rfl
theorem d_L_law_1312 : decode code 1312 = .ok (.ireturn, 1) := dr_dd nD_L_law_20 1 rfl
theorem d_L_law_1313 : decode code 1313 = .ok (.goto 3, 3) := dr_dd nD_L_law_20 2 rfl
theorem d_L_law_1316 : decode code 1316 = .ok (.iinc 4 4, 3) := dr_dd nD_L_law_20 3 rfl
theorem d_L_law_1319 : decode code 1319 = .ok (.goto (-1296), 3) := dr_dd nD_L_law_20 4 rfl
theorem d_L_law_1322 : decode code 1322 = .ok (.iconst 1, 1) := dr_dd nD_L_law_20 5 rfl
theorem d_L_law_1323 : decode code 1323 = .ok (.ireturn, 1) := dr_dd nD_L_law_20 6 rfl
