theorem xr_1_0 : X_row 1 0 = some (0, (.aload_n 0, 1), (0, 0, 0)) := by decide +kernel
theorem xr_1_1 : X_row 1 1 = some (1, (.iconst 0, 1), (0, 0, 0)) := by decide +kernel
theorem xr_1_2 : X_row 1 2 = some (2, (.putfield 35, 3), (0, 0, 18)) := by decide +kernel
theorem xr_1_5 : X_row 1 5 = some (5, (.aload_n 0, 1), (0, 0, 0)) := by decide +kernel
theorem xr_1_6 : X_row 1 6 = some (6, (.iconst 1, 1), (0, 0, 0)) := by decide +kernel
theorem xr_1_7 : X_row 1 7 = some (7, (.putfield 39, 3), (0, 1, 20)) := by decide +kernel
theorem xr_1_10 : X_row 1 10 = some (10, (.aload_n 0, 1), (0, 0, 0)) := by decide +kernel
theorem xr_1_11 : X_row 1 11 = some (11, (.iconst 0, 1), (0, 0, 0)) := by decide +kernel
theorem xr_1_12 : X_row 1 12 = some (12, (.putfield 42, 3), (0, 2, 22)) := by decide +kernel
theorem xr_1_15 : X_row 1 15 = some (15, (.aload_n 0, 1), (0, 0, 0)) := by decide +kernel
theorem xr_1_16 : X_row 1 16 = some (16, (.getfield 19, 3), (0, 5, 28)) := by decide +kernel
theorem xr_1_19 : X_row 1 19 = some (19, (.iconst 0, 1), (0, 0, 0)) := by decide +kernel
theorem xr_1_20 : X_row 1 20 = some (20, (.ldc2_w 45, 3), (6384748, 224, 0)) := by decide +kernel
theorem xr_1_23 : X_row 1 23 = some (23, (.lastore, 1), (0, 0, 0)) := by decide +kernel
theorem xr_1_24 : X_row 1 24 = some (24, (.aload_n 0, 1), (0, 0, 0)) := by decide +kernel
theorem xr_1_25 : X_row 1 25 = some (25, (.getfield 22, 3), (0, 6, 30)) := by decide +kernel
theorem xr_1_28 : X_row 1 28 = some (28, (.iconst 0, 1), (0, 0, 0)) := by decide +kernel
theorem xr_1_29 : X_row 1 29 = some (29, (.iconst 1, 1), (0, 0, 0)) := by decide +kernel
theorem xr_1_30 : X_row 1 30 = some (30, (.iastore, 1), (0, 0, 0)) := by decide +kernel
theorem xr_1_31 : X_row 1 31 = some (31, (.return_, 1), (0, 0, 0)) := by decide +kernel
theorem xr_2_0 : X_row 2 0 = some (0, (.iload_n 1, 1), (0, 0, 0)) := by decide +kernel
theorem xr_2_1 : X_row 2 1 = some (1, (.ifCond .lt 15, 3), (0, 0, 0)) := by decide +kernel
theorem xr_2_4 : X_row 2 4 = some (4, (.iload_n 1, 1), (0, 0, 0)) := by decide +kernel
theorem xr_2_5 : X_row 2 5 = some (5, (.aload_n 0, 1), (0, 0, 0)) := by decide +kernel
theorem xr_2_6 : X_row 2 6 = some (6, (.getfield 35, 3), (0, 0, 18)) := by decide +kernel
theorem xr_2_9 : X_row 2 9 = some (9, (.if_icmp .ge 7, 3), (0, 0, 0)) := by decide +kernel
theorem xr_2_12 : X_row 2 12 = some (12, (.iconst 1, 1), (0, 0, 0)) := by decide +kernel
theorem xr_2_13 : X_row 2 13 = some (13, (.goto 4, 3), (0, 0, 0)) := by decide +kernel
theorem xr_2_16 : X_row 2 16 = some (16, (.iconst 0, 1), (0, 0, 0)) := by decide +kernel
theorem xr_2_17 : X_row 2 17 = some (17, (.ireturn, 1), (0, 0, 0)) := by decide +kernel
theorem xr_3_0 : X_row 3 0 = some (0, (.iload_n 1, 1), (0, 0, 0)) := by decide +kernel
theorem xr_3_1 : X_row 3 1 = some (1, (.ifCond .lt 15, 3), (0, 0, 0)) := by decide +kernel
theorem xr_3_4 : X_row 3 4 = some (4, (.iload_n 1, 1), (0, 0, 0)) := by decide +kernel
theorem xr_3_5 : X_row 3 5 = some (5, (.aload_n 0, 1), (0, 0, 0)) := by decide +kernel
theorem xr_3_6 : X_row 3 6 = some (6, (.getfield 39, 3), (0, 1, 20)) := by decide +kernel
theorem xr_3_9 : X_row 3 9 = some (9, (.if_icmp .ge 7, 3), (0, 0, 0)) := by decide +kernel
theorem xr_3_12 : X_row 3 12 = some (12, (.iconst 1, 1), (0, 0, 0)) := by decide +kernel
theorem xr_3_13 : X_row 3 13 = some (13, (.goto 4, 3), (0, 0, 0)) := by decide +kernel
theorem xr_3_16 : X_row 3 16 = some (16, (.iconst 0, 1), (0, 0, 0)) := by decide +kernel
theorem xr_3_17 : X_row 3 17 = some (17, (.ireturn, 1), (0, 0, 0)) := by decide +kernel
theorem xr_4_0 : X_row 4 0 = some (0, (.iload_n 1, 1), (0, 0, 0)) := by decide +kernel
theorem xr_4_1 : X_row 4 1 = some (1, (.ifCond .lt 15, 3), (0, 0, 0)) := by decide +kernel
theorem xr_4_4 : X_row 4 4 = some (4, (.iload_n 1, 1), (0, 0, 0)) := by decide +kernel
theorem xr_4_5 : X_row 4 5 = some (5, (.aload_n 0, 1), (0, 0, 0)) := by decide +kernel
theorem xr_4_6 : X_row 4 6 = some (6, (.getfield 42, 3), (0, 2, 22)) := by decide +kernel
theorem xr_4_9 : X_row 4 9 = some (9, (.if_icmp .ge 7, 3), (0, 0, 0)) := by decide +kernel
theorem xr_4_12 : X_row 4 12 = some (12, (.iconst 1, 1), (0, 0, 0)) := by decide +kernel
theorem xr_4_13 : X_row 4 13 = some (13, (.goto 4, 3), (0, 0, 0)) := by decide +kernel
theorem xr_4_16 : X_row 4 16 = some (16, (.iconst 0, 1), (0, 0, 0)) := by decide +kernel
theorem xr_4_17 : X_row 4 17 = some (17, (.ireturn, 1), (0, 0, 0)) := by decide +kernel
theorem xr_5_0 : X_row 5 0 = some (0, (.aload_n 0, 1), (0, 0, 0)) := by decide +kernel
theorem xr_5_1 : X_row 5 1 = some (1, (.getfield 9, 3), (0, 3, 24)) := by decide +kernel
theorem xr_5_4 : X_row 5 4 = some (4, (.aload_n 0, 1), (0, 0, 0)) := by decide +kernel
theorem xr_5_5 : X_row 5 5 = some (5, (.getfield 35, 3), (0, 0, 18)) := by decide +kernel
theorem xr_5_8 : X_row 5 8 = some (8, (.lload_n 1, 1), (0, 0, 0)) := by decide +kernel
theorem xr_5_9 : X_row 5 9 = some (9, (.invokestatic 47, 3), (7, 4, 0)) := by decide +kernel
theorem xr_5_12 : X_row 5 12 = some (12, (.ireturn, 1), (0, 0, 0)) := by decide +kernel
theorem xr_6_0 : X_row 6 0 = some (0, (.aload_n 0, 1), (0, 0, 0)) := by decide +kernel
theorem xr_6_1 : X_row 6 1 = some (1, (.getfield 19, 3), (0, 5, 28)) := by decide +kernel
theorem xr_6_4 : X_row 6 4 = some (4, (.aload_n 0, 1), (0, 0, 0)) := by decide +kernel
theorem xr_6_5 : X_row 6 5 = some (5, (.getfield 39, 3), (0, 1, 20)) := by decide +kernel
theorem xr_6_8 : X_row 6 8 = some (8, (.lload_n 1, 1), (0, 0, 0)) := by decide +kernel
theorem xr_6_9 : X_row 6 9 = some (9, (.invokestatic 47, 3), (7, 4, 0)) := by decide +kernel
theorem xr_6_12 : X_row 6 12 = some (12, (.ireturn, 1), (0, 0, 0)) := by decide +kernel
theorem xr_7_0 : X_row 7 0 = some (0, (.iconst 0, 1), (0, 0, 0)) := by decide +kernel
theorem xr_7_1 : X_row 7 1 = some (1, (.istore 4, 2), (0, 0, 0)) := by decide +kernel
theorem xr_7_3 : X_row 7 3 = some (3, (.iload 4, 2), (0, 0, 0)) := by decide +kernel
theorem xr_7_5 : X_row 7 5 = some (5, (.iload_n 1, 1), (0, 0, 0)) := by decide +kernel
theorem xr_7_6 : X_row 7 6 = some (6, (.if_icmp .ge 21, 3), (0, 0, 0)) := by decide +kernel
theorem xr_7_9 : X_row 7 9 = some (9, (.aload_n 0, 1), (0, 0, 0)) := by decide +kernel
theorem xr_7_10 : X_row 7 10 = some (10, (.iload 4, 2), (0, 0, 0)) := by decide +kernel
theorem xr_7_12 : X_row 7 12 = some (12, (.laload, 1), (0, 0, 0)) := by decide +kernel
theorem xr_7_13 : X_row 7 13 = some (13, (.lload_n 2, 1), (0, 0, 0)) := by decide +kernel
theorem xr_7_14 : X_row 7 14 = some (14, (.lcmp, 1), (0, 0, 0)) := by decide +kernel
theorem xr_7_15 : X_row 7 15 = some (15, (.ifCond .ne 6, 3), (0, 0, 0)) := by decide +kernel
theorem xr_7_18 : X_row 7 18 = some (18, (.iload 4, 2), (0, 0, 0)) := by decide +kernel
theorem xr_7_20 : X_row 7 20 = some (20, (.ireturn, 1), (0, 0, 0)) := by decide +kernel
theorem xr_7_21 : X_row 7 21 = some (21, (.iinc 4 1, 3), (0, 0, 0)) := by decide +kernel
theorem xr_7_24 : X_row 7 24 = some (24, (.goto (-21), 3), (0, 0, 0)) := by decide +kernel
theorem xr_7_27 : X_row 7 27 = some (27, (.iconst (-1), 1), (0, 0, 0)) := by decide +kernel
theorem xr_7_28 : X_row 7 28 = some (28, (.ireturn, 1), (0, 0, 0)) := by decide +kernel
theorem xr_8_0 : X_row 8 0 = some (0, (.aload_n 0, 1), (0, 0, 0)) := by decide +kernel
theorem xr_8_1 : X_row 8 1 = some (1, (.getfield 35, 3), (0, 0, 18)) := by decide +kernel
theorem xr_8_4 : X_row 8 4 = some (4, (.bipush 12, 2), (0, 0, 0)) := by decide +kernel
theorem xr_8_6 : X_row 8 6 = some (6, (.if_icmp .ge 33, 3), (0, 0, 0)) := by decide +kernel
theorem xr_8_9 : X_row 8 9 = some (9, (.aload_n 0, 1), (0, 0, 0)) := by decide +kernel
theorem xr_8_10 : X_row 8 10 = some (10, (.getfield 9, 3), (0, 3, 24)) := by decide +kernel
theorem xr_8_13 : X_row 8 13 = some (13, (.aload_n 0, 1), (0, 0, 0)) := by decide +kernel
theorem xr_8_14 : X_row 8 14 = some (14, (.getfield 35, 3), (0, 0, 18)) := by decide +kernel
theorem xr_8_17 : X_row 8 17 = some (17, (.lload_n 1, 1), (0, 0, 0)) := by decide +kernel
theorem xr_8_18 : X_row 8 18 = some (18, (.lastore, 1), (0, 0, 0)) := by decide +kernel
theorem xr_8_19 : X_row 8 19 = some (19, (.aload_n 0, 1), (0, 0, 0)) := by decide +kernel
theorem xr_8_20 : X_row 8 20 = some (20, (.getfield 15, 3), (0, 4, 26)) := by decide +kernel
theorem xr_8_23 : X_row 8 23 = some (23, (.aload_n 0, 1), (0, 0, 0)) := by decide +kernel
theorem xr_8_24 : X_row 8 24 = some (24, (.getfield 35, 3), (0, 0, 18)) := by decide +kernel
theorem xr_8_27 : X_row 8 27 = some (27, (.iconst 0, 1), (0, 0, 0)) := by decide +kernel
theorem xr_8_28 : X_row 8 28 = some (28, (.iastore, 1), (0, 0, 0)) := by decide +kernel
theorem xr_8_29 : X_row 8 29 = some (29, (.aload_n 0, 1), (0, 0, 0)) := by decide +kernel
theorem xr_8_30 : X_row 8 30 = some (30, (.dup, 1), (0, 0, 0)) := by decide +kernel
theorem xr_8_31 : X_row 8 31 = some (31, (.getfield 35, 3), (0, 0, 18)) := by decide +kernel
theorem xr_8_34 : X_row 8 34 = some (34, (.iconst 1, 1), (0, 0, 0)) := by decide +kernel
theorem xr_8_35 : X_row 8 35 = some (35, (.iadd, 1), (0, 0, 0)) := by decide +kernel
theorem xr_8_36 : X_row 8 36 = some (36, (.putfield 35, 3), (0, 0, 18)) := by decide +kernel
theorem xr_8_39 : X_row 8 39 = some (39, (.return_, 1), (0, 0, 0)) := by decide +kernel
theorem xr_9_0 : X_row 9 0 = some (0, (.aload_n 0, 1), (0, 0, 0)) := by decide +kernel
theorem xr_9_1 : X_row 9 1 = some (1, (.getfield 39, 3), (0, 1, 20)) := by decide +kernel
theorem xr_9_4 : X_row 9 4 = some (4, (.bipush 11, 2), (0, 0, 0)) := by decide +kernel
theorem xr_9_6 : X_row 9 6 = some (6, (.if_icmp .ge 53, 3), (0, 0, 0)) := by decide +kernel
theorem xr_9_9 : X_row 9 9 = some (9, (.aload_n 0, 1), (0, 0, 0)) := by decide +kernel
theorem xr_9_10 : X_row 9 10 = some (10, (.iload_n 3, 1), (0, 0, 0)) := by decide +kernel
theorem xr_9_11 : X_row 9 11 = some (11, (.invokevirtual 51, 3), (3, 10, 0)) := by decide +kernel
theorem xr_9_14 : X_row 9 14 = some (14, (.ifCond .eq 45, 3), (0, 0, 0)) := by decide +kernel
theorem xr_9_17 : X_row 9 17 = some (17, (.aload_n 0, 1), (0, 0, 0)) := by decide +kernel
theorem xr_9_18 : X_row 9 18 = some (18, (.getfield 19, 3), (0, 5, 28)) := by decide +kernel
theorem xr_9_21 : X_row 9 21 = some (21, (.aload_n 0, 1), (0, 0, 0)) := by decide +kernel
theorem xr_9_22 : X_row 9 22 = some (22, (.getfield 39, 3), (0, 1, 20)) := by decide +kernel
theorem xr_9_25 : X_row 9 25 = some (25, (.lload_n 1, 1), (0, 0, 0)) := by decide +kernel
theorem xr_9_26 : X_row 9 26 = some (26, (.lastore, 1), (0, 0, 0)) := by decide +kernel
theorem xr_9_27 : X_row 9 27 = some (27, (.aload_n 0, 1), (0, 0, 0)) := by decide +kernel
theorem xr_9_28 : X_row 9 28 = some (28, (.getfield 22, 3), (0, 6, 30)) := by decide +kernel
theorem xr_9_31 : X_row 9 31 = some (31, (.aload_n 0, 1), (0, 0, 0)) := by decide +kernel
theorem xr_9_32 : X_row 9 32 = some (32, (.getfield 39, 3), (0, 1, 20)) := by decide +kernel
theorem xr_9_35 : X_row 9 35 = some (35, (.aload_n 0, 1), (0, 0, 0)) := by decide +kernel
theorem xr_9_36 : X_row 9 36 = some (36, (.getfield 22, 3), (0, 6, 30)) := by decide +kernel
theorem xr_9_39 : X_row 9 39 = some (39, (.iload_n 3, 1), (0, 0, 0)) := by decide +kernel
theorem xr_9_40 : X_row 9 40 = some (40, (.iaload, 1), (0, 0, 0)) := by decide +kernel
theorem xr_9_41 : X_row 9 41 = some (41, (.iconst 1, 1), (0, 0, 0)) := by decide +kernel
theorem xr_9_42 : X_row 9 42 = some (42, (.aload_n 0, 1), (0, 0, 0)) := by decide +kernel
theorem xr_9_43 : X_row 9 43 = some (43, (.getfield 39, 3), (0, 1, 20)) := by decide +kernel
theorem xr_9_46 : X_row 9 46 = some (46, (.ishl, 1), (0, 0, 0)) := by decide +kernel
theorem xr_9_47 : X_row 9 47 = some (47, (.ior, 1), (0, 0, 0)) := by decide +kernel
theorem xr_9_48 : X_row 9 48 = some (48, (.iastore, 1), (0, 0, 0)) := by decide +kernel
theorem xr_9_49 : X_row 9 49 = some (49, (.aload_n 0, 1), (0, 0, 0)) := by decide +kernel
theorem xr_9_50 : X_row 9 50 = some (50, (.dup, 1), (0, 0, 0)) := by decide +kernel
theorem xr_9_51 : X_row 9 51 = some (51, (.getfield 39, 3), (0, 1, 20)) := by decide +kernel
theorem xr_9_54 : X_row 9 54 = some (54, (.iconst 1, 1), (0, 0, 0)) := by decide +kernel
theorem xr_9_55 : X_row 9 55 = some (55, (.iadd, 1), (0, 0, 0)) := by decide +kernel
theorem xr_9_56 : X_row 9 56 = some (56, (.putfield 39, 3), (0, 1, 20)) := by decide +kernel
theorem xr_9_59 : X_row 9 59 = some (59, (.return_, 1), (0, 0, 0)) := by decide +kernel
theorem xr_11_0 : X_row 11 0 = some (0, (.aload_n 0, 1), (0, 0, 0)) := by decide +kernel
theorem xr_11_1 : X_row 11 1 = some (1, (.getfield 15, 3), (0, 4, 26)) := by decide +kernel
theorem xr_11_4 : X_row 11 4 = some (4, (.iload_n 1, 1), (0, 0, 0)) := by decide +kernel
theorem xr_11_5 : X_row 11 5 = some (5, (.iaload, 1), (0, 0, 0)) := by decide +kernel
theorem xr_11_6 : X_row 11 6 = some (6, (.iload_n 2, 1), (0, 0, 0)) := by decide +kernel
theorem xr_11_7 : X_row 11 7 = some (7, (.invokestatic 59, 3), (131, 7, 0)) := by decide +kernel
theorem xr_11_10 : X_row 11 10 = some (10, (.ireturn, 1), (0, 0, 0)) := by decide +kernel
theorem xr_12_0 : X_row 12 0 = some (0, (.aload_n 0, 1), (0, 0, 0)) := by decide +kernel
theorem xr_12_1 : X_row 12 1 = some (1, (.getfield 22, 3), (0, 6, 30)) := by decide +kernel
theorem xr_12_4 : X_row 12 4 = some (4, (.iload_n 1, 1), (0, 0, 0)) := by decide +kernel
theorem xr_12_5 : X_row 12 5 = some (5, (.iaload, 1), (0, 0, 0)) := by decide +kernel
theorem xr_12_6 : X_row 12 6 = some (6, (.iload_n 2, 1), (0, 0, 0)) := by decide +kernel
theorem xr_12_7 : X_row 12 7 = some (7, (.invokestatic 59, 3), (131, 7, 0)) := by decide +kernel
theorem xr_12_10 : X_row 12 10 = some (10, (.ireturn, 1), (0, 0, 0)) := by decide +kernel
theorem xr_13_0 : X_row 13 0 = some (0, (.aload_n 0, 1), (0, 0, 0)) := by decide +kernel
theorem xr_13_1 : X_row 13 1 = some (1, (.getfield 39, 3), (0, 1, 20)) := by decide +kernel
theorem xr_13_4 : X_row 13 4 = some (4, (.iconst 1, 1), (0, 0, 0)) := by decide +kernel
theorem xr_13_5 : X_row 13 5 = some (5, (.if_icmp .le 7, 3), (0, 0, 0)) := by decide +kernel
theorem xr_13_8 : X_row 13 8 = some (8, (.iconst 1, 1), (0, 0, 0)) := by decide +kernel
theorem xr_13_9 : X_row 13 9 = some (9, (.goto 4, 3), (0, 0, 0)) := by decide +kernel
theorem xr_13_12 : X_row 13 12 = some (12, (.iconst 0, 1), (0, 0, 0)) := by decide +kernel
theorem xr_13_13 : X_row 13 13 = some (13, (.ireturn, 1), (0, 0, 0)) := by decide +kernel
theorem xn_1 : X_nL 1 = 1 := by decide +kernel
theorem xf_1 : X_na 1 = 0 ∧ X_ci 1 = 0 ∧ X_rt 1 = none := by decide +kernel
theorem xn_2 : X_nL 2 = 2 := by decide +kernel
theorem xf_2 : X_na 2 = 1 ∧ X_ci 2 = 0 ∧ X_rt 2 = (some .boolean) := by decide +kernel
theorem xn_3 : X_nL 3 = 2 := by decide +kernel
theorem xf_3 : X_na 3 = 1 ∧ X_ci 3 = 0 ∧ X_rt 3 = (some .boolean) := by decide +kernel
theorem xn_4 : X_nL 4 = 2 := by decide +kernel
theorem xf_4 : X_na 4 = 1 ∧ X_ci 4 = 0 ∧ X_rt 4 = (some .boolean) := by decide +kernel
theorem xn_5 : X_nL 5 = 3 := by decide +kernel
theorem xf_5 : X_na 5 = 1 ∧ X_ci 5 = 0 ∧ X_rt 5 = (some .int) := by decide +kernel
theorem xn_6 : X_nL 6 = 3 := by decide +kernel
theorem xf_6 : X_na 6 = 1 ∧ X_ci 6 = 0 ∧ X_rt 6 = (some .int) := by decide +kernel
theorem xn_7 : X_nL 7 = 5 := by decide +kernel
theorem xf_7 : X_na 7 = 3 ∧ X_ci 7 = 0 ∧ X_rt 7 = (some .int) := by decide +kernel
theorem xn_8 : X_nL 8 = 3 := by decide +kernel
theorem xf_8 : X_na 8 = 1 ∧ X_ci 8 = 0 ∧ X_rt 8 = none := by decide +kernel
theorem xn_9 : X_nL 9 = 4 := by decide +kernel
theorem xf_9 : X_na 9 = 2 ∧ X_ci 9 = 0 ∧ X_rt 9 = none := by decide +kernel
theorem xn_11 : X_nL 11 = 3 := by decide +kernel
theorem xf_11 : X_na 11 = 2 ∧ X_ci 11 = 0 ∧ X_rt 11 = (some .boolean) := by decide +kernel
theorem xn_12 : X_nL 12 = 3 := by decide +kernel
theorem xf_12 : X_na 12 = 2 ∧ X_ci 12 = 0 ∧ X_rt 12 = (some .boolean) := by decide +kernel
theorem xn_13 : X_nL 13 = 1 := by decide +kernel
theorem xf_13 : X_na 13 = 0 ∧ X_ci 13 = 0 ∧ X_rt 13 = (some .int) := by decide +kernel
theorem X_Ix_r {g : Int → Int64} {n : Int} {x : Int64} {r : Int} (hn : 0 ≤ n) (h : X_Ix g n x r) : -1 ≤ r ∧ r < n := by
  rcases h with ⟨h1, h2, -⟩ | ⟨h1, -⟩ <;> omega
theorem c_hasRank (sc : X_Sc) (S : X_S) (B : Nat) (rc kc wc : Int) (rn : Int → Int64) (lo : Int → Int) (kn : Int → Int64) (ab : Int → Int) (n : Int) (hb : C_bk S B rc kc wc rn lo kn ab) (hn : -2147483648 ≤ n ∧ n ≤ 2147483647) : X_T sc 2 (0, [(0, .ref B), (1, .int (iI n))], [], S) (fun v S' => v = some (.int (iI (bI (0 ≤ n ∧ n < rc)))) ∧ S' = S) := by
  obtain ⟨hb0, hb1, hb2, hb3, hb4, ⟨f, hb5, hf⟩, ⟨hrc, hrcb⟩, ⟨hkc, hkcb⟩, ⟨hwc, hwcb⟩⟩ := id hb
  refine X_QI (fun Q hQ => ?_)
  refine T_p xr_2_0 xn_2 (pc' := 1) (ls' := [(0, .ref B), (1, .int (iI n))]) (st' := [.int (iI n)]) rfl ?_
  refine T_zif_lt xr_2_1 (t := 16) (pc' := 4) rfl rfl (fun c158 => ?_) (fun c158 => ?_)
  · skip
    have c158 : n < 0 := c158
    refine T_p xr_2_16 xn_2 (pc' := 17) (ls' := [(0, .ref B), (1, .int (iI n))]) (st' := [.int (iI 0)]) rfl ?_
    refine T_iret xr_2_17 xf_2.2.2 (by decide) ?_
    refine hQ _ _ ?_
    exact ⟨by rw [bI_f (by omega)], rfl⟩
  · skip
    have c158 : ¬ (n < 0) := c158
    refine T_p xr_2_4 xn_2 (pc' := 5) (ls' := [(0, .ref B), (1, .int (iI n))]) (st' := [.int (iI n)]) rfl ?_
    refine T_p xr_2_5 xn_2 (pc' := 6) (ls' := [(0, .ref B), (1, .int (iI n))]) (st' := [.ref B, .int (iI n)]) rfl ?_
    refine T_get xr_2_6 hb0 rfl (v := .int (iI rc)) rfl (pc' := 9) rfl ?_
    refine T_zicmp_ge xr_2_9 (t := 16) (pc' := 12) rfl rfl (fun c159 => ?_) (fun c159 => ?_)
    · skip
      have c159 : rc ≤ n := c159
      refine T_p xr_2_16 xn_2 (pc' := 17) (ls' := [(0, .ref B), (1, .int (iI n))]) (st' := [.int (iI 0)]) rfl ?_
      refine T_iret xr_2_17 xf_2.2.2 (by decide) ?_
      refine hQ _ _ ?_
      exact ⟨by rw [bI_f (by omega)], rfl⟩
    · skip
      have c159 : ¬ (rc ≤ n) := c159
      refine T_p xr_2_12 xn_2 (pc' := 13) (ls' := [(0, .ref B), (1, .int (iI n))]) (st' := [.int (iI 1)]) rfl ?_
      refine T_p xr_2_13 xn_2 (pc' := 17) (ls' := [(0, .ref B), (1, .int (iI n))]) (st' := [.int (iI 1)]) rfl ?_
      refine T_iret xr_2_17 xf_2.2.2 (by decide) ?_
      refine hQ _ _ ?_
      exact ⟨by rw [bI_t (by omega)], rfl⟩
theorem c_hasKind (sc : X_Sc) (S : X_S) (B : Nat) (rc kc wc : Int) (rn : Int → Int64) (lo : Int → Int) (kn : Int → Int64) (ab : Int → Int) (n : Int) (hb : C_bk S B rc kc wc rn lo kn ab) (hn : -2147483648 ≤ n ∧ n ≤ 2147483647) : X_T sc 3 (0, [(0, .ref B), (1, .int (iI n))], [], S) (fun v S' => v = some (.int (iI (bI (0 ≤ n ∧ n < kc)))) ∧ S' = S) := by
  obtain ⟨hb0, hb1, hb2, hb3, hb4, ⟨f, hb5, hf⟩, ⟨hrc, hrcb⟩, ⟨hkc, hkcb⟩, ⟨hwc, hwcb⟩⟩ := id hb
  refine X_QI (fun Q hQ => ?_)
  refine T_p xr_3_0 xn_3 (pc' := 1) (ls' := [(0, .ref B), (1, .int (iI n))]) (st' := [.int (iI n)]) rfl ?_
  refine T_zif_lt xr_3_1 (t := 16) (pc' := 4) rfl rfl (fun c160 => ?_) (fun c160 => ?_)
  · skip
    have c160 : n < 0 := c160
    refine T_p xr_3_16 xn_3 (pc' := 17) (ls' := [(0, .ref B), (1, .int (iI n))]) (st' := [.int (iI 0)]) rfl ?_
    refine T_iret xr_3_17 xf_3.2.2 (by decide) ?_
    refine hQ _ _ ?_
    exact ⟨by rw [bI_f (by omega)], rfl⟩
  · skip
    have c160 : ¬ (n < 0) := c160
    refine T_p xr_3_4 xn_3 (pc' := 5) (ls' := [(0, .ref B), (1, .int (iI n))]) (st' := [.int (iI n)]) rfl ?_
    refine T_p xr_3_5 xn_3 (pc' := 6) (ls' := [(0, .ref B), (1, .int (iI n))]) (st' := [.ref B, .int (iI n)]) rfl ?_
    refine T_get xr_3_6 hb0 rfl (v := .int (iI kc)) rfl (pc' := 9) rfl ?_
    refine T_zicmp_ge xr_3_9 (t := 16) (pc' := 12) rfl rfl (fun c161 => ?_) (fun c161 => ?_)
    · skip
      have c161 : kc ≤ n := c161
      refine T_p xr_3_16 xn_3 (pc' := 17) (ls' := [(0, .ref B), (1, .int (iI n))]) (st' := [.int (iI 0)]) rfl ?_
      refine T_iret xr_3_17 xf_3.2.2 (by decide) ?_
      refine hQ _ _ ?_
      exact ⟨by rw [bI_f (by omega)], rfl⟩
    · skip
      have c161 : ¬ (kc ≤ n) := c161
      refine T_p xr_3_12 xn_3 (pc' := 13) (ls' := [(0, .ref B), (1, .int (iI n))]) (st' := [.int (iI 1)]) rfl ?_
      refine T_p xr_3_13 xn_3 (pc' := 17) (ls' := [(0, .ref B), (1, .int (iI n))]) (st' := [.int (iI 1)]) rfl ?_
      refine T_iret xr_3_17 xf_3.2.2 (by decide) ?_
      refine hQ _ _ ?_
      exact ⟨by rw [bI_t (by omega)], rfl⟩
theorem c_hasWord (sc : X_Sc) (S : X_S) (B : Nat) (rc kc wc : Int) (rn : Int → Int64) (lo : Int → Int) (kn : Int → Int64) (ab : Int → Int) (n : Int) (hb : C_bk S B rc kc wc rn lo kn ab) (hn : -2147483648 ≤ n ∧ n ≤ 2147483647) : X_T sc 4 (0, [(0, .ref B), (1, .int (iI n))], [], S) (fun v S' => v = some (.int (iI (bI (0 ≤ n ∧ n < wc)))) ∧ S' = S) := by
  obtain ⟨hb0, hb1, hb2, hb3, hb4, ⟨f, hb5, hf⟩, ⟨hrc, hrcb⟩, ⟨hkc, hkcb⟩, ⟨hwc, hwcb⟩⟩ := id hb
  refine X_QI (fun Q hQ => ?_)
  refine T_p xr_4_0 xn_4 (pc' := 1) (ls' := [(0, .ref B), (1, .int (iI n))]) (st' := [.int (iI n)]) rfl ?_
  refine T_zif_lt xr_4_1 (t := 16) (pc' := 4) rfl rfl (fun c162 => ?_) (fun c162 => ?_)
  · skip
    have c162 : n < 0 := c162
    refine T_p xr_4_16 xn_4 (pc' := 17) (ls' := [(0, .ref B), (1, .int (iI n))]) (st' := [.int (iI 0)]) rfl ?_
    refine T_iret xr_4_17 xf_4.2.2 (by decide) ?_
    refine hQ _ _ ?_
    exact ⟨by rw [bI_f (by omega)], rfl⟩
  · skip
    have c162 : ¬ (n < 0) := c162
    refine T_p xr_4_4 xn_4 (pc' := 5) (ls' := [(0, .ref B), (1, .int (iI n))]) (st' := [.int (iI n)]) rfl ?_
    refine T_p xr_4_5 xn_4 (pc' := 6) (ls' := [(0, .ref B), (1, .int (iI n))]) (st' := [.ref B, .int (iI n)]) rfl ?_
    refine T_get xr_4_6 hb0 rfl (v := .int (iI wc)) rfl (pc' := 9) rfl ?_
    refine T_zicmp_ge xr_4_9 (t := 16) (pc' := 12) rfl rfl (fun c163 => ?_) (fun c163 => ?_)
    · skip
      have c163 : wc ≤ n := c163
      refine T_p xr_4_16 xn_4 (pc' := 17) (ls' := [(0, .ref B), (1, .int (iI n))]) (st' := [.int (iI 0)]) rfl ?_
      refine T_iret xr_4_17 xf_4.2.2 (by decide) ?_
      refine hQ _ _ ?_
      exact ⟨by rw [bI_f (by omega)], rfl⟩
    · skip
      have c163 : ¬ (wc ≤ n) := c163
      refine T_p xr_4_12 xn_4 (pc' := 13) (ls' := [(0, .ref B), (1, .int (iI n))]) (st' := [.int (iI 1)]) rfl ?_
      refine T_p xr_4_13 xn_4 (pc' := 17) (ls' := [(0, .ref B), (1, .int (iI n))]) (st' := [.int (iI 1)]) rfl ?_
      refine T_iret xr_4_17 xf_4.2.2 (by decide) ?_
      refine hQ _ _ ?_
      exact ⟨by rw [bI_t (by omega)], rfl⟩
theorem c_indexOf (sc : X_Sc) (S : X_S) (a : Nat) (n : Int) (n0 : Nat) (g : Int → Int64) (t : Int64) (ha : S.1 a = .inl (.long, n0, .inr (.inl fun k : Nat => g (k : Int)))) (hn : 0 ≤ n ∧ n ≤ n0) (hn0 : n0 ≤ 12) : X_T sc 7 (0, [(0, .ref a), (1, .int (iI n)), (2, .long t)], [], S) (fun v S' => ∃ r, v = some (.int (iI r)) ∧ X_Ix g n t r ∧ S' = S) := by
  refine X_QI (fun Q hQ => ?_)
  refine T_p xr_7_0 xn_7 (pc' := 1) (ls' := [(0, .ref a), (1, .int (iI n)), (2, .long t)]) (st' := [.int (iI 0)]) rfl ?_
  refine T_p xr_7_1 xn_7 (pc' := 3) (ls' := [(4, .int (iI 0)), (0, .ref a), (1, .int (iI n)), (2, .long t)]) (st' := []) rfl ?_
  have L164 : ∀ (m166 : Nat) (i : Int) (hi : 0 ≤ i ∧ i ≤ n) (hno : ∀ k, 0 ≤ k → k < i → ¬ g k = t) (hm167 : n - i < m166), X_T sc 7 (3, [(4, .int (iI i)), (0, .ref a), (1, .int (iI n)), (2, .long t)], [], S) Q := by
    intro m166
    induction m166 with
    | zero =>
      intro i hi hno hm167
      exact (show False by omega).elim
    | succ m166 ih165 =>
      intro i hi hno hm167
      refine T_p xr_7_3 xn_7 (pc' := 5) (ls' := [(4, .int (iI i)), (0, .ref a), (1, .int (iI n)), (2, .long t)]) (st' := [.int (iI i)]) rfl ?_
      refine T_p xr_7_5 xn_7 (pc' := 6) (ls' := [(4, .int (iI i)), (0, .ref a), (1, .int (iI n)), (2, .long t)]) (st' := [.int (iI n), .int (iI i)]) rfl ?_
      refine T_zicmp_ge xr_7_6 (t := 27) (pc' := 9) rfl rfl (fun c169 => ?_) (fun c169 => ?_)
      · skip
        have c169 : n ≤ i := c169
        refine T_p xr_7_27 xn_7 (pc' := 28) (ls' := [(4, .int (iI i)), (0, .ref a), (1, .int (iI n)), (2, .long t)]) (st' := [.int (iI (-1))]) rfl ?_
        refine T_iret xr_7_28 xf_7.2.2 rfl ?_
        refine hQ _ _ ?_
        exact ⟨-1, rfl, Or.inr ⟨rfl, fun k h1 h2 => hno k h1 (by omega)⟩, rfl⟩
      · skip
        have c169 : ¬ (n ≤ i) := c169
        refine T_p xr_7_9 xn_7 (pc' := 10) (ls' := [(4, .int (iI i)), (0, .ref a), (1, .int (iI n)), (2, .long t)]) (st' := [.ref a]) rfl ?_
        refine T_p xr_7_10 xn_7 (pc' := 12) (ls' := [(4, .int (iI i)), (0, .ref a), (1, .int (iI n)), (2, .long t)]) (st' := [.int (iI i), .ref a]) rfl ?_
        refine T_zlald xr_7_12 ha (pc' := 13) rfl ?_
        refine T_p xr_7_13 xn_7 (pc' := 14) (ls' := [(4, .int (iI i)), (0, .ref a), (1, .int (iI n)), (2, .long t)]) (st' := [.long t, .long (g i)]) rfl ?_
        refine T_lc_ne xr_7_14 xr_7_15 (t := 21) (pc' := 18) rfl rfl (fun c170 => ?_) (fun c170 => ?_)
        · skip
          have c170 : ¬ (g i) = t := c170
          refine T_ziinc xr_7_21 xn_7 (a := i) (z := i + 1) rfl (Nat.le_of_ble_eq_true rfl) (by omega) (ls' := [(4, .int (iI (i + 1))), (0, .ref a), (1, .int (iI n)), (2, .long t)]) rfl (pc' := 24) rfl ?_
          refine T_p xr_7_24 xn_7 (pc' := 3) (ls' := [(4, .int (iI (i + 1))), (0, .ref a), (1, .int (iI n)), (2, .long t)]) (st' := []) rfl ?_
          exact ih165 (i + 1)  (by omega) (fun k h1 h2 => by
                by_cases hk : k = i
                · subst hk; assumption
                · exact hno k h1 (by omega)) (by omega)
        · skip
          have c170 : ¬ (¬ (g i) = t) := c170
          refine T_p xr_7_18 xn_7 (pc' := 20) (ls' := [(4, .int (iI i)), (0, .ref a), (1, .int (iI n)), (2, .long t)]) (st' := [.int (iI i)]) rfl ?_
          refine T_iret xr_7_20 xf_7.2.2 rfl ?_
          refine hQ _ _ ?_
          exact ⟨i, rfl, Or.inl ⟨by omega, by omega, by first | assumption | exact Classical.not_not.mp (by assumption), hno⟩, rfl⟩
  exact L164 (n + 1).toNat 0  (by omega) (fun k h1 h2 => (show False by omega).elim) (by omega)
theorem c_rankNamed (sc : X_Sc) (S : X_S) (B : Nat) (rc kc wc : Int) (rn : Int → Int64) (lo : Int → Int) (kn : Int → Int64) (ab : Int → Int) (t : Int64) (hb : C_bk S B rc kc wc rn lo kn ab)  : X_T sc 5 (0, [(0, .ref B), (1, .long t)], [], S) (fun v S' => ∃ r, v = some (.int (iI r)) ∧ X_Ix rn rc t r ∧ S' = S) := by
  obtain ⟨hb0, hb1, hb2, hb3, hb4, ⟨f, hb5, hf⟩, ⟨hrc, hrcb⟩, ⟨hkc, hkcb⟩, ⟨hwc, hwcb⟩⟩ := id hb
  refine X_QI (fun Q hQ => ?_)
  refine T_p xr_5_0 xn_5 (pc' := 1) (ls' := [(0, .ref B), (1, .long t)]) (st' := [.ref B]) rfl ?_
  refine T_get xr_5_1 hb0 rfl (v := .ref (B + 1)) rfl (pc' := 4) rfl ?_
  refine T_p xr_5_4 xn_5 (pc' := 5) (ls' := [(0, .ref B), (1, .long t)]) (st' := [.ref B, .ref (B + 1)]) rfl ?_
  refine T_get xr_5_5 hb0 rfl (v := .int (iI rc)) rfl (pc' := 8) rfl ?_
  refine T_p xr_5_8 xn_5 (pc' := 9) (ls' := [(0, .ref B), (1, .long t)]) (st' := [.long t, .int (iI rc), .ref (B + 1)]) rfl ?_
  refine T_cs xr_5_9 (by decide) xf_7.1 xn_7 (as := [.ref (B + 1), .int (iI rc), .long t]) (r := []) rfl (Nat.le_of_ble_eq_true rfl) (Nat.le_of_ble_eq_true rfl) (pc' := 12) rfl (ls' := [(0, .ref (B + 1)), (1, .int (iI rc)), (2, .long t)]) rfl ?_
  refine T_mono (c_indexOf sc S (B + 1) rc 12 rn t hb1 (by omega) (by omega)) (fun v171 S172 h173 => ?_)
  obtain ⟨r174, h175, hx176, h177⟩ := h173
  rw [h175, h177]
  have hr178 := X_Ix_r (by omega) hx176
  show X_T sc 5 (12, [(0, .ref B), (1, .long t)], [.int (iI r174)], S) _
  refine T_iret xr_5_12 xf_5.2.2 rfl ?_
  refine hQ _ _ ?_
  exact ⟨_, rfl, hx176, rfl⟩
theorem c_kindNamed (sc : X_Sc) (S : X_S) (B : Nat) (rc kc wc : Int) (rn : Int → Int64) (lo : Int → Int) (kn : Int → Int64) (ab : Int → Int) (t : Int64) (hb : C_bk S B rc kc wc rn lo kn ab)  : X_T sc 6 (0, [(0, .ref B), (1, .long t)], [], S) (fun v S' => ∃ r, v = some (.int (iI r)) ∧ X_Ix kn kc t r ∧ S' = S) := by
  obtain ⟨hb0, hb1, hb2, hb3, hb4, ⟨f, hb5, hf⟩, ⟨hrc, hrcb⟩, ⟨hkc, hkcb⟩, ⟨hwc, hwcb⟩⟩ := id hb
  refine X_QI (fun Q hQ => ?_)
  refine T_p xr_6_0 xn_6 (pc' := 1) (ls' := [(0, .ref B), (1, .long t)]) (st' := [.ref B]) rfl ?_
  refine T_get xr_6_1 hb0 rfl (v := .ref (B + 3)) rfl (pc' := 4) rfl ?_
  refine T_p xr_6_4 xn_6 (pc' := 5) (ls' := [(0, .ref B), (1, .long t)]) (st' := [.ref B, .ref (B + 3)]) rfl ?_
  refine T_get xr_6_5 hb0 rfl (v := .int (iI kc)) rfl (pc' := 8) rfl ?_
  refine T_p xr_6_8 xn_6 (pc' := 9) (ls' := [(0, .ref B), (1, .long t)]) (st' := [.long t, .int (iI kc), .ref (B + 3)]) rfl ?_
  refine T_cs xr_6_9 (by decide) xf_7.1 xn_7 (as := [.ref (B + 3), .int (iI kc), .long t]) (r := []) rfl (Nat.le_of_ble_eq_true rfl) (Nat.le_of_ble_eq_true rfl) (pc' := 12) rfl (ls' := [(0, .ref (B + 3)), (1, .int (iI kc)), (2, .long t)]) rfl ?_
  refine T_mono (c_indexOf sc S (B + 3) kc 11 kn t hb3 (by omega) (by omega)) (fun v179 S180 h181 => ?_)
  obtain ⟨r182, h183, hx184, h185⟩ := h181
  rw [h183, h185]
  have hr186 := X_Ix_r (by omega) hx184
  show X_T sc 6 (12, [(0, .ref B), (1, .long t)], [.int (iI r182)], S) _
  refine T_iret xr_6_12 xf_6.2.2 rfl ?_
  refine hQ _ _ ?_
  exact ⟨_, rfl, hx184, rfl⟩
theorem c_clearb (sc : X_Sc) (S : X_S) (B : Nat) (rc kc wc : Int) (rn : Int → Int64) (lo : Int → Int) (kn : Int → Int64) (ab : Int → Int)  (hb : C_bk S B rc kc wc rn lo kn ab)  : X_T sc 1 (0, [(0, .ref B)], [], S) (fun v S' => v = none ∧ C_bk S' B 0 1 0 rn lo (X_ug kn 0 (Int64.ofNat 6384748)) (X_ug ab 0 1) ∧ X_Fr (fun r => B ≤ r ∧ r ≤ B + 4) S S') := by
  obtain ⟨hb0, hb1, hb2, hb3, hb4, ⟨f, hb5, hf⟩, ⟨hrc, hrcb⟩, ⟨hkc, hkcb⟩, ⟨hwc, hwcb⟩⟩ := id hb
  refine X_QI (fun Q hQ => ?_)
  refine T_p xr_1_0 xn_1 (pc' := 1) (ls' := [(0, .ref B)]) (st' := [.ref B]) rfl ?_
  refine T_p xr_1_1 xn_1 (pc' := 2) (ls' := [(0, .ref B)]) (st' := [.int (iI 0), .ref B]) rfl ?_
  refine T_put xr_1_2 hb0 rfl (Nat.le_of_ble_eq_true rfl) rfl (fs' := [.int (iI 0), .int (iI kc), .int (iI wc), .ref (B + 1), .ref (B + 2), .ref (B + 3), .ref (B + 4), .ref (B + 5)]) rfl (pc' := 5) rfl (fun S187 h188 n189 e190 => ?_)
  refine T_p xr_1_5 xn_1 (pc' := 6) (ls' := [(0, .ref B)]) (st' := [.ref B]) rfl ?_
  refine T_p xr_1_6 xn_1 (pc' := 7) (ls' := [(0, .ref B)]) (st' := [.int (iI 1), .ref B]) rfl ?_
  refine T_put xr_1_7 h188 rfl (Nat.le_of_ble_eq_true rfl) rfl (fs' := [.int (iI 0), .int (iI 1), .int (iI wc), .ref (B + 1), .ref (B + 2), .ref (B + 3), .ref (B + 4), .ref (B + 5)]) rfl (pc' := 10) rfl (fun S191 h192 n193 e194 => ?_)
  refine T_p xr_1_10 xn_1 (pc' := 11) (ls' := [(0, .ref B)]) (st' := [.ref B]) rfl ?_
  refine T_p xr_1_11 xn_1 (pc' := 12) (ls' := [(0, .ref B)]) (st' := [.int (iI 0), .ref B]) rfl ?_
  refine T_put xr_1_12 h192 rfl (Nat.le_of_ble_eq_true rfl) rfl (fs' := [.int (iI 0), .int (iI 1), .int (iI 0), .ref (B + 1), .ref (B + 2), .ref (B + 3), .ref (B + 4), .ref (B + 5)]) rfl (pc' := 15) rfl (fun S195 h196 n197 e198 => ?_)
  refine T_p xr_1_15 xn_1 (pc' := 16) (ls' := [(0, .ref B)]) (st' := [.ref B]) rfl ?_
  refine T_get xr_1_16 h196 rfl (v := .ref (B + 3)) rfl (pc' := 19) rfl ?_
  refine T_p xr_1_19 xn_1 (pc' := 20) (ls' := [(0, .ref B)]) (st' := [.int (iI 0), .ref (B + 3)]) rfl ?_
  refine T_p xr_1_20 xn_1 (pc' := 23) (ls' := [(0, .ref B)]) (st' := [.long (Int64.ofNat 6384748), .int (iI 0), .ref (B + 3)]) rfl ?_
  have h199 := (n197 (B + 3) (by omega)).trans ((n193 (B + 3) (by omega)).trans ((n189 (B + 3) (by omega)).trans (hb3)))
  refine T_zlast xr_1_23 h199 (pc' := 24) rfl (fun S200 h201 n202 e203 => ?_)
  refine T_p xr_1_24 xn_1 (pc' := 25) (ls' := [(0, .ref B)]) (st' := [.ref B]) rfl ?_
  have h204 := (n202 B (by omega)).trans (h196)
  refine T_get xr_1_25 h204 rfl (v := .ref (B + 4)) rfl (pc' := 28) rfl ?_
  refine T_p xr_1_28 xn_1 (pc' := 29) (ls' := [(0, .ref B)]) (st' := [.int (iI 0), .ref (B + 4)]) rfl ?_
  refine T_p xr_1_29 xn_1 (pc' := 30) (ls' := [(0, .ref B)]) (st' := [.int (iI 1), .int (iI 0), .ref (B + 4)]) rfl ?_
  have h205 := (n202 (B + 4) (by omega)).trans ((n197 (B + 4) (by omega)).trans ((n193 (B + 4) (by omega)).trans ((n189 (B + 4) (by omega)).trans (hb4))))
  refine T_ziast xr_1_30 h205 (pc' := 31) rfl (fun S206 h207 n208 e209 => ?_)
  refine T_vret xr_1_31 xf_1.2.2 ?_
  refine hQ _ _ ?_
  have h210 := (n208 B (by omega)).trans (h204)
  have h211 := (n208 (B + 1) (by omega)).trans ((n202 (B + 1) (by omega)).trans ((n197 (B + 1) (by omega)).trans ((n193 (B + 1) (by omega)).trans ((n189 (B + 1) (by omega)).trans (hb1)))))
  have h212 := (n208 (B + 2) (by omega)).trans ((n202 (B + 2) (by omega)).trans ((n197 (B + 2) (by omega)).trans ((n193 (B + 2) (by omega)).trans ((n189 (B + 2) (by omega)).trans (hb2)))))
  have h213 := (n208 (B + 3) (by omega)).trans (h201)
  have h214 := (n208 (B + 5) (by omega)).trans ((n202 (B + 5) (by omega)).trans ((n197 (B + 5) (by omega)).trans ((n193 (B + 5) (by omega)).trans ((n189 (B + 5) (by omega)).trans (hb5)))))
  exact ⟨rfl, ⟨h210, h211, h212, h213, h207, ⟨f, h214, hf⟩, ⟨by omega, by omega⟩, ⟨by omega, by omega⟩, ⟨by omega, by omega⟩⟩, (((((X_Fr.rf).tr (X_Fr.of n189 e190 (by omega))).tr (X_Fr.of n193 e194 (by omega))).tr (X_Fr.of n197 e198 (by omega))).tr (X_Fr.of n202 e203 (by omega))).tr (X_Fr.of n208 e209 (by omega))⟩
theorem c_addRank (sc : X_Sc) (S : X_S) (B : Nat) (rc kc wc : Int) (rn : Int → Int64) (lo : Int → Int) (kn : Int → Int64) (ab : Int → Int) (t : Int64) (hb : C_bk S B rc kc wc rn lo kn ab) (hr : rc < 12) : X_T sc 8 (0, [(0, .ref B), (1, .long t)], [], S) (fun v S' => v = none ∧ C_bk S' B (rc + 1) kc wc (X_ug rn rc t) (X_ug lo rc 0) kn ab ∧ X_Fr (fun r => B ≤ r ∧ r ≤ B + 4) S S') := by
  obtain ⟨hb0, hb1, hb2, hb3, hb4, ⟨f, hb5, hf⟩, ⟨hrc, hrcb⟩, ⟨hkc, hkcb⟩, ⟨hwc, hwcb⟩⟩ := id hb
  refine X_QI (fun Q hQ => ?_)
  refine T_p xr_8_0 xn_8 (pc' := 1) (ls' := [(0, .ref B), (1, .long t)]) (st' := [.ref B]) rfl ?_
  refine T_get xr_8_1 hb0 rfl (v := .int (iI rc)) rfl (pc' := 4) rfl ?_
  refine T_p xr_8_4 xn_8 (pc' := 6) (ls' := [(0, .ref B), (1, .long t)]) (st' := [.int (iI 12), .int (iI rc)]) rfl ?_
  refine T_zicmp_ge xr_8_6 (t := 39) (pc' := 9) rfl rfl (fun c215 => ?_) (fun c215 => ?_)
  · skip
    have c215 : 12 ≤ rc := c215
    exact (show False by omega).elim
  · skip
    have c215 : ¬ (12 ≤ rc) := c215
    refine T_p xr_8_9 xn_8 (pc' := 10) (ls' := [(0, .ref B), (1, .long t)]) (st' := [.ref B]) rfl ?_
    refine T_get xr_8_10 hb0 rfl (v := .ref (B + 1)) rfl (pc' := 13) rfl ?_
    refine T_p xr_8_13 xn_8 (pc' := 14) (ls' := [(0, .ref B), (1, .long t)]) (st' := [.ref B, .ref (B + 1)]) rfl ?_
    refine T_get xr_8_14 hb0 rfl (v := .int (iI rc)) rfl (pc' := 17) rfl ?_
    refine T_p xr_8_17 xn_8 (pc' := 18) (ls' := [(0, .ref B), (1, .long t)]) (st' := [.long t, .int (iI rc), .ref (B + 1)]) rfl ?_
    refine T_zlast xr_8_18 hb1 (pc' := 19) rfl (fun S216 h217 n218 e219 => ?_)
    refine T_p xr_8_19 xn_8 (pc' := 20) (ls' := [(0, .ref B), (1, .long t)]) (st' := [.ref B]) rfl ?_
    have h220 := (n218 B (by omega)).trans (hb0)
    refine T_get xr_8_20 h220 rfl (v := .ref (B + 2)) rfl (pc' := 23) rfl ?_
    refine T_p xr_8_23 xn_8 (pc' := 24) (ls' := [(0, .ref B), (1, .long t)]) (st' := [.ref B, .ref (B + 2)]) rfl ?_
    refine T_get xr_8_24 h220 rfl (v := .int (iI rc)) rfl (pc' := 27) rfl ?_
    refine T_p xr_8_27 xn_8 (pc' := 28) (ls' := [(0, .ref B), (1, .long t)]) (st' := [.int (iI 0), .int (iI rc), .ref (B + 2)]) rfl ?_
    have h221 := (n218 (B + 2) (by omega)).trans (hb2)
    refine T_ziast xr_8_28 h221 (pc' := 29) rfl (fun S222 h223 n224 e225 => ?_)
    refine T_p xr_8_29 xn_8 (pc' := 30) (ls' := [(0, .ref B), (1, .long t)]) (st' := [.ref B]) rfl ?_
    refine T_p xr_8_30 xn_8 (pc' := 31) (ls' := [(0, .ref B), (1, .long t)]) (st' := [.ref B, .ref B]) rfl ?_
    have h226 := (n224 B (by omega)).trans (h220)
    refine T_get xr_8_31 h226 rfl (v := .int (iI rc)) rfl (pc' := 34) rfl ?_
    refine T_p xr_8_34 xn_8 (pc' := 35) (ls' := [(0, .ref B), (1, .long t)]) (st' := [.int (iI 1), .int (iI rc), .ref B]) rfl ?_
    refine T_ziadd xr_8_35 (z := rc + 1) rfl (pc' := 36) rfl ?_
    refine T_put xr_8_36 h226 rfl (Nat.le_of_ble_eq_true rfl) rfl (fs' := [.int (iI (rc + 1)), .int (iI kc), .int (iI wc), .ref (B + 1), .ref (B + 2), .ref (B + 3), .ref (B + 4), .ref (B + 5)]) rfl (pc' := 39) rfl (fun S227 h228 n229 e230 => ?_)
    refine T_vret xr_8_39 xf_8.2.2 ?_
    refine hQ _ _ ?_
    have h231 := (n229 (B + 1) (by omega)).trans ((n224 (B + 1) (by omega)).trans (h217))
    have h232 := (n229 (B + 2) (by omega)).trans (h223)
    have h233 := (n229 (B + 3) (by omega)).trans ((n224 (B + 3) (by omega)).trans ((n218 (B + 3) (by omega)).trans (hb3)))
    have h234 := (n229 (B + 4) (by omega)).trans ((n224 (B + 4) (by omega)).trans ((n218 (B + 4) (by omega)).trans (hb4)))
    have h235 := (n229 (B + 5) (by omega)).trans ((n224 (B + 5) (by omega)).trans ((n218 (B + 5) (by omega)).trans (hb5)))
    exact ⟨rfl, ⟨h228, h231, h232, h233, h234, ⟨f, h235, hf⟩, ⟨by omega, by omega⟩, ⟨by omega, by omega⟩, ⟨by omega, by omega⟩⟩, (((X_Fr.rf).tr (X_Fr.of n218 e219 (by omega))).tr (X_Fr.of n224 e225 (by omega))).tr (X_Fr.of n229 e230 (by omega))⟩
theorem c_addKind (sc : X_Sc) (S : X_S) (B : Nat) (rc kc wc : Int) (rn : Int → Int64) (lo : Int → Int) (kn : Int → Int64) (ab : Int → Int) (t : Int64) (u : Int) (hb : C_bk S B rc kc wc rn lo kn ab) (hr : kc < 11) (hu : 0 ≤ u ∧ u < kc) : X_T sc 9 (0, [(0, .ref B), (1, .long t), (3, .int (iI u))], [], S) (fun v S' => v = none ∧ C_bk S' B rc (kc + 1) wc rn lo (X_ug kn kc t) (X_ug ab kc (X_bO (ab u) (X_bS kc))) ∧ X_Fr (fun r => B ≤ r ∧ r ≤ B + 4) S S') := by
  obtain ⟨hb0, hb1, hb2, hb3, hb4, ⟨f, hb5, hf⟩, ⟨hrc, hrcb⟩, ⟨hkc, hkcb⟩, ⟨hwc, hwcb⟩⟩ := id hb
  refine X_QI (fun Q hQ => ?_)
  refine T_p xr_9_0 xn_9 (pc' := 1) (ls' := [(0, .ref B), (1, .long t), (3, .int (iI u))]) (st' := [.ref B]) rfl ?_
  refine T_get xr_9_1 hb0 rfl (v := .int (iI kc)) rfl (pc' := 4) rfl ?_
  refine T_p xr_9_4 xn_9 (pc' := 6) (ls' := [(0, .ref B), (1, .long t), (3, .int (iI u))]) (st' := [.int (iI 11), .int (iI kc)]) rfl ?_
  refine T_zicmp_ge xr_9_6 (t := 59) (pc' := 9) rfl rfl (fun c236 => ?_) (fun c236 => ?_)
  · skip
    have c236 : 11 ≤ kc := c236
    exact (show False by omega).elim
  · skip
    have c236 : ¬ (11 ≤ kc) := c236
    refine T_p xr_9_9 xn_9 (pc' := 10) (ls' := [(0, .ref B), (1, .long t), (3, .int (iI u))]) (st' := [.ref B]) rfl ?_
    refine T_p xr_9_10 xn_9 (pc' := 11) (ls' := [(0, .ref B), (1, .long t), (3, .int (iI u))]) (st' := [.int (iI u), .ref B]) rfl ?_
    refine T_cv (S := S) (q := B) xr_9_11 xf_3.1 xf_3.2.1 xn_3 (as := [.int (iI u)]) (r := []) rfl hb0 (Nat.le_of_ble_eq_true rfl) (Nat.le_of_ble_eq_true rfl) (pc' := 14) rfl (ls' := [(0, .ref B), (1, .int (iI u))]) rfl ?_
    refine T_mono (c_hasKind sc S B rc kc wc rn lo kn ab u ⟨hb0, hb1, hb2, hb3, hb4, ⟨f, hb5, hf⟩, ⟨by omega, by omega⟩, ⟨by omega, by omega⟩, ⟨by omega, by omega⟩⟩ (by omega)) (fun v238 S239 h237 => ?_)
    obtain ⟨h240, h241⟩ := h237
    rw [h240, h241]
    show X_T sc 9 (14, [(0, .ref B), (1, .long t), (3, .int (iI u))], [.int (iI (bI (0 ≤ u ∧ u < kc)))], S) _
    refine T_bif_eq xr_9_14 (t := 59) (pc' := 17) rfl rfl (fun c242 => ?_) (fun c242 => ?_)
    · skip
      have c242 : ¬ (0 ≤ u ∧ u < kc) := c242
      exact (show False by omega).elim
    · skip
      have c242 : (0 ≤ u ∧ u < kc) := c242
      refine T_p xr_9_17 xn_9 (pc' := 18) (ls' := [(0, .ref B), (1, .long t), (3, .int (iI u))]) (st' := [.ref B]) rfl ?_
      refine T_get xr_9_18 hb0 rfl (v := .ref (B + 3)) rfl (pc' := 21) rfl ?_
      refine T_p xr_9_21 xn_9 (pc' := 22) (ls' := [(0, .ref B), (1, .long t), (3, .int (iI u))]) (st' := [.ref B, .ref (B + 3)]) rfl ?_
      refine T_get xr_9_22 hb0 rfl (v := .int (iI kc)) rfl (pc' := 25) rfl ?_
      refine T_p xr_9_25 xn_9 (pc' := 26) (ls' := [(0, .ref B), (1, .long t), (3, .int (iI u))]) (st' := [.long t, .int (iI kc), .ref (B + 3)]) rfl ?_
      refine T_zlast xr_9_26 hb3 (pc' := 27) rfl (fun S243 h244 n245 e246 => ?_)
      refine T_p xr_9_27 xn_9 (pc' := 28) (ls' := [(0, .ref B), (1, .long t), (3, .int (iI u))]) (st' := [.ref B]) rfl ?_
      have h247 := (n245 B (by omega)).trans (hb0)
      refine T_get xr_9_28 h247 rfl (v := .ref (B + 4)) rfl (pc' := 31) rfl ?_
      refine T_p xr_9_31 xn_9 (pc' := 32) (ls' := [(0, .ref B), (1, .long t), (3, .int (iI u))]) (st' := [.ref B, .ref (B + 4)]) rfl ?_
      refine T_get xr_9_32 h247 rfl (v := .int (iI kc)) rfl (pc' := 35) rfl ?_
      refine T_p xr_9_35 xn_9 (pc' := 36) (ls' := [(0, .ref B), (1, .long t), (3, .int (iI u))]) (st' := [.ref B, .int (iI kc), .ref (B + 4)]) rfl ?_
      refine T_get xr_9_36 h247 rfl (v := .ref (B + 4)) rfl (pc' := 39) rfl ?_
      refine T_p xr_9_39 xn_9 (pc' := 40) (ls' := [(0, .ref B), (1, .long t), (3, .int (iI u))]) (st' := [.int (iI u), .ref (B + 4), .int (iI kc), .ref (B + 4)]) rfl ?_
      have h248 := (n245 (B + 4) (by omega)).trans (hb4)
      refine T_ziald xr_9_40 h248 (pc' := 41) rfl ?_
      refine T_p xr_9_41 xn_9 (pc' := 42) (ls' := [(0, .ref B), (1, .long t), (3, .int (iI u))]) (st' := [.int (iI 1), .int (iI (ab u)), .int (iI kc), .ref (B + 4)]) rfl ?_
      refine T_p xr_9_42 xn_9 (pc' := 43) (ls' := [(0, .ref B), (1, .long t), (3, .int (iI u))]) (st' := [.ref B, .int (iI 1), .int (iI (ab u)), .int (iI kc), .ref (B + 4)]) rfl ?_
      refine T_get xr_9_43 h247 rfl (v := .int (iI kc)) rfl (pc' := 46) rfl ?_
      refine T_zop xr_9_46 (pc' := 47) rfl (z := (iI 1 <<< (iI kc &&& 31)).toInt) (iI_of _) ?_
      refine T_zop xr_9_47 (pc' := 48) rfl (z := (iI (ab u) ||| iI ((iI 1 <<< (iI kc &&& 31)).toInt)).toInt) (iI_of _) ?_
      refine T_ziast xr_9_48 h248 (pc' := 49) rfl (fun S249 h250 n251 e252 => ?_)
      refine T_p xr_9_49 xn_9 (pc' := 50) (ls' := [(0, .ref B), (1, .long t), (3, .int (iI u))]) (st' := [.ref B]) rfl ?_
      refine T_p xr_9_50 xn_9 (pc' := 51) (ls' := [(0, .ref B), (1, .long t), (3, .int (iI u))]) (st' := [.ref B, .ref B]) rfl ?_
      have h253 := (n251 B (by omega)).trans (h247)
      refine T_get xr_9_51 h253 rfl (v := .int (iI kc)) rfl (pc' := 54) rfl ?_
      refine T_p xr_9_54 xn_9 (pc' := 55) (ls' := [(0, .ref B), (1, .long t), (3, .int (iI u))]) (st' := [.int (iI 1), .int (iI kc), .ref B]) rfl ?_
      refine T_ziadd xr_9_55 (z := kc + 1) rfl (pc' := 56) rfl ?_
      refine T_put xr_9_56 h253 rfl (Nat.le_of_ble_eq_true rfl) rfl (fs' := [.int (iI rc), .int (iI (kc + 1)), .int (iI wc), .ref (B + 1), .ref (B + 2), .ref (B + 3), .ref (B + 4), .ref (B + 5)]) rfl (pc' := 59) rfl (fun S254 h255 n256 e257 => ?_)
      refine T_vret xr_9_59 xf_9.2.2 ?_
      refine hQ _ _ ?_
      have h258 := (n256 (B + 1) (by omega)).trans ((n251 (B + 1) (by omega)).trans ((n245 (B + 1) (by omega)).trans (hb1)))
      have h259 := (n256 (B + 2) (by omega)).trans ((n251 (B + 2) (by omega)).trans ((n245 (B + 2) (by omega)).trans (hb2)))
      have h260 := (n256 (B + 3) (by omega)).trans ((n251 (B + 3) (by omega)).trans (h244))
      have h261 := (n256 (B + 4) (by omega)).trans (h250)
      have h262 := (n256 (B + 5) (by omega)).trans ((n251 (B + 5) (by omega)).trans ((n245 (B + 5) (by omega)).trans (hb5)))
      exact ⟨rfl, ⟨h255, h258, h259, h260, h261, ⟨f, h262, hf⟩, ⟨by omega, by omega⟩, ⟨by omega, by omega⟩, ⟨by omega, by omega⟩⟩, (((X_Fr.rf).tr (X_Fr.of n245 e246 (by omega))).tr (X_Fr.of n251 e252 (by omega))).tr (X_Fr.of n256 e257 (by omega))⟩
theorem c_isTighter (sc : X_Sc) (S : X_S) (B : Nat) (rc kc wc : Int) (rn : Int → Int64) (lo : Int → Int) (kn : Int → Int64) (ab : Int → Int) (a b : Int) (hb : C_bk S B rc kc wc rn lo kn ab) (ha : 0 ≤ a ∧ a < 12) : X_T sc 11 (0, [(0, .ref B), (1, .int (iI a)), (2, .int (iI b))], [], S) (fun v S' => v = some (.int (iI (bI (X_bt (lo a) b)))) ∧ S' = S) := by
  obtain ⟨hb0, hb1, hb2, hb3, hb4, ⟨f, hb5, hf⟩, ⟨hrc, hrcb⟩, ⟨hkc, hkcb⟩, ⟨hwc, hwcb⟩⟩ := id hb
  refine X_QI (fun Q hQ => ?_)
  refine T_p xr_11_0 xn_11 (pc' := 1) (ls' := [(0, .ref B), (1, .int (iI a)), (2, .int (iI b))]) (st' := [.ref B]) rfl ?_
  refine T_get xr_11_1 hb0 rfl (v := .ref (B + 2)) rfl (pc' := 4) rfl ?_
  refine T_p xr_11_4 xn_11 (pc' := 5) (ls' := [(0, .ref B), (1, .int (iI a)), (2, .int (iI b))]) (st' := [.int (iI a), .ref (B + 2)]) rfl ?_
  refine T_ziald xr_11_5 hb2 (pc' := 6) rfl ?_
  refine T_p xr_11_6 xn_11 (pc' := 7) (ls' := [(0, .ref B), (1, .int (iI a)), (2, .int (iI b))]) (st' := [.int (iI b), .int (iI (lo a))]) rfl ?_
  refine T_cs xr_11_7 (by decide) xf_131.1 xn_131 (as := [.int (iI (lo a)), .int (iI b)]) (r := []) rfl (Nat.le_of_ble_eq_true rfl) (Nat.le_of_ble_eq_true rfl) (pc' := 10) rfl (ls' := [(0, .int (iI (lo a))), (1, .int (iI b))]) rfl ?_
  refine T_mono (c_hasBit sc S (lo a) b) (fun v264 S265 h263 => ?_)
  obtain ⟨h266, h267⟩ := h263
  rw [h266, h267]
  show X_T sc 11 (10, [(0, .ref B), (1, .int (iI a)), (2, .int (iI b))], [.int (iI (bI (X_bt (lo a) b)))], S) _
  refine T_iret xr_11_10 xf_11.2.2 (X_fit_b _) ?_
  refine hQ _ _ ?_
  exact ⟨rfl, rfl⟩
theorem c_isUnder (sc : X_Sc) (S : X_S) (B : Nat) (rc kc wc : Int) (rn : Int → Int64) (lo : Int → Int) (kn : Int → Int64) (ab : Int → Int) (a b : Int) (hb : C_bk S B rc kc wc rn lo kn ab) (ha : 0 ≤ a ∧ a < 11) : X_T sc 12 (0, [(0, .ref B), (1, .int (iI a)), (2, .int (iI b))], [], S) (fun v S' => v = some (.int (iI (bI (X_bt (ab a) b)))) ∧ S' = S) := by
  obtain ⟨hb0, hb1, hb2, hb3, hb4, ⟨f, hb5, hf⟩, ⟨hrc, hrcb⟩, ⟨hkc, hkcb⟩, ⟨hwc, hwcb⟩⟩ := id hb
  refine X_QI (fun Q hQ => ?_)
  refine T_p xr_12_0 xn_12 (pc' := 1) (ls' := [(0, .ref B), (1, .int (iI a)), (2, .int (iI b))]) (st' := [.ref B]) rfl ?_
  refine T_get xr_12_1 hb0 rfl (v := .ref (B + 4)) rfl (pc' := 4) rfl ?_
  refine T_p xr_12_4 xn_12 (pc' := 5) (ls' := [(0, .ref B), (1, .int (iI a)), (2, .int (iI b))]) (st' := [.int (iI a), .ref (B + 4)]) rfl ?_
  refine T_ziald xr_12_5 hb4 (pc' := 6) rfl ?_
  refine T_p xr_12_6 xn_12 (pc' := 7) (ls' := [(0, .ref B), (1, .int (iI a)), (2, .int (iI b))]) (st' := [.int (iI b), .int (iI (ab a))]) rfl ?_
  refine T_cs xr_12_7 (by decide) xf_131.1 xn_131 (as := [.int (iI (ab a)), .int (iI b)]) (r := []) rfl (Nat.le_of_ble_eq_true rfl) (Nat.le_of_ble_eq_true rfl) (pc' := 10) rfl (ls' := [(0, .int (iI (ab a))), (1, .int (iI b))]) rfl ?_
  refine T_mono (c_hasBit sc S (ab a) b) (fun v269 S270 h268 => ?_)
  obtain ⟨h271, h272⟩ := h268
  rw [h271, h272]
  show X_T sc 12 (10, [(0, .ref B), (1, .int (iI a)), (2, .int (iI b))], [.int (iI (bI (X_bt (ab a) b)))], S) _
  refine T_iret xr_12_10 xf_12.2.2 (X_fit_b _) ?_
  refine hQ _ _ ?_
  exact ⟨rfl, rfl⟩
theorem c_numberKind (sc : X_Sc) (S : X_S) (B : Nat) (rc kc wc : Int) (rn : Int → Int64) (lo : Int → Int) (kn : Int → Int64) (ab : Int → Int)  (hb : C_bk S B rc kc wc rn lo kn ab)  : X_T sc 13 (0, [(0, .ref B)], [], S) (fun v S' => v = some (.int (iI (bI (1 < kc)))) ∧ S' = S) := by
  obtain ⟨hb0, hb1, hb2, hb3, hb4, ⟨f, hb5, hf⟩, ⟨hrc, hrcb⟩, ⟨hkc, hkcb⟩, ⟨hwc, hwcb⟩⟩ := id hb
  refine X_QI (fun Q hQ => ?_)
  refine T_p xr_13_0 xn_13 (pc' := 1) (ls' := [(0, .ref B)]) (st' := [.ref B]) rfl ?_
  refine T_get xr_13_1 hb0 rfl (v := .int (iI kc)) rfl (pc' := 4) rfl ?_
  refine T_p xr_13_4 xn_13 (pc' := 5) (ls' := [(0, .ref B)]) (st' := [.int (iI 1), .int (iI kc)]) rfl ?_
  refine T_zicmp_le xr_13_5 (t := 12) (pc' := 8) rfl rfl (fun c273 => ?_) (fun c273 => ?_)
  · skip
    have c273 : kc ≤ 1 := c273
    refine T_p xr_13_12 xn_13 (pc' := 13) (ls' := [(0, .ref B)]) (st' := [.int (iI 0)]) rfl ?_
    refine T_iret xr_13_13 xf_13.2.2 rfl ?_
    refine hQ _ _ ?_
    exact ⟨by rw [bI_f (by omega)], rfl⟩
  · skip
    have c273 : ¬ (kc ≤ 1) := c273
    refine T_p xr_13_8 xn_13 (pc' := 9) (ls' := [(0, .ref B)]) (st' := [.int (iI 1)]) rfl ?_
    refine T_p xr_13_9 xn_13 (pc' := 13) (ls' := [(0, .ref B)]) (st' := [.int (iI 1)]) rfl ?_
    refine T_iret xr_13_13 xf_13.2.2 rfl ?_
    refine hQ _ _ ?_
    exact ⟨by rw [bI_t (by omega)], rfl⟩
