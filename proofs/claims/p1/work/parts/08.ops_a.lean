theorem xr_2_0 : X_row 2 0 = some (0, (.iload_n 1, 1), (0, 0, 0)) := by decide +kernel
theorem xr_2_1 : X_row 2 1 = some (1, (.ifCond .lt 15, 3), (0, 0, 0)) := by decide +kernel
theorem xr_2_4 : X_row 2 4 = some (4, (.iload_n 1, 1), (0, 0, 0)) := by decide +kernel
theorem xr_2_5 : X_row 2 5 = some (5, (.aload_n 0, 1), (0, 0, 0)) := by decide +kernel
theorem xr_2_6 : X_row 2 6 = some (6, (.getfield 35, 3), (0, 0, 18)) := by decide +kernel
theorem xr_2_9 : X_row 2 9 = some (9, (.if_icmp .ge 7, 3), (0, 0, 0)) := by decide +kernel
theorem xr_2_16 : X_row 2 16 = some (16, (.iconst 0, 1), (0, 0, 0)) := by decide +kernel
theorem xr_2_17 : X_row 2 17 = some (17, (.ireturn, 1), (0, 0, 0)) := by decide +kernel
theorem xr_3_0 : X_row 3 0 = some (0, (.iload_n 1, 1), (0, 0, 0)) := by decide +kernel
theorem xr_3_1 : X_row 3 1 = some (1, (.ifCond .lt 15, 3), (0, 0, 0)) := by decide +kernel
theorem xr_3_4 : X_row 3 4 = some (4, (.iload_n 1, 1), (0, 0, 0)) := by decide +kernel
theorem xr_3_5 : X_row 3 5 = some (5, (.aload_n 0, 1), (0, 0, 0)) := by decide +kernel
theorem xr_3_6 : X_row 3 6 = some (6, (.getfield 39, 3), (0, 1, 20)) := by decide +kernel
theorem xr_3_9 : X_row 3 9 = some (9, (.if_icmp .ge 7, 3), (0, 0, 0)) := by decide +kernel
theorem xr_3_12 : X_row 3 12 = some (12, (.iconst 1, 1), (0, 0, 0)) := by decide +kernel
theorem xr_3_13 : X_row 3 13 = some (13, (.goto 4, 3), (0, 0, 0)) := by decide +kernel
theorem xr_3_16 : X_row 3 16 = some (16, (.iconst 0, 1), (0, 0, 0)) := by decide +kernel
theorem xr_3_17 : X_row 3 17 = some (17, (.ireturn, 1), (0, 0, 0)) := by decide +kernel
theorem xr_4_0 : X_row 4 0 = some (0, (.iload_n 1, 1), (0, 0, 0)) := by decide +kernel
theorem xr_4_1 : X_row 4 1 = some (1, (.ifCond .lt 15, 3), (0, 0, 0)) := by decide +kernel
theorem xr_4_4 : X_row 4 4 = some (4, (.iload_n 1, 1), (0, 0, 0)) := by decide +kernel
theorem xr_4_5 : X_row 4 5 = some (5, (.aload_n 0, 1), (0, 0, 0)) := by decide +kernel
theorem xr_4_6 : X_row 4 6 = some (6, (.getfield 42, 3), (0, 2, 22)) := by decide +kernel
theorem xr_4_9 : X_row 4 9 = some (9, (.if_icmp .ge 7, 3), (0, 0, 0)) := by decide +kernel
theorem xr_4_16 : X_row 4 16 = some (16, (.iconst 0, 1), (0, 0, 0)) := by decide +kernel
theorem xr_4_17 : X_row 4 17 = some (17, (.ireturn, 1), (0, 0, 0)) := by decide +kernel
theorem xr_12_0 : X_row 12 0 = some (0, (.aload_n 0, 1), (0, 0, 0)) := by decide +kernel
theorem xr_12_1 : X_row 12 1 = some (1, (.getfield 22, 3), (0, 6, 30)) := by decide +kernel
theorem xr_12_4 : X_row 12 4 = some (4, (.iload_n 1, 1), (0, 0, 0)) := by decide +kernel
theorem xr_12_5 : X_row 12 5 = some (5, (.iaload, 1), (0, 0, 0)) := by decide +kernel
theorem xr_12_6 : X_row 12 6 = some (6, (.iload_n 2, 1), (0, 0, 0)) := by decide +kernel
theorem xr_12_7 : X_row 12 7 = some (7, (.invokestatic 59, 3), (131, 7, 0)) := by decide +kernel
theorem xr_12_10 : X_row 12 10 = some (10, (.ireturn, 1), (0, 0, 0)) := by decide +kernel
theorem xr_92_0 : X_row 92 0 = some (0, (.bipush 24, 2), (0, 0, 0)) := by decide +kernel
theorem xr_92_2 : X_row 92 2 = some (2, (.istore_n 2, 1), (0, 0, 0)) := by decide +kernel
theorem xr_92_3 : X_row 92 3 = some (3, (.iload_n 2, 1), (0, 0, 0)) := by decide +kernel
theorem xr_92_4 : X_row 92 4 = some (4, (.ifCond .lt 42, 3), (0, 0, 0)) := by decide +kernel
theorem xr_92_7 : X_row 92 7 = some (7, (.aload_n 0, 1), (0, 0, 0)) := by decide +kernel
theorem xr_92_8 : X_row 92 8 = some (8, (.getfield 15, 3), (7, 1, 2)) := by decide +kernel
theorem xr_92_11 : X_row 92 11 = some (11, (.sipush 2000, 3), (0, 0, 0)) := by decide +kernel
theorem xr_92_14 : X_row 92 14 = some (14, (.if_icmp .ge 32, 3), (0, 0, 0)) := by decide +kernel
theorem xr_92_17 : X_row 92 17 = some (17, (.aload_n 0, 1), (0, 0, 0)) := by decide +kernel
theorem xr_92_18 : X_row 92 18 = some (18, (.getfield 9, 3), (7, 0, 0)) := by decide +kernel
theorem xr_92_21 : X_row 92 21 = some (21, (.aload_n 0, 1), (0, 0, 0)) := by decide +kernel
theorem xr_92_22 : X_row 92 22 = some (22, (.getfield 15, 3), (7, 1, 2)) := by decide +kernel
theorem xr_92_25 : X_row 92 25 = some (25, (.iload_n 1, 1), (0, 0, 0)) := by decide +kernel
theorem xr_92_26 : X_row 92 26 = some (26, (.iload_n 2, 1), (0, 0, 0)) := by decide +kernel
theorem xr_92_27 : X_row 92 27 = some (27, (.ishr, 1), (0, 0, 0)) := by decide +kernel
theorem xr_92_28 : X_row 92 28 = some (28, (.i2b, 1), (0, 0, 0)) := by decide +kernel
theorem xr_92_29 : X_row 92 29 = some (29, (.bastore, 1), (0, 0, 0)) := by decide +kernel
theorem xr_92_30 : X_row 92 30 = some (30, (.aload_n 0, 1), (0, 0, 0)) := by decide +kernel
theorem xr_92_31 : X_row 92 31 = some (31, (.dup, 1), (0, 0, 0)) := by decide +kernel
theorem xr_92_32 : X_row 92 32 = some (32, (.getfield 15, 3), (7, 1, 2)) := by decide +kernel
theorem xr_92_35 : X_row 92 35 = some (35, (.iconst 1, 1), (0, 0, 0)) := by decide +kernel
theorem xr_92_36 : X_row 92 36 = some (36, (.iadd, 1), (0, 0, 0)) := by decide +kernel
theorem xr_92_37 : X_row 92 37 = some (37, (.putfield 15, 3), (7, 1, 2)) := by decide +kernel
theorem xr_92_40 : X_row 92 40 = some (40, (.iinc 2 (-8), 3), (0, 0, 0)) := by decide +kernel
theorem xr_92_43 : X_row 92 43 = some (43, (.goto (-40), 3), (0, 0, 0)) := by decide +kernel
theorem xr_92_46 : X_row 92 46 = some (46, (.return_, 1), (0, 0, 0)) := by decide +kernel
theorem xr_113_0 : X_row 113 0 = some (0, (.aload_n 0, 1), (0, 0, 0)) := by decide +kernel
theorem xr_113_1 : X_row 113 1 = some (1, (.getfield 12, 3), (10, 0, 48)) := by decide +kernel
theorem xr_113_4 : X_row 113 4 = some (4, (.getfield 76, 3), (7, 1, 1)) := by decide +kernel
theorem xr_113_7 : X_row 113 7 = some (7, (.bipush 20, 2), (0, 0, 0)) := by decide +kernel
theorem xr_113_9 : X_row 113 9 = some (9, (.iadd, 1), (0, 0, 0)) := by decide +kernel
theorem xr_113_10 : X_row 113 10 = some (10, (.sipush 2000, 3), (0, 0, 0)) := by decide +kernel
theorem xr_113_13 : X_row 113 13 = some (13, (.if_icmp .le 5, 3), (0, 0, 0)) := by decide +kernel
theorem xr_113_18 : X_row 113 18 = some (18, (.aload_n 0, 1), (0, 0, 0)) := by decide +kernel
theorem xr_113_19 : X_row 113 19 = some (19, (.getfield 12, 3), (10, 0, 48)) := by decide +kernel
theorem xr_113_22 : X_row 113 22 = some (22, (.iload_n 1, 1), (0, 0, 0)) := by decide +kernel
theorem xr_113_23 : X_row 113 23 = some (23, (.invokevirtual 80, 3), (92, 16, 0)) := by decide +kernel
theorem xr_113_26 : X_row 113 26 = some (26, (.aload_n 0, 1), (0, 0, 0)) := by decide +kernel
theorem xr_113_27 : X_row 113 27 = some (27, (.getfield 12, 3), (10, 0, 48)) := by decide +kernel
theorem xr_113_30 : X_row 113 30 = some (30, (.iload_n 2, 1), (0, 0, 0)) := by decide +kernel
theorem xr_113_31 : X_row 113 31 = some (31, (.invokevirtual 80, 3), (92, 16, 0)) := by decide +kernel
theorem xr_113_34 : X_row 113 34 = some (34, (.aload_n 0, 1), (0, 0, 0)) := by decide +kernel
theorem xr_113_35 : X_row 113 35 = some (35, (.getfield 12, 3), (10, 0, 48)) := by decide +kernel
theorem xr_113_38 : X_row 113 38 = some (38, (.iload_n 3, 1), (0, 0, 0)) := by decide +kernel
theorem xr_113_39 : X_row 113 39 = some (39, (.invokevirtual 80, 3), (92, 16, 0)) := by decide +kernel
theorem xr_113_42 : X_row 113 42 = some (42, (.aload_n 0, 1), (0, 0, 0)) := by decide +kernel
theorem xr_113_43 : X_row 113 43 = some (43, (.getfield 12, 3), (10, 0, 48)) := by decide +kernel
theorem xr_113_46 : X_row 113 46 = some (46, (.iload 4, 2), (0, 0, 0)) := by decide +kernel
theorem xr_113_48 : X_row 113 48 = some (48, (.invokevirtual 80, 3), (92, 16, 0)) := by decide +kernel
theorem xr_113_51 : X_row 113 51 = some (51, (.aload_n 0, 1), (0, 0, 0)) := by decide +kernel
theorem xr_113_52 : X_row 113 52 = some (52, (.getfield 12, 3), (10, 0, 48)) := by decide +kernel
theorem xr_113_55 : X_row 113 55 = some (55, (.iload 5, 2), (0, 0, 0)) := by decide +kernel
theorem xr_113_57 : X_row 113 57 = some (57, (.invokevirtual 80, 3), (92, 16, 0)) := by decide +kernel
theorem xr_113_60 : X_row 113 60 = some (60, (.aload_n 0, 1), (0, 0, 0)) := by decide +kernel
theorem xr_113_61 : X_row 113 61 = some (61, (.getfield 12, 3), (10, 0, 48)) := by decide +kernel
theorem xr_113_64 : X_row 113 64 = some (64, (.getfield 76, 3), (7, 1, 1)) := by decide +kernel
theorem xr_113_67 : X_row 113 67 = some (67, (.ireturn, 1), (0, 0, 0)) := by decide +kernel
theorem xr_114_0 : X_row 114 0 = some (0, (.iload_n 1, 1), (0, 0, 0)) := by decide +kernel
theorem xr_114_1 : X_row 114 1 = some (1, (.ifCond .lt 14, 3), (0, 0, 0)) := by decide +kernel
theorem xr_114_4 : X_row 114 4 = some (4, (.iload_n 1, 1), (0, 0, 0)) := by decide +kernel
theorem xr_114_5 : X_row 114 5 = some (5, (.aload_n 0, 1), (0, 0, 0)) := by decide +kernel
theorem xr_114_6 : X_row 114 6 = some (6, (.getfield 12, 3), (10, 0, 48)) := by decide +kernel
theorem xr_114_9 : X_row 114 9 = some (9, (.getfield 76, 3), (7, 1, 1)) := by decide +kernel
theorem xr_114_12 : X_row 114 12 = some (12, (.if_icmp .le 5, 3), (0, 0, 0)) := by decide +kernel
theorem xr_114_15 : X_row 114 15 = some (15, (.iconst (-1), 1), (0, 0, 0)) := by decide +kernel
theorem xr_114_16 : X_row 114 16 = some (16, (.ireturn, 1), (0, 0, 0)) := by decide +kernel
theorem xr_114_17 : X_row 114 17 = some (17, (.aload_n 0, 1), (0, 0, 0)) := by decide +kernel
theorem xr_114_18 : X_row 114 18 = some (18, (.getfield 12, 3), (10, 0, 48)) := by decide +kernel
theorem xr_114_21 : X_row 114 21 = some (21, (.iload_n 1, 1), (0, 0, 0)) := by decide +kernel
theorem xr_114_22 : X_row 114 22 = some (22, (.putfield 76, 3), (7, 1, 1)) := by decide +kernel
theorem xr_114_25 : X_row 114 25 = some (25, (.iload_n 1, 1), (0, 0, 0)) := by decide +kernel
theorem xr_114_26 : X_row 114 26 = some (26, (.ireturn, 1), (0, 0, 0)) := by decide +kernel
theorem xr_116_0 : X_row 116 0 = some (0, (.iload_n 1, 1), (0, 0, 0)) := by decide +kernel
theorem xr_116_1 : X_row 116 1 = some (1, (.ifCond .ne 11, 3), (0, 0, 0)) := by decide +kernel
theorem xr_116_4 : X_row 116 4 = some (4, (.aload_n 0, 1), (0, 0, 0)) := by decide +kernel
theorem xr_116_5 : X_row 116 5 = some (5, (.getfield 31, 3), (10, 3, 54)) := by decide +kernel
theorem xr_116_8 : X_row 116 8 = some (8, (.getfield 97, 3), (4, 2, 27)) := by decide +kernel
theorem xr_116_11 : X_row 116 11 = some (11, (.ireturn, 1), (0, 0, 0)) := by decide +kernel
theorem xr_116_12 : X_row 116 12 = some (12, (.iload_n 1, 1), (0, 0, 0)) := by decide +kernel
theorem xr_116_13 : X_row 116 13 = some (13, (.iconst 1, 1), (0, 0, 0)) := by decide +kernel
theorem xr_116_14 : X_row 116 14 = some (14, (.if_icmp .ne 13, 3), (0, 0, 0)) := by decide +kernel
theorem xr_116_17 : X_row 116 17 = some (17, (.aload_n 0, 1), (0, 0, 0)) := by decide +kernel
theorem xr_116_18 : X_row 116 18 = some (18, (.getfield 31, 3), (10, 3, 54)) := by decide +kernel
theorem xr_116_21 : X_row 116 21 = some (21, (.getfield 100, 3), (4, 3, 29)) := by decide +kernel
theorem xr_116_24 : X_row 116 24 = some (24, (.goto 4, 3), (0, 0, 0)) := by decide +kernel
theorem xr_116_27 : X_row 116 27 = some (27, (.iconst (-1), 1), (0, 0, 0)) := by decide +kernel
theorem xr_116_28 : X_row 116 28 = some (28, (.ireturn, 1), (0, 0, 0)) := by decide +kernel
theorem xr_117_0 : X_row 117 0 = some (0, (.iload_n 1, 1), (0, 0, 0)) := by decide +kernel
theorem xr_117_1 : X_row 117 1 = some (1, (.tableswitch 87 0 5 #[39, 47, 55, 63, 71, 79], 39), (0, 0, 0)) := by decide +kernel
theorem xr_117_40 : X_row 117 40 = some (40, (.aload_n 0, 1), (0, 0, 0)) := by decide +kernel
theorem xr_117_41 : X_row 117 41 = some (41, (.getfield 19, 3), (10, 1, 50)) := by decide +kernel
theorem xr_117_44 : X_row 117 44 = some (44, (.getfield 103, 3), (0, 0, 19)) := by decide +kernel
theorem xr_117_47 : X_row 117 47 = some (47, (.ireturn, 1), (0, 0, 0)) := by decide +kernel
theorem xr_117_48 : X_row 117 48 = some (48, (.aload_n 0, 1), (0, 0, 0)) := by decide +kernel
theorem xr_117_49 : X_row 117 49 = some (49, (.getfield 19, 3), (10, 1, 50)) := by decide +kernel
theorem xr_117_52 : X_row 117 52 = some (52, (.getfield 106, 3), (0, 1, 21)) := by decide +kernel
theorem xr_117_55 : X_row 117 55 = some (55, (.ireturn, 1), (0, 0, 0)) := by decide +kernel
theorem xr_117_56 : X_row 117 56 = some (56, (.aload_n 0, 1), (0, 0, 0)) := by decide +kernel
theorem xr_117_57 : X_row 117 57 = some (57, (.getfield 19, 3), (10, 1, 50)) := by decide +kernel
theorem xr_117_60 : X_row 117 60 = some (60, (.getfield 94, 3), (0, 2, 23)) := by decide +kernel
theorem xr_117_63 : X_row 117 63 = some (63, (.ireturn, 1), (0, 0, 0)) := by decide +kernel
theorem xr_117_64 : X_row 117 64 = some (64, (.aload_n 0, 1), (0, 0, 0)) := by decide +kernel
theorem xr_117_65 : X_row 117 65 = some (65, (.getfield 38, 3), (10, 4, 56)) := by decide +kernel
theorem xr_117_68 : X_row 117 68 = some (68, (.getfield 88, 3), (6, 0, 31)) := by decide +kernel
theorem xr_117_71 : X_row 117 71 = some (71, (.ireturn, 1), (0, 0, 0)) := by decide +kernel
theorem xr_117_72 : X_row 117 72 = some (72, (.aload_n 0, 1), (0, 0, 0)) := by decide +kernel
theorem xr_117_73 : X_row 117 73 = some (73, (.getfield 45, 3), (10, 5, 58)) := by decide +kernel
theorem xr_117_76 : X_row 117 76 = some (76, (.getfield 109, 3), (5, 0, 33)) := by decide +kernel
theorem xr_117_79 : X_row 117 79 = some (79, (.ireturn, 1), (0, 0, 0)) := by decide +kernel
theorem xr_117_80 : X_row 117 80 = some (80, (.aload_n 0, 1), (0, 0, 0)) := by decide +kernel
theorem xr_117_81 : X_row 117 81 = some (81, (.getfield 12, 3), (10, 0, 48)) := by decide +kernel
theorem xr_117_84 : X_row 117 84 = some (84, (.getfield 76, 3), (7, 1, 1)) := by decide +kernel
theorem xr_117_87 : X_row 117 87 = some (87, (.ireturn, 1), (0, 0, 0)) := by decide +kernel
theorem xr_117_88 : X_row 117 88 = some (88, (.iconst (-1), 1), (0, 0, 0)) := by decide +kernel
theorem xr_117_89 : X_row 117 89 = some (89, (.ireturn, 1), (0, 0, 0)) := by decide +kernel
theorem xr_118_0 : X_row 118 0 = some (0, (.aload_n 0, 1), (0, 0, 0)) := by decide +kernel
theorem xr_118_1 : X_row 118 1 = some (1, (.getfield 19, 3), (10, 1, 50)) := by decide +kernel
theorem xr_118_4 : X_row 118 4 = some (4, (.iload_n 1, 1), (0, 0, 0)) := by decide +kernel
theorem xr_118_5 : X_row 118 5 = some (5, (.invokevirtual 110, 3), (4, 28, 0)) := by decide +kernel
theorem xr_118_8 : X_row 118 8 = some (8, (.ifCond .ne 5, 3), (0, 0, 0)) := by decide +kernel
theorem xr_118_11 : X_row 118 11 = some (11, (.iconst (-1), 1), (0, 0, 0)) := by decide +kernel
theorem xr_118_12 : X_row 118 12 = some (12, (.ireturn, 1), (0, 0, 0)) := by decide +kernel
theorem xr_119_0 : X_row 119 0 = some (0, (.aload_n 0, 1), (0, 0, 0)) := by decide +kernel
theorem xr_119_1 : X_row 119 1 = some (1, (.getfield 19, 3), (10, 1, 50)) := by decide +kernel
theorem xr_119_4 : X_row 119 4 = some (4, (.iload_n 1, 1), (0, 0, 0)) := by decide +kernel
theorem xr_119_5 : X_row 119 5 = some (5, (.invokevirtual 142, 3), (2, 32, 0)) := by decide +kernel
theorem xr_119_8 : X_row 119 8 = some (8, (.ifCond .eq 14, 3), (0, 0, 0)) := by decide +kernel
theorem xr_119_22 : X_row 119 22 = some (22, (.iconst (-1), 1), (0, 0, 0)) := by decide +kernel
theorem xr_119_23 : X_row 119 23 = some (23, (.ireturn, 1), (0, 0, 0)) := by decide +kernel
theorem xr_120_0 : X_row 120 0 = some (0, (.aload_n 0, 1), (0, 0, 0)) := by decide +kernel
theorem xr_120_1 : X_row 120 1 = some (1, (.getfield 19, 3), (10, 1, 50)) := by decide +kernel
theorem xr_120_4 : X_row 120 4 = some (4, (.iload_n 1, 1), (0, 0, 0)) := by decide +kernel
theorem xr_120_5 : X_row 120 5 = some (5, (.invokevirtual 149, 3), (3, 36, 0)) := by decide +kernel
theorem xr_120_8 : X_row 120 8 = some (8, (.ifCond .eq 14, 3), (0, 0, 0)) := by decide +kernel
theorem xr_120_11 : X_row 120 11 = some (11, (.aload_n 0, 1), (0, 0, 0)) := by decide +kernel
theorem xr_120_12 : X_row 120 12 = some (12, (.getfield 19, 3), (10, 1, 50)) := by decide +kernel
theorem xr_120_15 : X_row 120 15 = some (15, (.iload_n 2, 1), (0, 0, 0)) := by decide +kernel
theorem xr_120_16 : X_row 120 16 = some (16, (.invokevirtual 149, 3), (3, 36, 0)) := by decide +kernel
theorem xr_120_19 : X_row 120 19 = some (19, (.ifCond .ne 5, 3), (0, 0, 0)) := by decide +kernel
theorem xr_120_22 : X_row 120 22 = some (22, (.iconst (-1), 1), (0, 0, 0)) := by decide +kernel
theorem xr_120_23 : X_row 120 23 = some (23, (.ireturn, 1), (0, 0, 0)) := by decide +kernel
theorem xr_120_24 : X_row 120 24 = some (24, (.aload_n 0, 1), (0, 0, 0)) := by decide +kernel
theorem xr_120_25 : X_row 120 25 = some (25, (.getfield 19, 3), (10, 1, 50)) := by decide +kernel
theorem xr_120_28 : X_row 120 28 = some (28, (.iload_n 1, 1), (0, 0, 0)) := by decide +kernel
theorem xr_120_29 : X_row 120 29 = some (29, (.iload_n 2, 1), (0, 0, 0)) := by decide +kernel
theorem xr_120_30 : X_row 120 30 = some (30, (.invokevirtual 152, 3), (12, 38, 0)) := by decide +kernel
theorem xr_120_33 : X_row 120 33 = some (33, (.ifCond .eq 7, 3), (0, 0, 0)) := by decide +kernel
theorem xr_120_36 : X_row 120 36 = some (36, (.iconst 1, 1), (0, 0, 0)) := by decide +kernel
theorem xr_120_37 : X_row 120 37 = some (37, (.goto 4, 3), (0, 0, 0)) := by decide +kernel
theorem xr_120_41 : X_row 120 41 = some (41, (.ireturn, 1), (0, 0, 0)) := by decide +kernel
theorem xr_122_0 : X_row 122 0 = some (0, (.iload_n 1, 1), (0, 0, 0)) := by decide +kernel
theorem xr_122_1 : X_row 122 1 = some (1, (.ifCond .lt 19, 3), (0, 0, 0)) := by decide +kernel
theorem xr_122_4 : X_row 122 4 = some (4, (.iload_n 2, 1), (0, 0, 0)) := by decide +kernel
theorem xr_122_5 : X_row 122 5 = some (5, (.aload_n 0, 1), (0, 0, 0)) := by decide +kernel
theorem xr_122_6 : X_row 122 6 = some (6, (.getfield 38, 3), (10, 4, 56)) := by decide +kernel
theorem xr_122_9 : X_row 122 9 = some (9, (.getfield 88, 3), (6, 0, 31)) := by decide +kernel
theorem xr_122_12 : X_row 122 12 = some (12, (.if_icmp .gt 8, 3), (0, 0, 0)) := by decide +kernel
theorem xr_122_15 : X_row 122 15 = some (15, (.iload_n 1, 1), (0, 0, 0)) := by decide +kernel
theorem xr_122_16 : X_row 122 16 = some (16, (.iload_n 2, 1), (0, 0, 0)) := by decide +kernel
theorem xr_122_17 : X_row 122 17 = some (17, (.if_icmp .lt 5, 3), (0, 0, 0)) := by decide +kernel
theorem xr_122_20 : X_row 122 20 = some (20, (.lconst 0, 1), (0, 0, 0)) := by decide +kernel
theorem xr_122_21 : X_row 122 21 = some (21, (.lreturn, 1), (0, 0, 0)) := by decide +kernel
theorem xr_124_0 : X_row 124 0 = some (0, (.lload_n 1, 1), (0, 0, 0)) := by decide +kernel
theorem xr_124_1 : X_row 124 1 = some (1, (.lconst 0, 1), (0, 0, 0)) := by decide +kernel
theorem xr_124_2 : X_row 124 2 = some (2, (.lcmp, 1), (0, 0, 0)) := by decide +kernel
theorem xr_124_3 : X_row 124 3 = some (3, (.ifCond .lt 13, 3), (0, 0, 0)) := by decide +kernel
theorem xr_124_6 : X_row 124 6 = some (6, (.aload_n 0, 1), (0, 0, 0)) := by decide +kernel
theorem xr_124_7 : X_row 124 7 = some (7, (.getfield 38, 3), (10, 4, 56)) := by decide +kernel
theorem xr_124_10 : X_row 124 10 = some (10, (.getfield 88, 3), (6, 0, 31)) := by decide +kernel
theorem xr_124_13 : X_row 124 13 = some (13, (.ifCond .ne 5, 3), (0, 0, 0)) := by decide +kernel
theorem xr_124_16 : X_row 124 16 = some (16, (.iconst (-1), 1), (0, 0, 0)) := by decide +kernel
theorem xr_124_17 : X_row 124 17 = some (17, (.ireturn, 1), (0, 0, 0)) := by decide +kernel
theorem xr_125_0 : X_row 125 0 = some (0, (.iload_n 1, 1), (0, 0, 0)) := by decide +kernel
theorem xr_125_1 : X_row 125 1 = some (1, (.ifCond .lt 14, 3), (0, 0, 0)) := by decide +kernel
theorem xr_125_4 : X_row 125 4 = some (4, (.iload_n 1, 1), (0, 0, 0)) := by decide +kernel
theorem xr_125_5 : X_row 125 5 = some (5, (.aload_n 0, 1), (0, 0, 0)) := by decide +kernel
theorem xr_125_6 : X_row 125 6 = some (6, (.getfield 45, 3), (10, 5, 58)) := by decide +kernel
theorem xr_125_9 : X_row 125 9 = some (9, (.getfield 109, 3), (5, 0, 33)) := by decide +kernel
theorem xr_125_12 : X_row 125 12 = some (12, (.if_icmp .lt 5, 3), (0, 0, 0)) := by decide +kernel
theorem xr_125_15 : X_row 125 15 = some (15, (.iconst (-1), 1), (0, 0, 0)) := by decide +kernel
theorem xr_125_16 : X_row 125 16 = some (16, (.ireturn, 1), (0, 0, 0)) := by decide +kernel
theorem xr_126_0 : X_row 126 0 = some (0, (.aload_n 0, 1), (0, 0, 0)) := by decide +kernel
theorem xr_126_1 : X_row 126 1 = some (1, (.getfield 19, 3), (10, 1, 50)) := by decide +kernel
theorem xr_126_4 : X_row 126 4 = some (4, (.iload_n 1, 1), (0, 0, 0)) := by decide +kernel
theorem xr_126_5 : X_row 126 5 = some (5, (.invokevirtual 110, 3), (4, 28, 0)) := by decide +kernel
theorem xr_126_8 : X_row 126 8 = some (8, (.ifCond .ne 5, 3), (0, 0, 0)) := by decide +kernel
theorem xr_126_11 : X_row 126 11 = some (11, (.iconst 0, 1), (0, 0, 0)) := by decide +kernel
theorem xr_126_12 : X_row 126 12 = some (12, (.ireturn, 1), (0, 0, 0)) := by decide +kernel
theorem xr_128_0 : X_row 128 0 = some (0, (.iload_n 1, 1), (0, 0, 0)) := by decide +kernel
theorem xr_128_1 : X_row 128 1 = some (1, (.ifCond .ne 11, 3), (0, 0, 0)) := by decide +kernel
theorem xr_128_4 : X_row 128 4 = some (4, (.aload_n 0, 1), (0, 0, 0)) := by decide +kernel
theorem xr_128_5 : X_row 128 5 = some (5, (.getfield 72, 3), (10, 8, 64)) := by decide +kernel
theorem xr_128_8 : X_row 128 8 = some (8, (.getfield 201, 3), (9, 2, 45)) := by decide +kernel
theorem xr_128_11 : X_row 128 11 = some (11, (.ireturn, 1), (0, 0, 0)) := by decide +kernel
theorem xr_128_12 : X_row 128 12 = some (12, (.iload_n 1, 1), (0, 0, 0)) := by decide +kernel
theorem xr_128_13 : X_row 128 13 = some (13, (.iconst 1, 1), (0, 0, 0)) := by decide +kernel
theorem xr_128_14 : X_row 128 14 = some (14, (.if_icmp .ne 13, 3), (0, 0, 0)) := by decide +kernel
theorem xr_128_17 : X_row 128 17 = some (17, (.aload_n 0, 1), (0, 0, 0)) := by decide +kernel
theorem xr_128_18 : X_row 128 18 = some (18, (.getfield 72, 3), (10, 8, 64)) := by decide +kernel
theorem xr_128_21 : X_row 128 21 = some (21, (.getfield 204, 3), (9, 3, 47)) := by decide +kernel
theorem xr_128_24 : X_row 128 24 = some (24, (.goto 4, 3), (0, 0, 0)) := by decide +kernel
theorem xr_128_27 : X_row 128 27 = some (27, (.iconst (-1), 1), (0, 0, 0)) := by decide +kernel
theorem xr_128_28 : X_row 128 28 = some (28, (.ireturn, 1), (0, 0, 0)) := by decide +kernel
theorem xr_131_0 : X_row 131 0 = some (0, (.iload_n 0, 1), (0, 0, 0)) := by decide +kernel
theorem xr_131_1 : X_row 131 1 = some (1, (.iload_n 1, 1), (0, 0, 0)) := by decide +kernel
theorem xr_131_2 : X_row 131 2 = some (2, (.ishr, 1), (0, 0, 0)) := by decide +kernel
theorem xr_131_3 : X_row 131 3 = some (3, (.iconst 1, 1), (0, 0, 0)) := by decide +kernel
theorem xr_131_4 : X_row 131 4 = some (4, (.iand, 1), (0, 0, 0)) := by decide +kernel
theorem xr_131_5 : X_row 131 5 = some (5, (.iconst 1, 1), (0, 0, 0)) := by decide +kernel
theorem xr_131_6 : X_row 131 6 = some (6, (.if_icmp .ne 7, 3), (0, 0, 0)) := by decide +kernel
theorem xr_131_9 : X_row 131 9 = some (9, (.iconst 1, 1), (0, 0, 0)) := by decide +kernel
theorem xr_131_10 : X_row 131 10 = some (10, (.goto 4, 3), (0, 0, 0)) := by decide +kernel
theorem xr_131_14 : X_row 131 14 = some (14, (.ireturn, 1), (0, 0, 0)) := by decide +kernel
theorem xr_163_0 : X_row 163 0 = some (0, (.iload_n 1, 1), (0, 0, 0)) := by decide +kernel
theorem xr_163_1 : X_row 163 1 = some (1, (.ifCond .ne 10, 3), (0, 0, 0)) := by decide +kernel
theorem xr_163_4 : X_row 163 4 = some (4, (.aload_n 0, 1), (0, 0, 0)) := by decide +kernel
theorem xr_163_5 : X_row 163 5 = some (5, (.getfield 11, 3), (11, 5, 10)) := by decide +kernel
theorem xr_163_8 : X_row 163 8 = some (8, (.goto 16, 3), (0, 0, 0)) := by decide +kernel
theorem xr_163_11 : X_row 163 11 = some (11, (.iload_n 1, 1), (0, 0, 0)) := by decide +kernel
theorem xr_163_12 : X_row 163 12 = some (12, (.iconst 1, 1), (0, 0, 0)) := by decide +kernel
theorem xr_163_13 : X_row 163 13 = some (13, (.if_icmp .ne 10, 3), (0, 0, 0)) := by decide +kernel
theorem xr_163_16 : X_row 163 16 = some (16, (.aload_n 0, 1), (0, 0, 0)) := by decide +kernel
theorem xr_163_17 : X_row 163 17 = some (17, (.getfield 14, 3), (11, 6, 12)) := by decide +kernel
theorem xr_163_20 : X_row 163 20 = some (20, (.goto 4, 3), (0, 0, 0)) := by decide +kernel
theorem xr_163_23 : X_row 163 23 = some (23, (.iconst (-1), 1), (0, 0, 0)) := by decide +kernel
theorem xr_163_24 : X_row 163 24 = some (24, (.ireturn, 1), (0, 0, 0)) := by decide +kernel
theorem xr_164_0 : X_row 164 0 = some (0, (.iload_n 1, 1), (0, 0, 0)) := by decide +kernel
theorem xr_164_1 : X_row 164 1 = some (1, (.tableswitch 69 0 5 #[39, 44, 49, 54, 59, 64], 39), (0, 0, 0)) := by decide +kernel
theorem xr_164_40 : X_row 164 40 = some (40, (.aload_n 0, 1), (0, 0, 0)) := by decide +kernel
theorem xr_164_41 : X_row 164 41 = some (41, (.getfield 84, 3), (11, 28, 56)) := by decide +kernel
theorem xr_164_44 : X_row 164 44 = some (44, (.ireturn, 1), (0, 0, 0)) := by decide +kernel
theorem xr_164_45 : X_row 164 45 = some (45, (.aload_n 0, 1), (0, 0, 0)) := by decide +kernel
theorem xr_164_46 : X_row 164 46 = some (46, (.getfield 94, 3), (11, 29, 58)) := by decide +kernel
theorem xr_164_49 : X_row 164 49 = some (49, (.ireturn, 1), (0, 0, 0)) := by decide +kernel
theorem xr_164_50 : X_row 164 50 = some (50, (.aload_n 0, 1), (0, 0, 0)) := by decide +kernel
theorem xr_164_51 : X_row 164 51 = some (51, (.getfield 138, 3), (11, 30, 60)) := by decide +kernel
theorem xr_164_54 : X_row 164 54 = some (54, (.ireturn, 1), (0, 0, 0)) := by decide +kernel
theorem xr_164_55 : X_row 164 55 = some (55, (.aload_n 0, 1), (0, 0, 0)) := by decide +kernel
theorem xr_164_56 : X_row 164 56 = some (56, (.getfield 314, 3), (11, 38, 76)) := by decide +kernel
theorem xr_164_59 : X_row 164 59 = some (59, (.ireturn, 1), (0, 0, 0)) := by decide +kernel
theorem xr_164_60 : X_row 164 60 = some (60, (.aload_n 0, 1), (0, 0, 0)) := by decide +kernel
theorem xr_164_61 : X_row 164 61 = some (61, (.getfield 317, 3), (11, 49, 98)) := by decide +kernel
theorem xr_164_64 : X_row 164 64 = some (64, (.ireturn, 1), (0, 0, 0)) := by decide +kernel
theorem xr_164_65 : X_row 164 65 = some (65, (.aload_n 0, 1), (0, 0, 0)) := by decide +kernel
theorem xr_164_66 : X_row 164 66 = some (66, (.getfield 293, 3), (11, 1, 2)) := by decide +kernel
theorem xr_164_69 : X_row 164 69 = some (69, (.ireturn, 1), (0, 0, 0)) := by decide +kernel
theorem xr_164_70 : X_row 164 70 = some (70, (.iconst (-1), 1), (0, 0, 0)) := by decide +kernel
theorem xr_164_71 : X_row 164 71 = some (71, (.ireturn, 1), (0, 0, 0)) := by decide +kernel
theorem xr_165_0 : X_row 165 0 = some (0, (.iload_n 1, 1), (0, 0, 0)) := by decide +kernel
theorem xr_165_1 : X_row 165 1 = some (1, (.ifCond .lt 15, 3), (0, 0, 0)) := by decide +kernel
theorem xr_165_4 : X_row 165 4 = some (4, (.iload_n 1, 1), (0, 0, 0)) := by decide +kernel
theorem xr_165_5 : X_row 165 5 = some (5, (.aload_n 0, 1), (0, 0, 0)) := by decide +kernel
theorem xr_165_6 : X_row 165 6 = some (6, (.getfield 138, 3), (11, 30, 60)) := by decide +kernel
theorem xr_165_9 : X_row 165 9 = some (9, (.if_icmp .ge 7, 3), (0, 0, 0)) := by decide +kernel
theorem xr_165_16 : X_row 165 16 = some (16, (.iconst 0, 1), (0, 0, 0)) := by decide +kernel
theorem xr_165_17 : X_row 165 17 = some (17, (.ireturn, 1), (0, 0, 0)) := by decide +kernel
theorem xr_166_0 : X_row 166 0 = some (0, (.aload_n 0, 1), (0, 0, 0)) := by decide +kernel
theorem xr_166_1 : X_row 166 1 = some (1, (.iload_n 1, 1), (0, 0, 0)) := by decide +kernel
theorem xr_166_2 : X_row 166 2 = some (2, (.invokevirtual 324, 3), (165, 50, 0)) := by decide +kernel
theorem xr_166_5 : X_row 166 5 = some (5, (.ifCond .ne 5, 3), (0, 0, 0)) := by decide +kernel
theorem xr_166_8 : X_row 166 8 = some (8, (.iconst (-1), 1), (0, 0, 0)) := by decide +kernel
theorem xr_166_9 : X_row 166 9 = some (9, (.ireturn, 1), (0, 0, 0)) := by decide +kernel
theorem xr_167_0 : X_row 167 0 = some (0, (.iload_n 1, 1), (0, 0, 0)) := by decide +kernel
theorem xr_167_1 : X_row 167 1 = some (1, (.ifCond .lt 23, 3), (0, 0, 0)) := by decide +kernel
theorem xr_167_4 : X_row 167 4 = some (4, (.iload_n 1, 1), (0, 0, 0)) := by decide +kernel
theorem xr_167_5 : X_row 167 5 = some (5, (.aload_n 0, 1), (0, 0, 0)) := by decide +kernel
theorem xr_167_6 : X_row 167 6 = some (6, (.getfield 84, 3), (11, 28, 56)) := by decide +kernel
theorem xr_167_9 : X_row 167 9 = some (9, (.if_icmp .ge 15, 3), (0, 0, 0)) := by decide +kernel
theorem xr_167_24 : X_row 167 24 = some (24, (.iconst (-1), 1), (0, 0, 0)) := by decide +kernel
theorem xr_167_25 : X_row 167 25 = some (25, (.goto 17, 3), (0, 0, 0)) := by decide +kernel
theorem xr_167_42 : X_row 167 42 = some (42, (.ireturn, 1), (0, 0, 0)) := by decide +kernel
theorem xr_168_0 : X_row 168 0 = some (0, (.iload_n 1, 1), (0, 0, 0)) := by decide +kernel
theorem xr_168_1 : X_row 168 1 = some (1, (.istore_n 3, 1), (0, 0, 0)) := by decide +kernel
theorem xr_168_2 : X_row 168 2 = some (2, (.iload_n 3, 1), (0, 0, 0)) := by decide +kernel
theorem xr_168_3 : X_row 168 3 = some (3, (.ifCond .lt 26, 3), (0, 0, 0)) := by decide +kernel
theorem xr_168_6 : X_row 168 6 = some (6, (.iload_n 3, 1), (0, 0, 0)) := by decide +kernel
theorem xr_168_7 : X_row 168 7 = some (7, (.iload_n 2, 1), (0, 0, 0)) := by decide +kernel
theorem xr_168_8 : X_row 168 8 = some (8, (.if_icmp .eq 21, 3), (0, 0, 0)) := by decide +kernel
theorem xr_168_29 : X_row 168 29 = some (29, (.iload_n 3, 1), (0, 0, 0)) := by decide +kernel
theorem xr_168_30 : X_row 168 30 = some (30, (.iload_n 2, 1), (0, 0, 0)) := by decide +kernel
theorem xr_168_31 : X_row 168 31 = some (31, (.if_icmp .ne 7, 3), (0, 0, 0)) := by decide +kernel
theorem xr_168_34 : X_row 168 34 = some (34, (.iconst 1, 1), (0, 0, 0)) := by decide +kernel
theorem xr_168_35 : X_row 168 35 = some (35, (.goto 4, 3), (0, 0, 0)) := by decide +kernel
theorem xr_168_39 : X_row 168 39 = some (39, (.ireturn, 1), (0, 0, 0)) := by decide +kernel
theorem xr_169_0 : X_row 169 0 = some (0, (.iload_n 1, 1), (0, 0, 0)) := by decide +kernel
theorem xr_169_1 : X_row 169 1 = some (1, (.ifCond .lt 23, 3), (0, 0, 0)) := by decide +kernel
theorem xr_169_4 : X_row 169 4 = some (4, (.iload_n 1, 1), (0, 0, 0)) := by decide +kernel
theorem xr_169_5 : X_row 169 5 = some (5, (.aload_n 0, 1), (0, 0, 0)) := by decide +kernel
theorem xr_169_6 : X_row 169 6 = some (6, (.getfield 94, 3), (11, 29, 58)) := by decide +kernel
theorem xr_169_9 : X_row 169 9 = some (9, (.if_icmp .ge 15, 3), (0, 0, 0)) := by decide +kernel
theorem xr_169_12 : X_row 169 12 = some (12, (.iload_n 2, 1), (0, 0, 0)) := by decide +kernel
theorem xr_169_13 : X_row 169 13 = some (13, (.ifCond .lt 11, 3), (0, 0, 0)) := by decide +kernel
theorem xr_169_16 : X_row 169 16 = some (16, (.iload_n 2, 1), (0, 0, 0)) := by decide +kernel
theorem xr_169_17 : X_row 169 17 = some (17, (.aload_n 0, 1), (0, 0, 0)) := by decide +kernel
theorem xr_169_18 : X_row 169 18 = some (18, (.getfield 94, 3), (11, 29, 58)) := by decide +kernel
theorem xr_169_21 : X_row 169 21 = some (21, (.if_icmp .lt 7, 3), (0, 0, 0)) := by decide +kernel
theorem xr_169_24 : X_row 169 24 = some (24, (.iconst (-1), 1), (0, 0, 0)) := by decide +kernel
theorem xr_169_25 : X_row 169 25 = some (25, (.goto 17, 3), (0, 0, 0)) := by decide +kernel
theorem xr_169_28 : X_row 169 28 = some (28, (.aload_n 0, 1), (0, 0, 0)) := by decide +kernel
theorem xr_169_29 : X_row 169 29 = some (29, (.iload_n 1, 1), (0, 0, 0)) := by decide +kernel
theorem xr_169_30 : X_row 169 30 = some (30, (.iload_n 2, 1), (0, 0, 0)) := by decide +kernel
theorem xr_169_31 : X_row 169 31 = some (31, (.invokevirtual 327, 3), (168, 52, 0)) := by decide +kernel
theorem xr_169_34 : X_row 169 34 = some (34, (.ifCond .eq 7, 3), (0, 0, 0)) := by decide +kernel
theorem xr_169_37 : X_row 169 37 = some (37, (.iconst 1, 1), (0, 0, 0)) := by decide +kernel
theorem xr_169_38 : X_row 169 38 = some (38, (.goto 4, 3), (0, 0, 0)) := by decide +kernel
theorem xr_169_42 : X_row 169 42 = some (42, (.ireturn, 1), (0, 0, 0)) := by decide +kernel
theorem xr_183_0 : X_row 183 0 = some (0, (.iload_n 1, 1), (0, 0, 0)) := by decide +kernel
theorem xr_183_1 : X_row 183 1 = some (1, (.ifCond .lt 16, 3), (0, 0, 0)) := by decide +kernel
theorem xr_183_4 : X_row 183 4 = some (4, (.iload_n 2, 1), (0, 0, 0)) := by decide +kernel
theorem xr_183_5 : X_row 183 5 = some (5, (.aload_n 0, 1), (0, 0, 0)) := by decide +kernel
theorem xr_183_6 : X_row 183 6 = some (6, (.getfield 314, 3), (11, 38, 76)) := by decide +kernel
theorem xr_183_9 : X_row 183 9 = some (9, (.if_icmp .gt 8, 3), (0, 0, 0)) := by decide +kernel
theorem xr_183_12 : X_row 183 12 = some (12, (.iload_n 1, 1), (0, 0, 0)) := by decide +kernel
theorem xr_183_13 : X_row 183 13 = some (13, (.iload_n 2, 1), (0, 0, 0)) := by decide +kernel
theorem xr_183_14 : X_row 183 14 = some (14, (.if_icmp .lt 5, 3), (0, 0, 0)) := by decide +kernel
theorem xr_183_17 : X_row 183 17 = some (17, (.lconst 0, 1), (0, 0, 0)) := by decide +kernel
theorem xr_183_18 : X_row 183 18 = some (18, (.lreturn, 1), (0, 0, 0)) := by decide +kernel
theorem xr_186_0 : X_row 186 0 = some (0, (.aload_n 0, 1), (0, 0, 0)) := by decide +kernel
theorem xr_186_1 : X_row 186 1 = some (1, (.getfield 314, 3), (11, 38, 76)) := by decide +kernel
theorem xr_186_4 : X_row 186 4 = some (4, (.ifCond .ne 7, 3), (0, 0, 0)) := by decide +kernel
theorem xr_186_7 : X_row 186 7 = some (7, (.lconst 0, 1), (0, 0, 0)) := by decide +kernel
theorem xr_186_8 : X_row 186 8 = some (8, (.goto 12, 3), (0, 0, 0)) := by decide +kernel
theorem xr_186_20 : X_row 186 20 = some (20, (.lstore_n 3, 1), (0, 0, 0)) := by decide +kernel
theorem xr_186_21 : X_row 186 21 = some (21, (.lload_n 1, 1), (0, 0, 0)) := by decide +kernel
theorem xr_186_22 : X_row 186 22 = some (22, (.lconst 0, 1), (0, 0, 0)) := by decide +kernel
theorem xr_186_23 : X_row 186 23 = some (23, (.lcmp, 1), (0, 0, 0)) := by decide +kernel
theorem xr_186_24 : X_row 186 24 = some (24, (.ifCond .lt 15, 3), (0, 0, 0)) := by decide +kernel
theorem xr_186_27 : X_row 186 27 = some (27, (.lload_n 3, 1), (0, 0, 0)) := by decide +kernel
theorem xr_186_28 : X_row 186 28 = some (28, (.lconst 0, 1), (0, 0, 0)) := by decide +kernel
theorem xr_186_29 : X_row 186 29 = some (29, (.lcmp, 1), (0, 0, 0)) := by decide +kernel
theorem xr_186_30 : X_row 186 30 = some (30, (.ifCond .lt 11, 3), (0, 0, 0)) := by decide +kernel
theorem xr_186_33 : X_row 186 33 = some (33, (.lload_n 1, 1), (0, 0, 0)) := by decide +kernel
theorem xr_186_34 : X_row 186 34 = some (34, (.lload_n 3, 1), (0, 0, 0)) := by decide +kernel
theorem xr_186_35 : X_row 186 35 = some (35, (.lcmp, 1), (0, 0, 0)) := by decide +kernel
theorem xr_186_36 : X_row 186 36 = some (36, (.ifCond .lt 5, 3), (0, 0, 0)) := by decide +kernel
theorem xr_186_39 : X_row 186 39 = some (39, (.iconst (-1), 1), (0, 0, 0)) := by decide +kernel
theorem xr_186_40 : X_row 186 40 = some (40, (.ireturn, 1), (0, 0, 0)) := by decide +kernel
theorem xr_190_0 : X_row 190 0 = some (0, (.iload_n 1, 1), (0, 0, 0)) := by decide +kernel
theorem xr_190_1 : X_row 190 1 = some (1, (.ifCond .lt 11, 3), (0, 0, 0)) := by decide +kernel
theorem xr_190_4 : X_row 190 4 = some (4, (.iload_n 1, 1), (0, 0, 0)) := by decide +kernel
theorem xr_190_5 : X_row 190 5 = some (5, (.aload_n 0, 1), (0, 0, 0)) := by decide +kernel
theorem xr_190_6 : X_row 190 6 = some (6, (.getfield 317, 3), (11, 49, 98)) := by decide +kernel
theorem xr_190_9 : X_row 190 9 = some (9, (.if_icmp .lt 5, 3), (0, 0, 0)) := by decide +kernel
theorem xr_190_12 : X_row 190 12 = some (12, (.iconst (-1), 1), (0, 0, 0)) := by decide +kernel
theorem xr_190_13 : X_row 190 13 = some (13, (.ireturn, 1), (0, 0, 0)) := by decide +kernel
theorem xr_191_0 : X_row 191 0 = some (0, (.aload_n 0, 1), (0, 0, 0)) := by decide +kernel
theorem xr_191_1 : X_row 191 1 = some (1, (.iload_n 1, 1), (0, 0, 0)) := by decide +kernel
theorem xr_191_2 : X_row 191 2 = some (2, (.invokevirtual 324, 3), (165, 50, 0)) := by decide +kernel
theorem xr_191_5 : X_row 191 5 = some (5, (.ifCond .eq 37, 3), (0, 0, 0)) := by decide +kernel
theorem xr_191_42 : X_row 191 42 = some (42, (.iconst 0, 1), (0, 0, 0)) := by decide +kernel
theorem xr_191_43 : X_row 191 43 = some (43, (.ireturn, 1), (0, 0, 0)) := by decide +kernel
theorem xr_198_0 : X_row 198 0 = some (0, (.iload_n 1, 1), (0, 0, 0)) := by decide +kernel
theorem xr_198_1 : X_row 198 1 = some (1, (.ifCond .ne 21, 3), (0, 0, 0)) := by decide +kernel
theorem xr_198_4 : X_row 198 4 = some (4, (.aload_n 0, 1), (0, 0, 0)) := by decide +kernel
theorem xr_198_5 : X_row 198 5 = some (5, (.getfield 320, 3), (11, 68, 136)) := by decide +kernel
theorem xr_198_8 : X_row 198 8 = some (8, (.ifCond .eq 10, 3), (0, 0, 0)) := by decide +kernel
theorem xr_198_18 : X_row 198 18 = some (18, (.iconst 0, 1), (0, 0, 0)) := by decide +kernel
theorem xr_198_19 : X_row 198 19 = some (19, (.goto 23, 3), (0, 0, 0)) := by decide +kernel
theorem xr_198_22 : X_row 198 22 = some (22, (.iload_n 1, 1), (0, 0, 0)) := by decide +kernel
theorem xr_198_23 : X_row 198 23 = some (23, (.iconst 1, 1), (0, 0, 0)) := by decide +kernel
theorem xr_198_24 : X_row 198 24 = some (24, (.if_icmp .ne 17, 3), (0, 0, 0)) := by decide +kernel
theorem xr_198_27 : X_row 198 27 = some (27, (.aload_n 0, 1), (0, 0, 0)) := by decide +kernel
theorem xr_198_28 : X_row 198 28 = some (28, (.getfield 320, 3), (11, 68, 136)) := by decide +kernel
theorem xr_198_31 : X_row 198 31 = some (31, (.ifCond .eq 10, 3), (0, 0, 0)) := by decide +kernel
theorem xr_198_41 : X_row 198 41 = some (41, (.iconst (-1), 1), (0, 0, 0)) := by decide +kernel
theorem xr_198_42 : X_row 198 42 = some (42, (.ireturn, 1), (0, 0, 0)) := by decide +kernel
theorem xr_201_0 : X_row 201 0 = some (0, (.aload_n 0, 1), (0, 0, 0)) := by decide +kernel
theorem xr_201_1 : X_row 201 1 = some (1, (.getfield 293, 3), (11, 1, 2)) := by decide +kernel
theorem xr_201_4 : X_row 201 4 = some (4, (.bipush 20, 2), (0, 0, 0)) := by decide +kernel
theorem xr_201_6 : X_row 201 6 = some (6, (.iadd, 1), (0, 0, 0)) := by decide +kernel
theorem xr_201_7 : X_row 201 7 = some (7, (.sipush 2000, 3), (0, 0, 0)) := by decide +kernel
theorem xr_201_10 : X_row 201 10 = some (10, (.if_icmp .le 5, 3), (0, 0, 0)) := by decide +kernel
theorem xr_201_15 : X_row 201 15 = some (15, (.iconst 0, 1), (0, 0, 0)) := by decide +kernel
theorem xr_201_16 : X_row 201 16 = some (16, (.istore 6, 2), (0, 0, 0)) := by decide +kernel
theorem xr_201_18 : X_row 201 18 = some (18, (.iload 6, 2), (0, 0, 0)) := by decide +kernel
theorem xr_201_20 : X_row 201 20 = some (20, (.bipush 20, 2), (0, 0, 0)) := by decide +kernel
theorem xr_201_22 : X_row 201 22 = some (22, (.if_icmp .ge 83, 3), (0, 0, 0)) := by decide +kernel
theorem xr_201_25 : X_row 201 25 = some (25, (.iload 6, 2), (0, 0, 0)) := by decide +kernel
theorem xr_201_27 : X_row 201 27 = some (27, (.iconst 4, 1), (0, 0, 0)) := by decide +kernel
theorem xr_201_28 : X_row 201 28 = some (28, (.if_icmp .ge 7, 3), (0, 0, 0)) := by decide +kernel
theorem xr_201_31 : X_row 201 31 = some (31, (.iload_n 1, 1), (0, 0, 0)) := by decide +kernel
theorem xr_201_32 : X_row 201 32 = some (32, (.goto 39, 3), (0, 0, 0)) := by decide +kernel
theorem xr_201_35 : X_row 201 35 = some (35, (.iload 6, 2), (0, 0, 0)) := by decide +kernel
theorem xr_201_37 : X_row 201 37 = some (37, (.bipush 8, 2), (0, 0, 0)) := by decide +kernel
theorem xr_201_39 : X_row 201 39 = some (39, (.if_icmp .ge 7, 3), (0, 0, 0)) := by decide +kernel
theorem xr_201_42 : X_row 201 42 = some (42, (.iload_n 2, 1), (0, 0, 0)) := by decide +kernel
theorem xr_201_43 : X_row 201 43 = some (43, (.goto 28, 3), (0, 0, 0)) := by decide +kernel
theorem xr_201_46 : X_row 201 46 = some (46, (.iload 6, 2), (0, 0, 0)) := by decide +kernel
theorem xr_201_48 : X_row 201 48 = some (48, (.bipush 12, 2), (0, 0, 0)) := by decide +kernel
theorem xr_201_50 : X_row 201 50 = some (50, (.if_icmp .ge 7, 3), (0, 0, 0)) := by decide +kernel
theorem xr_201_53 : X_row 201 53 = some (53, (.iload_n 3, 1), (0, 0, 0)) := by decide +kernel
theorem xr_201_54 : X_row 201 54 = some (54, (.goto 17, 3), (0, 0, 0)) := by decide +kernel
theorem xr_201_57 : X_row 201 57 = some (57, (.iload 6, 2), (0, 0, 0)) := by decide +kernel
theorem xr_201_59 : X_row 201 59 = some (59, (.bipush 16, 2), (0, 0, 0)) := by decide +kernel
theorem xr_201_61 : X_row 201 61 = some (61, (.if_icmp .ge 8, 3), (0, 0, 0)) := by decide +kernel
theorem xr_201_64 : X_row 201 64 = some (64, (.iload 4, 2), (0, 0, 0)) := by decide +kernel
theorem xr_201_66 : X_row 201 66 = some (66, (.goto 5, 3), (0, 0, 0)) := by decide +kernel
theorem xr_201_69 : X_row 201 69 = some (69, (.iload 5, 2), (0, 0, 0)) := by decide +kernel
theorem xr_201_71 : X_row 201 71 = some (71, (.istore 7, 2), (0, 0, 0)) := by decide +kernel
theorem xr_201_73 : X_row 201 73 = some (73, (.aload_n 0, 1), (0, 0, 0)) := by decide +kernel
theorem xr_201_74 : X_row 201 74 = some (74, (.getfield 188, 3), (11, 0, 0)) := by decide +kernel
theorem xr_201_77 : X_row 201 77 = some (77, (.aload_n 0, 1), (0, 0, 0)) := by decide +kernel
theorem xr_201_78 : X_row 201 78 = some (78, (.getfield 293, 3), (11, 1, 2)) := by decide +kernel
theorem xr_201_81 : X_row 201 81 = some (81, (.iload 6, 2), (0, 0, 0)) := by decide +kernel
theorem xr_201_83 : X_row 201 83 = some (83, (.iadd, 1), (0, 0, 0)) := by decide +kernel
theorem xr_201_84 : X_row 201 84 = some (84, (.iload 7, 2), (0, 0, 0)) := by decide +kernel
theorem xr_201_86 : X_row 201 86 = some (86, (.bipush 24, 2), (0, 0, 0)) := by decide +kernel
theorem xr_201_88 : X_row 201 88 = some (88, (.bipush 8, 2), (0, 0, 0)) := by decide +kernel
theorem xr_201_90 : X_row 201 90 = some (90, (.iload 6, 2), (0, 0, 0)) := by decide +kernel
theorem xr_201_92 : X_row 201 92 = some (92, (.iconst 3, 1), (0, 0, 0)) := by decide +kernel
theorem xr_201_93 : X_row 201 93 = some (93, (.iand, 1), (0, 0, 0)) := by decide +kernel
theorem xr_201_94 : X_row 201 94 = some (94, (.imul, 1), (0, 0, 0)) := by decide +kernel
theorem xr_201_95 : X_row 201 95 = some (95, (.isub, 1), (0, 0, 0)) := by decide +kernel
theorem xr_201_96 : X_row 201 96 = some (96, (.ishr, 1), (0, 0, 0)) := by decide +kernel
theorem xr_201_97 : X_row 201 97 = some (97, (.i2b, 1), (0, 0, 0)) := by decide +kernel
theorem xr_201_98 : X_row 201 98 = some (98, (.bastore, 1), (0, 0, 0)) := by decide +kernel
theorem xr_201_99 : X_row 201 99 = some (99, (.iinc 6 1, 3), (0, 0, 0)) := by decide +kernel
theorem xr_201_102 : X_row 201 102 = some (102, (.goto (-84), 3), (0, 0, 0)) := by decide +kernel
theorem xr_201_105 : X_row 201 105 = some (105, (.aload_n 0, 1), (0, 0, 0)) := by decide +kernel
theorem xr_201_106 : X_row 201 106 = some (106, (.dup, 1), (0, 0, 0)) := by decide +kernel
theorem xr_201_107 : X_row 201 107 = some (107, (.getfield 293, 3), (11, 1, 2)) := by decide +kernel
theorem xr_201_110 : X_row 201 110 = some (110, (.bipush 20, 2), (0, 0, 0)) := by decide +kernel
theorem xr_201_112 : X_row 201 112 = some (112, (.iadd, 1), (0, 0, 0)) := by decide +kernel
theorem xr_201_113 : X_row 201 113 = some (113, (.putfield 293, 3), (11, 1, 2)) := by decide +kernel
theorem xr_201_116 : X_row 201 116 = some (116, (.aload_n 0, 1), (0, 0, 0)) := by decide +kernel
theorem xr_201_117 : X_row 201 117 = some (117, (.getfield 293, 3), (11, 1, 2)) := by decide +kernel
theorem xr_201_120 : X_row 201 120 = some (120, (.ireturn, 1), (0, 0, 0)) := by decide +kernel
theorem xr_202_0 : X_row 202 0 = some (0, (.iload_n 1, 1), (0, 0, 0)) := by decide +kernel
theorem xr_202_1 : X_row 202 1 = some (1, (.ifCond .lt 11, 3), (0, 0, 0)) := by decide +kernel
theorem xr_202_4 : X_row 202 4 = some (4, (.iload_n 1, 1), (0, 0, 0)) := by decide +kernel
theorem xr_202_5 : X_row 202 5 = some (5, (.aload_n 0, 1), (0, 0, 0)) := by decide +kernel
theorem xr_202_6 : X_row 202 6 = some (6, (.getfield 293, 3), (11, 1, 2)) := by decide +kernel
theorem xr_202_9 : X_row 202 9 = some (9, (.if_icmp .le 5, 3), (0, 0, 0)) := by decide +kernel
theorem xr_202_12 : X_row 202 12 = some (12, (.iconst (-1), 1), (0, 0, 0)) := by decide +kernel
theorem xr_202_13 : X_row 202 13 = some (13, (.ireturn, 1), (0, 0, 0)) := by decide +kernel
theorem xr_202_14 : X_row 202 14 = some (14, (.aload_n 0, 1), (0, 0, 0)) := by decide +kernel
theorem xr_202_15 : X_row 202 15 = some (15, (.iload_n 1, 1), (0, 0, 0)) := by decide +kernel
theorem xr_202_16 : X_row 202 16 = some (16, (.putfield 293, 3), (11, 1, 2)) := by decide +kernel
theorem xr_202_19 : X_row 202 19 = some (19, (.iload_n 1, 1), (0, 0, 0)) := by decide +kernel
theorem xr_202_20 : X_row 202 20 = some (20, (.ireturn, 1), (0, 0, 0)) := by decide +kernel
theorem xr_203_18 : X_row 203 18 = some (18, (.iload_n 3, 1), (0, 0, 0)) := by decide +kernel
theorem xr_203_19 : X_row 203 19 = some (19, (.aload_n 0, 1), (0, 0, 0)) := by decide +kernel
theorem xr_203_20 : X_row 203 20 = some (20, (.arraylength, 1), (1, 0, 0)) := by decide +kernel
theorem xr_203_21 : X_row 203 21 = some (21, (.bipush 6, 2), (0, 0, 0)) := by decide +kernel
theorem xr_203_23 : X_row 203 23 = some (23, (.isub, 1), (0, 0, 0)) := by decide +kernel
theorem xr_203_24 : X_row 203 24 = some (24, (.if_icmp .gt 570, 3), (0, 0, 0)) := by decide +kernel
theorem xr_203_116 : X_row 203 116 = some (116, (.aload_n 1, 1), (0, 0, 0)) := by decide +kernel
theorem xr_203_117 : X_row 203 117 = some (117, (.aload_n 0, 1), (0, 0, 0)) := by decide +kernel
theorem xr_203_118 : X_row 203 118 = some (118, (.iload_n 3, 1), (0, 0, 0)) := by decide +kernel
theorem xr_203_119 : X_row 203 119 = some (119, (.iconst 1, 1), (0, 0, 0)) := by decide +kernel
theorem xr_203_120 : X_row 203 120 = some (120, (.iadd, 1), (0, 0, 0)) := by decide +kernel
theorem xr_203_121 : X_row 203 121 = some (121, (.iaload, 1), (1, 0, 0)) := by decide +kernel
theorem xr_203_122 : X_row 203 122 = some (122, (.aload_n 0, 1), (0, 0, 0)) := by decide +kernel
theorem xr_203_123 : X_row 203 123 = some (123, (.iload_n 3, 1), (0, 0, 0)) := by decide +kernel
theorem xr_203_124 : X_row 203 124 = some (124, (.iconst 2, 1), (0, 0, 0)) := by decide +kernel
theorem xr_203_125 : X_row 203 125 = some (125, (.iadd, 1), (0, 0, 0)) := by decide +kernel
theorem xr_203_126 : X_row 203 126 = some (126, (.iaload, 1), (1, 0, 0)) := by decide +kernel
theorem xr_203_127 : X_row 203 127 = some (127, (.aload_n 0, 1), (0, 0, 0)) := by decide +kernel
theorem xr_203_128 : X_row 203 128 = some (128, (.iload_n 3, 1), (0, 0, 0)) := by decide +kernel
theorem xr_203_129 : X_row 203 129 = some (129, (.iconst 3, 1), (0, 0, 0)) := by decide +kernel
theorem xr_203_130 : X_row 203 130 = some (130, (.iadd, 1), (0, 0, 0)) := by decide +kernel
theorem xr_203_131 : X_row 203 131 = some (131, (.iaload, 1), (1, 0, 0)) := by decide +kernel
theorem xr_203_132 : X_row 203 132 = some (132, (.aload_n 0, 1), (0, 0, 0)) := by decide +kernel
theorem xr_203_133 : X_row 203 133 = some (133, (.iload_n 3, 1), (0, 0, 0)) := by decide +kernel
theorem xr_203_134 : X_row 203 134 = some (134, (.iconst 4, 1), (0, 0, 0)) := by decide +kernel
theorem xr_203_135 : X_row 203 135 = some (135, (.iadd, 1), (0, 0, 0)) := by decide +kernel
theorem xr_203_136 : X_row 203 136 = some (136, (.iaload, 1), (1, 0, 0)) := by decide +kernel
theorem xr_203_137 : X_row 203 137 = some (137, (.aload_n 0, 1), (0, 0, 0)) := by decide +kernel
theorem xr_203_138 : X_row 203 138 = some (138, (.iload_n 3, 1), (0, 0, 0)) := by decide +kernel
theorem xr_203_139 : X_row 203 139 = some (139, (.iconst 5, 1), (0, 0, 0)) := by decide +kernel
theorem xr_203_140 : X_row 203 140 = some (140, (.iadd, 1), (0, 0, 0)) := by decide +kernel
theorem xr_203_141 : X_row 203 141 = some (141, (.iaload, 1), (1, 0, 0)) := by decide +kernel
theorem xr_203_142 : X_row 203 142 = some (142, (.invokevirtual 13, 3), (113, 2, 0)) := by decide +kernel
theorem xr_203_145 : X_row 203 145 = some (145, (.aload_n 2, 1), (0, 0, 0)) := by decide +kernel
theorem xr_203_146 : X_row 203 146 = some (146, (.aload_n 0, 1), (0, 0, 0)) := by decide +kernel
theorem xr_203_147 : X_row 203 147 = some (147, (.iload_n 3, 1), (0, 0, 0)) := by decide +kernel
theorem xr_203_148 : X_row 203 148 = some (148, (.iconst 1, 1), (0, 0, 0)) := by decide +kernel
theorem xr_203_149 : X_row 203 149 = some (149, (.iadd, 1), (0, 0, 0)) := by decide +kernel
theorem xr_203_150 : X_row 203 150 = some (150, (.iaload, 1), (1, 0, 0)) := by decide +kernel
theorem xr_203_151 : X_row 203 151 = some (151, (.aload_n 0, 1), (0, 0, 0)) := by decide +kernel
theorem xr_203_152 : X_row 203 152 = some (152, (.iload_n 3, 1), (0, 0, 0)) := by decide +kernel
theorem xr_203_153 : X_row 203 153 = some (153, (.iconst 2, 1), (0, 0, 0)) := by decide +kernel
theorem xr_203_154 : X_row 203 154 = some (154, (.iadd, 1), (0, 0, 0)) := by decide +kernel
theorem xr_203_155 : X_row 203 155 = some (155, (.iaload, 1), (1, 0, 0)) := by decide +kernel
theorem xr_203_156 : X_row 203 156 = some (156, (.aload_n 0, 1), (0, 0, 0)) := by decide +kernel
theorem xr_203_157 : X_row 203 157 = some (157, (.iload_n 3, 1), (0, 0, 0)) := by decide +kernel
theorem xr_203_158 : X_row 203 158 = some (158, (.iconst 3, 1), (0, 0, 0)) := by decide +kernel
theorem xr_203_159 : X_row 203 159 = some (159, (.iadd, 1), (0, 0, 0)) := by decide +kernel
theorem xr_203_160 : X_row 203 160 = some (160, (.iaload, 1), (1, 0, 0)) := by decide +kernel
theorem xr_203_161 : X_row 203 161 = some (161, (.aload_n 0, 1), (0, 0, 0)) := by decide +kernel
theorem xr_203_162 : X_row 203 162 = some (162, (.iload_n 3, 1), (0, 0, 0)) := by decide +kernel
theorem xr_203_163 : X_row 203 163 = some (163, (.iconst 4, 1), (0, 0, 0)) := by decide +kernel
theorem xr_203_164 : X_row 203 164 = some (164, (.iadd, 1), (0, 0, 0)) := by decide +kernel
theorem xr_203_165 : X_row 203 165 = some (165, (.iaload, 1), (1, 0, 0)) := by decide +kernel
theorem xr_203_166 : X_row 203 166 = some (166, (.aload_n 0, 1), (0, 0, 0)) := by decide +kernel
theorem xr_203_167 : X_row 203 167 = some (167, (.iload_n 3, 1), (0, 0, 0)) := by decide +kernel
theorem xr_203_168 : X_row 203 168 = some (168, (.iconst 5, 1), (0, 0, 0)) := by decide +kernel
theorem xr_203_169 : X_row 203 169 = some (169, (.iadd, 1), (0, 0, 0)) := by decide +kernel
theorem xr_203_170 : X_row 203 170 = some (170, (.iaload, 1), (1, 0, 0)) := by decide +kernel
theorem xr_203_171 : X_row 203 171 = some (171, (.invokevirtual 17, 3), (201, 68, 0)) := by decide +kernel
theorem xr_203_174 : X_row 203 174 = some (174, (.if_icmp .eq 414, 3), (0, 0, 0)) := by decide +kernel
theorem xr_203_179 : X_row 203 179 = some (179, (.aload_n 1, 1), (0, 0, 0)) := by decide +kernel
theorem xr_203_180 : X_row 203 180 = some (180, (.aload_n 0, 1), (0, 0, 0)) := by decide +kernel
theorem xr_203_181 : X_row 203 181 = some (181, (.iload_n 3, 1), (0, 0, 0)) := by decide +kernel
theorem xr_203_182 : X_row 203 182 = some (182, (.iconst 1, 1), (0, 0, 0)) := by decide +kernel
theorem xr_203_183 : X_row 203 183 = some (183, (.iadd, 1), (0, 0, 0)) := by decide +kernel
theorem xr_203_184 : X_row 203 184 = some (184, (.iaload, 1), (1, 0, 0)) := by decide +kernel
theorem xr_203_185 : X_row 203 185 = some (185, (.invokevirtual 18, 3), (114, 4, 0)) := by decide +kernel
theorem xr_203_188 : X_row 203 188 = some (188, (.aload_n 2, 1), (0, 0, 0)) := by decide +kernel
theorem xr_203_189 : X_row 203 189 = some (189, (.aload_n 0, 1), (0, 0, 0)) := by decide +kernel
theorem xr_203_190 : X_row 203 190 = some (190, (.iload_n 3, 1), (0, 0, 0)) := by decide +kernel
theorem xr_203_191 : X_row 203 191 = some (191, (.iconst 1, 1), (0, 0, 0)) := by decide +kernel
theorem xr_203_192 : X_row 203 192 = some (192, (.iadd, 1), (0, 0, 0)) := by decide +kernel
theorem xr_203_193 : X_row 203 193 = some (193, (.iaload, 1), (1, 0, 0)) := by decide +kernel
theorem xr_203_194 : X_row 203 194 = some (194, (.invokevirtual 22, 3), (202, 70, 0)) := by decide +kernel
theorem xr_203_197 : X_row 203 197 = some (197, (.if_icmp .eq 391, 3), (0, 0, 0)) := by decide +kernel
theorem xr_203_202 : X_row 203 202 = some (202, (.aload_n 1, 1), (0, 0, 0)) := by decide +kernel
theorem xr_203_203 : X_row 203 203 = some (203, (.invokevirtual 23, 3), (115, 6, 0)) := by decide +kernel
theorem xr_203_206 : X_row 203 206 = some (206, (.aload_n 2, 1), (0, 0, 0)) := by decide +kernel
theorem xr_203_207 : X_row 203 207 = some (207, (.invokevirtual 27, 3), (162, 38, 0)) := by decide +kernel
theorem xr_203_210 : X_row 203 210 = some (210, (.if_icmp .eq 378, 3), (0, 0, 0)) := by decide +kernel
theorem xr_203_215 : X_row 203 215 = some (215, (.aload_n 1, 1), (0, 0, 0)) := by decide +kernel
theorem xr_203_216 : X_row 203 216 = some (216, (.aload_n 0, 1), (0, 0, 0)) := by decide +kernel
theorem xr_203_217 : X_row 203 217 = some (217, (.iload_n 3, 1), (0, 0, 0)) := by decide +kernel
theorem xr_203_218 : X_row 203 218 = some (218, (.iconst 1, 1), (0, 0, 0)) := by decide +kernel
theorem xr_203_219 : X_row 203 219 = some (219, (.iadd, 1), (0, 0, 0)) := by decide +kernel
theorem xr_203_220 : X_row 203 220 = some (220, (.iaload, 1), (1, 0, 0)) := by decide +kernel
theorem xr_203_221 : X_row 203 221 = some (221, (.invokevirtual 28, 3), (116, 8, 0)) := by decide +kernel
theorem xr_203_224 : X_row 203 224 = some (224, (.aload_n 2, 1), (0, 0, 0)) := by decide +kernel
theorem xr_203_225 : X_row 203 225 = some (225, (.aload_n 0, 1), (0, 0, 0)) := by decide +kernel
theorem xr_203_226 : X_row 203 226 = some (226, (.iload_n 3, 1), (0, 0, 0)) := by decide +kernel
theorem xr_203_227 : X_row 203 227 = some (227, (.iconst 1, 1), (0, 0, 0)) := by decide +kernel
theorem xr_203_228 : X_row 203 228 = some (228, (.iadd, 1), (0, 0, 0)) := by decide +kernel
theorem xr_203_229 : X_row 203 229 = some (229, (.iaload, 1), (1, 0, 0)) := by decide +kernel
theorem xr_203_230 : X_row 203 230 = some (230, (.invokevirtual 31, 3), (163, 40, 0)) := by decide +kernel
theorem xr_203_233 : X_row 203 233 = some (233, (.if_icmp .eq 355, 3), (0, 0, 0)) := by decide +kernel
theorem xr_203_238 : X_row 203 238 = some (238, (.aload_n 1, 1), (0, 0, 0)) := by decide +kernel
theorem xr_203_239 : X_row 203 239 = some (239, (.aload_n 0, 1), (0, 0, 0)) := by decide +kernel
theorem xr_203_240 : X_row 203 240 = some (240, (.iload_n 3, 1), (0, 0, 0)) := by decide +kernel
theorem xr_203_241 : X_row 203 241 = some (241, (.iconst 1, 1), (0, 0, 0)) := by decide +kernel
theorem xr_203_242 : X_row 203 242 = some (242, (.iadd, 1), (0, 0, 0)) := by decide +kernel
theorem xr_203_243 : X_row 203 243 = some (243, (.iaload, 1), (1, 0, 0)) := by decide +kernel
theorem xr_203_244 : X_row 203 244 = some (244, (.invokevirtual 32, 3), (117, 10, 0)) := by decide +kernel
theorem xr_203_247 : X_row 203 247 = some (247, (.aload_n 2, 1), (0, 0, 0)) := by decide +kernel
theorem xr_203_248 : X_row 203 248 = some (248, (.aload_n 0, 1), (0, 0, 0)) := by decide +kernel
theorem xr_203_249 : X_row 203 249 = some (249, (.iload_n 3, 1), (0, 0, 0)) := by decide +kernel
theorem xr_203_250 : X_row 203 250 = some (250, (.iconst 1, 1), (0, 0, 0)) := by decide +kernel
theorem xr_203_251 : X_row 203 251 = some (251, (.iadd, 1), (0, 0, 0)) := by decide +kernel
theorem xr_203_252 : X_row 203 252 = some (252, (.iaload, 1), (1, 0, 0)) := by decide +kernel
theorem xr_203_253 : X_row 203 253 = some (253, (.invokevirtual 35, 3), (164, 42, 0)) := by decide +kernel
theorem xr_203_256 : X_row 203 256 = some (256, (.if_icmp .eq 332, 3), (0, 0, 0)) := by decide +kernel
theorem xr_203_261 : X_row 203 261 = some (261, (.aload_n 1, 1), (0, 0, 0)) := by decide +kernel
theorem xr_203_262 : X_row 203 262 = some (262, (.aload_n 0, 1), (0, 0, 0)) := by decide +kernel
theorem xr_203_263 : X_row 203 263 = some (263, (.iload_n 3, 1), (0, 0, 0)) := by decide +kernel
theorem xr_203_264 : X_row 203 264 = some (264, (.iconst 1, 1), (0, 0, 0)) := by decide +kernel
theorem xr_203_265 : X_row 203 265 = some (265, (.iadd, 1), (0, 0, 0)) := by decide +kernel
theorem xr_203_266 : X_row 203 266 = some (266, (.iaload, 1), (1, 0, 0)) := by decide +kernel
theorem xr_203_267 : X_row 203 267 = some (267, (.aload_n 0, 1), (0, 0, 0)) := by decide +kernel
theorem xr_203_268 : X_row 203 268 = some (268, (.iload_n 3, 1), (0, 0, 0)) := by decide +kernel
theorem xr_203_269 : X_row 203 269 = some (269, (.iconst 2, 1), (0, 0, 0)) := by decide +kernel
theorem xr_203_270 : X_row 203 270 = some (270, (.iadd, 1), (0, 0, 0)) := by decide +kernel
theorem xr_203_271 : X_row 203 271 = some (271, (.iaload, 1), (1, 0, 0)) := by decide +kernel
theorem xr_203_272 : X_row 203 272 = some (272, (.invokevirtual 36, 3), (118, 12, 0)) := by decide +kernel
theorem xr_203_275 : X_row 203 275 = some (275, (.aload_n 2, 1), (0, 0, 0)) := by decide +kernel
theorem xr_203_276 : X_row 203 276 = some (276, (.aload_n 0, 1), (0, 0, 0)) := by decide +kernel
theorem xr_203_277 : X_row 203 277 = some (277, (.iload_n 3, 1), (0, 0, 0)) := by decide +kernel
theorem xr_203_278 : X_row 203 278 = some (278, (.iconst 1, 1), (0, 0, 0)) := by decide +kernel
theorem xr_203_279 : X_row 203 279 = some (279, (.iadd, 1), (0, 0, 0)) := by decide +kernel
theorem xr_203_280 : X_row 203 280 = some (280, (.iaload, 1), (1, 0, 0)) := by decide +kernel
theorem xr_203_281 : X_row 203 281 = some (281, (.aload_n 0, 1), (0, 0, 0)) := by decide +kernel
theorem xr_203_282 : X_row 203 282 = some (282, (.iload_n 3, 1), (0, 0, 0)) := by decide +kernel
theorem xr_203_283 : X_row 203 283 = some (283, (.iconst 2, 1), (0, 0, 0)) := by decide +kernel
theorem xr_203_284 : X_row 203 284 = some (284, (.iadd, 1), (0, 0, 0)) := by decide +kernel
theorem xr_203_285 : X_row 203 285 = some (285, (.iaload, 1), (1, 0, 0)) := by decide +kernel
theorem xr_203_286 : X_row 203 286 = some (286, (.invokevirtual 40, 3), (166, 44, 0)) := by decide +kernel
theorem xr_203_289 : X_row 203 289 = some (289, (.if_icmp .eq 299, 3), (0, 0, 0)) := by decide +kernel
theorem xr_203_294 : X_row 203 294 = some (294, (.aload_n 1, 1), (0, 0, 0)) := by decide +kernel
theorem xr_203_295 : X_row 203 295 = some (295, (.aload_n 0, 1), (0, 0, 0)) := by decide +kernel
theorem xr_203_296 : X_row 203 296 = some (296, (.iload_n 3, 1), (0, 0, 0)) := by decide +kernel
theorem xr_203_297 : X_row 203 297 = some (297, (.iconst 1, 1), (0, 0, 0)) := by decide +kernel
theorem xr_203_298 : X_row 203 298 = some (298, (.iadd, 1), (0, 0, 0)) := by decide +kernel
theorem xr_203_299 : X_row 203 299 = some (299, (.iaload, 1), (1, 0, 0)) := by decide +kernel
theorem xr_203_300 : X_row 203 300 = some (300, (.aload_n 0, 1), (0, 0, 0)) := by decide +kernel
theorem xr_203_301 : X_row 203 301 = some (301, (.iload_n 3, 1), (0, 0, 0)) := by decide +kernel
theorem xr_203_302 : X_row 203 302 = some (302, (.iconst 2, 1), (0, 0, 0)) := by decide +kernel
theorem xr_203_303 : X_row 203 303 = some (303, (.iadd, 1), (0, 0, 0)) := by decide +kernel
theorem xr_203_304 : X_row 203 304 = some (304, (.iaload, 1), (1, 0, 0)) := by decide +kernel
theorem xr_203_305 : X_row 203 305 = some (305, (.invokevirtual 41, 3), (119, 14, 0)) := by decide +kernel
theorem xr_203_308 : X_row 203 308 = some (308, (.aload_n 2, 1), (0, 0, 0)) := by decide +kernel
theorem xr_203_309 : X_row 203 309 = some (309, (.aload_n 0, 1), (0, 0, 0)) := by decide +kernel
theorem xr_203_310 : X_row 203 310 = some (310, (.iload_n 3, 1), (0, 0, 0)) := by decide +kernel
theorem xr_203_311 : X_row 203 311 = some (311, (.iconst 1, 1), (0, 0, 0)) := by decide +kernel
theorem xr_203_312 : X_row 203 312 = some (312, (.iadd, 1), (0, 0, 0)) := by decide +kernel
theorem xr_203_313 : X_row 203 313 = some (313, (.iaload, 1), (1, 0, 0)) := by decide +kernel
theorem xr_203_314 : X_row 203 314 = some (314, (.aload_n 0, 1), (0, 0, 0)) := by decide +kernel
theorem xr_203_315 : X_row 203 315 = some (315, (.iload_n 3, 1), (0, 0, 0)) := by decide +kernel
theorem xr_203_316 : X_row 203 316 = some (316, (.iconst 2, 1), (0, 0, 0)) := by decide +kernel
theorem xr_203_317 : X_row 203 317 = some (317, (.iadd, 1), (0, 0, 0)) := by decide +kernel
theorem xr_203_318 : X_row 203 318 = some (318, (.iaload, 1), (1, 0, 0)) := by decide +kernel
theorem xr_203_319 : X_row 203 319 = some (319, (.invokevirtual 44, 3), (167, 46, 0)) := by decide +kernel
theorem xr_203_322 : X_row 203 322 = some (322, (.if_icmp .eq 266, 3), (0, 0, 0)) := by decide +kernel
theorem xr_203_327 : X_row 203 327 = some (327, (.aload_n 1, 1), (0, 0, 0)) := by decide +kernel
theorem xr_203_328 : X_row 203 328 = some (328, (.aload_n 0, 1), (0, 0, 0)) := by decide +kernel
theorem xr_203_329 : X_row 203 329 = some (329, (.iload_n 3, 1), (0, 0, 0)) := by decide +kernel
theorem xr_203_330 : X_row 203 330 = some (330, (.iconst 1, 1), (0, 0, 0)) := by decide +kernel
theorem xr_203_331 : X_row 203 331 = some (331, (.iadd, 1), (0, 0, 0)) := by decide +kernel
theorem xr_203_332 : X_row 203 332 = some (332, (.iaload, 1), (1, 0, 0)) := by decide +kernel
theorem xr_203_333 : X_row 203 333 = some (333, (.aload_n 0, 1), (0, 0, 0)) := by decide +kernel
theorem xr_203_334 : X_row 203 334 = some (334, (.iload_n 3, 1), (0, 0, 0)) := by decide +kernel
theorem xr_203_335 : X_row 203 335 = some (335, (.iconst 2, 1), (0, 0, 0)) := by decide +kernel
theorem xr_203_336 : X_row 203 336 = some (336, (.iadd, 1), (0, 0, 0)) := by decide +kernel
theorem xr_203_337 : X_row 203 337 = some (337, (.iaload, 1), (1, 0, 0)) := by decide +kernel
theorem xr_203_338 : X_row 203 338 = some (338, (.invokevirtual 45, 3), (120, 16, 0)) := by decide +kernel
theorem xr_203_341 : X_row 203 341 = some (341, (.aload_n 2, 1), (0, 0, 0)) := by decide +kernel
theorem xr_203_342 : X_row 203 342 = some (342, (.aload_n 0, 1), (0, 0, 0)) := by decide +kernel
theorem xr_203_343 : X_row 203 343 = some (343, (.iload_n 3, 1), (0, 0, 0)) := by decide +kernel
theorem xr_203_344 : X_row 203 344 = some (344, (.iconst 1, 1), (0, 0, 0)) := by decide +kernel
theorem xr_203_345 : X_row 203 345 = some (345, (.iadd, 1), (0, 0, 0)) := by decide +kernel
theorem xr_203_346 : X_row 203 346 = some (346, (.iaload, 1), (1, 0, 0)) := by decide +kernel
theorem xr_203_347 : X_row 203 347 = some (347, (.aload_n 0, 1), (0, 0, 0)) := by decide +kernel
theorem xr_203_348 : X_row 203 348 = some (348, (.iload_n 3, 1), (0, 0, 0)) := by decide +kernel
theorem xr_203_349 : X_row 203 349 = some (349, (.iconst 2, 1), (0, 0, 0)) := by decide +kernel
theorem xr_203_350 : X_row 203 350 = some (350, (.iadd, 1), (0, 0, 0)) := by decide +kernel
theorem xr_203_351 : X_row 203 351 = some (351, (.iaload, 1), (1, 0, 0)) := by decide +kernel
theorem xr_203_352 : X_row 203 352 = some (352, (.invokevirtual 48, 3), (169, 48, 0)) := by decide +kernel
theorem xr_203_355 : X_row 203 355 = some (355, (.if_icmp .eq 233, 3), (0, 0, 0)) := by decide +kernel
theorem xr_203_360 : X_row 203 360 = some (360, (.aload_n 1, 1), (0, 0, 0)) := by decide +kernel
theorem xr_203_361 : X_row 203 361 = some (361, (.invokevirtual 49, 3), (121, 18, 0)) := by decide +kernel
theorem xr_203_364 : X_row 203 364 = some (364, (.aload_n 2, 1), (0, 0, 0)) := by decide +kernel
theorem xr_203_365 : X_row 203 365 = some (365, (.invokevirtual 52, 3), (170, 50, 0)) := by decide +kernel
theorem xr_203_368 : X_row 203 368 = some (368, (.if_icmp .eq 220, 3), (0, 0, 0)) := by decide +kernel
theorem xr_203_373 : X_row 203 373 = some (373, (.aload_n 1, 1), (0, 0, 0)) := by decide +kernel
theorem xr_203_374 : X_row 203 374 = some (374, (.aload_n 0, 1), (0, 0, 0)) := by decide +kernel
theorem xr_203_375 : X_row 203 375 = some (375, (.iload_n 3, 1), (0, 0, 0)) := by decide +kernel
theorem xr_203_376 : X_row 203 376 = some (376, (.iconst 1, 1), (0, 0, 0)) := by decide +kernel
theorem xr_203_377 : X_row 203 377 = some (377, (.iadd, 1), (0, 0, 0)) := by decide +kernel
theorem xr_203_378 : X_row 203 378 = some (378, (.iaload, 1), (1, 0, 0)) := by decide +kernel
theorem xr_203_379 : X_row 203 379 = some (379, (.aload_n 0, 1), (0, 0, 0)) := by decide +kernel
theorem xr_203_380 : X_row 203 380 = some (380, (.iload_n 3, 1), (0, 0, 0)) := by decide +kernel
theorem xr_203_381 : X_row 203 381 = some (381, (.iconst 2, 1), (0, 0, 0)) := by decide +kernel
theorem xr_203_382 : X_row 203 382 = some (382, (.iadd, 1), (0, 0, 0)) := by decide +kernel
theorem xr_203_383 : X_row 203 383 = some (383, (.iaload, 1), (1, 0, 0)) := by decide +kernel
theorem xr_203_384 : X_row 203 384 = some (384, (.invokevirtual 53, 3), (122, 20, 0)) := by decide +kernel
theorem xr_203_387 : X_row 203 387 = some (387, (.aload_n 2, 1), (0, 0, 0)) := by decide +kernel
theorem xr_203_388 : X_row 203 388 = some (388, (.aload_n 0, 1), (0, 0, 0)) := by decide +kernel
theorem xr_203_389 : X_row 203 389 = some (389, (.iload_n 3, 1), (0, 0, 0)) := by decide +kernel
theorem xr_203_390 : X_row 203 390 = some (390, (.iconst 1, 1), (0, 0, 0)) := by decide +kernel
theorem xr_203_391 : X_row 203 391 = some (391, (.iadd, 1), (0, 0, 0)) := by decide +kernel
theorem xr_203_392 : X_row 203 392 = some (392, (.iaload, 1), (1, 0, 0)) := by decide +kernel
theorem xr_203_393 : X_row 203 393 = some (393, (.aload_n 0, 1), (0, 0, 0)) := by decide +kernel
theorem xr_203_394 : X_row 203 394 = some (394, (.iload_n 3, 1), (0, 0, 0)) := by decide +kernel
theorem xr_203_395 : X_row 203 395 = some (395, (.iconst 2, 1), (0, 0, 0)) := by decide +kernel
theorem xr_203_396 : X_row 203 396 = some (396, (.iadd, 1), (0, 0, 0)) := by decide +kernel
theorem xr_203_397 : X_row 203 397 = some (397, (.iaload, 1), (1, 0, 0)) := by decide +kernel
theorem xr_203_398 : X_row 203 398 = some (398, (.invokevirtual 57, 3), (183, 52, 0)) := by decide +kernel
theorem xr_203_401 : X_row 203 401 = some (401, (.lcmp, 1), (0, 0, 0)) := by decide +kernel
theorem xr_203_402 : X_row 203 402 = some (402, (.ifCond .eq 186, 3), (0, 0, 0)) := by decide +kernel
theorem xr_203_407 : X_row 203 407 = some (407, (.aload_n 1, 1), (0, 0, 0)) := by decide +kernel
theorem xr_203_408 : X_row 203 408 = some (408, (.invokevirtual 58, 3), (123, 22, 0)) := by decide +kernel
theorem xr_203_411 : X_row 203 411 = some (411, (.aload_n 2, 1), (0, 0, 0)) := by decide +kernel
theorem xr_203_412 : X_row 203 412 = some (412, (.invokevirtual 61, 3), (184, 54, 0)) := by decide +kernel
theorem xr_203_415 : X_row 203 415 = some (415, (.if_icmp .eq 173, 3), (0, 0, 0)) := by decide +kernel
theorem xr_203_420 : X_row 203 420 = some (420, (.aload_n 1, 1), (0, 0, 0)) := by decide +kernel
theorem xr_203_421 : X_row 203 421 = some (421, (.aload_n 0, 1), (0, 0, 0)) := by decide +kernel
theorem xr_203_422 : X_row 203 422 = some (422, (.iload_n 3, 1), (0, 0, 0)) := by decide +kernel
theorem xr_203_423 : X_row 203 423 = some (423, (.iconst 1, 1), (0, 0, 0)) := by decide +kernel
theorem xr_203_424 : X_row 203 424 = some (424, (.iadd, 1), (0, 0, 0)) := by decide +kernel
theorem xr_203_425 : X_row 203 425 = some (425, (.iaload, 1), (1, 0, 0)) := by decide +kernel
theorem xr_203_426 : X_row 203 426 = some (426, (.i2l, 1), (0, 0, 0)) := by decide +kernel
theorem xr_203_427 : X_row 203 427 = some (427, (.bipush 32, 2), (0, 0, 0)) := by decide +kernel
theorem xr_203_429 : X_row 203 429 = some (429, (.lshl, 1), (0, 0, 0)) := by decide +kernel
theorem xr_203_430 : X_row 203 430 = some (430, (.aload_n 0, 1), (0, 0, 0)) := by decide +kernel
theorem xr_203_431 : X_row 203 431 = some (431, (.iload_n 3, 1), (0, 0, 0)) := by decide +kernel
theorem xr_203_432 : X_row 203 432 = some (432, (.iconst 2, 1), (0, 0, 0)) := by decide +kernel
theorem xr_203_433 : X_row 203 433 = some (433, (.iadd, 1), (0, 0, 0)) := by decide +kernel
theorem xr_203_434 : X_row 203 434 = some (434, (.iaload, 1), (1, 0, 0)) := by decide +kernel
theorem xr_203_435 : X_row 203 435 = some (435, (.i2l, 1), (0, 0, 0)) := by decide +kernel
theorem xr_203_436 : X_row 203 436 = some (436, (.ldc2_w 62, 3), (4294967295, 1533, 0)) := by decide +kernel
theorem xr_203_439 : X_row 203 439 = some (439, (.land, 1), (0, 0, 0)) := by decide +kernel
theorem xr_203_440 : X_row 203 440 = some (440, (.lor, 1), (0, 0, 0)) := by decide +kernel
theorem xr_203_441 : X_row 203 441 = some (441, (.invokevirtual 64, 3), (124, 24, 0)) := by decide +kernel
theorem xr_203_444 : X_row 203 444 = some (444, (.aload_n 2, 1), (0, 0, 0)) := by decide +kernel
theorem xr_203_445 : X_row 203 445 = some (445, (.aload_n 0, 1), (0, 0, 0)) := by decide +kernel
theorem xr_203_446 : X_row 203 446 = some (446, (.iload_n 3, 1), (0, 0, 0)) := by decide +kernel
theorem xr_203_447 : X_row 203 447 = some (447, (.iconst 1, 1), (0, 0, 0)) := by decide +kernel
theorem xr_203_448 : X_row 203 448 = some (448, (.iadd, 1), (0, 0, 0)) := by decide +kernel
theorem xr_203_449 : X_row 203 449 = some (449, (.iaload, 1), (1, 0, 0)) := by decide +kernel
theorem xr_203_450 : X_row 203 450 = some (450, (.i2l, 1), (0, 0, 0)) := by decide +kernel
theorem xr_203_451 : X_row 203 451 = some (451, (.bipush 32, 2), (0, 0, 0)) := by decide +kernel
theorem xr_203_453 : X_row 203 453 = some (453, (.lshl, 1), (0, 0, 0)) := by decide +kernel
theorem xr_203_454 : X_row 203 454 = some (454, (.aload_n 0, 1), (0, 0, 0)) := by decide +kernel
theorem xr_203_455 : X_row 203 455 = some (455, (.iload_n 3, 1), (0, 0, 0)) := by decide +kernel
theorem xr_203_456 : X_row 203 456 = some (456, (.iconst 2, 1), (0, 0, 0)) := by decide +kernel
theorem xr_203_457 : X_row 203 457 = some (457, (.iadd, 1), (0, 0, 0)) := by decide +kernel
theorem xr_203_458 : X_row 203 458 = some (458, (.iaload, 1), (1, 0, 0)) := by decide +kernel
theorem xr_203_459 : X_row 203 459 = some (459, (.i2l, 1), (0, 0, 0)) := by decide +kernel
theorem xr_203_460 : X_row 203 460 = some (460, (.ldc2_w 62, 3), (4294967295, 1533, 0)) := by decide +kernel
theorem xr_203_463 : X_row 203 463 = some (463, (.land, 1), (0, 0, 0)) := by decide +kernel
theorem xr_203_464 : X_row 203 464 = some (464, (.lor, 1), (0, 0, 0)) := by decide +kernel
theorem xr_203_465 : X_row 203 465 = some (465, (.invokevirtual 68, 3), (186, 56, 0)) := by decide +kernel
theorem xr_203_468 : X_row 203 468 = some (468, (.if_icmp .eq 120, 3), (0, 0, 0)) := by decide +kernel
theorem xr_203_473 : X_row 203 473 = some (473, (.aload_n 1, 1), (0, 0, 0)) := by decide +kernel
theorem xr_203_474 : X_row 203 474 = some (474, (.aload_n 0, 1), (0, 0, 0)) := by decide +kernel
theorem xr_203_475 : X_row 203 475 = some (475, (.iload_n 3, 1), (0, 0, 0)) := by decide +kernel
theorem xr_203_476 : X_row 203 476 = some (476, (.iconst 1, 1), (0, 0, 0)) := by decide +kernel
theorem xr_203_477 : X_row 203 477 = some (477, (.iadd, 1), (0, 0, 0)) := by decide +kernel
theorem xr_203_478 : X_row 203 478 = some (478, (.iaload, 1), (1, 0, 0)) := by decide +kernel
theorem xr_203_479 : X_row 203 479 = some (479, (.aload_n 0, 1), (0, 0, 0)) := by decide +kernel
theorem xr_203_480 : X_row 203 480 = some (480, (.iload_n 3, 1), (0, 0, 0)) := by decide +kernel
theorem xr_203_481 : X_row 203 481 = some (481, (.iconst 2, 1), (0, 0, 0)) := by decide +kernel
theorem xr_203_482 : X_row 203 482 = some (482, (.iadd, 1), (0, 0, 0)) := by decide +kernel
theorem xr_203_483 : X_row 203 483 = some (483, (.iaload, 1), (1, 0, 0)) := by decide +kernel
theorem xr_203_484 : X_row 203 484 = some (484, (.invokevirtual 69, 3), (125, 26, 0)) := by decide +kernel
theorem xr_203_487 : X_row 203 487 = some (487, (.aload_n 2, 1), (0, 0, 0)) := by decide +kernel
theorem xr_203_488 : X_row 203 488 = some (488, (.aload_n 0, 1), (0, 0, 0)) := by decide +kernel
theorem xr_203_489 : X_row 203 489 = some (489, (.iload_n 3, 1), (0, 0, 0)) := by decide +kernel
theorem xr_203_490 : X_row 203 490 = some (490, (.iconst 1, 1), (0, 0, 0)) := by decide +kernel
theorem xr_203_491 : X_row 203 491 = some (491, (.iadd, 1), (0, 0, 0)) := by decide +kernel
theorem xr_203_492 : X_row 203 492 = some (492, (.iaload, 1), (1, 0, 0)) := by decide +kernel
theorem xr_203_493 : X_row 203 493 = some (493, (.aload_n 0, 1), (0, 0, 0)) := by decide +kernel
theorem xr_203_494 : X_row 203 494 = some (494, (.iload_n 3, 1), (0, 0, 0)) := by decide +kernel
theorem xr_203_495 : X_row 203 495 = some (495, (.iconst 2, 1), (0, 0, 0)) := by decide +kernel
theorem xr_203_496 : X_row 203 496 = some (496, (.iadd, 1), (0, 0, 0)) := by decide +kernel
theorem xr_203_497 : X_row 203 497 = some (497, (.iaload, 1), (1, 0, 0)) := by decide +kernel
theorem xr_203_498 : X_row 203 498 = some (498, (.invokevirtual 72, 3), (190, 58, 0)) := by decide +kernel
theorem xr_203_501 : X_row 203 501 = some (501, (.if_icmp .eq 87, 3), (0, 0, 0)) := by decide +kernel
theorem xr_203_506 : X_row 203 506 = some (506, (.aload_n 1, 1), (0, 0, 0)) := by decide +kernel
theorem xr_203_507 : X_row 203 507 = some (507, (.aload_n 0, 1), (0, 0, 0)) := by decide +kernel
theorem xr_203_508 : X_row 203 508 = some (508, (.iload_n 3, 1), (0, 0, 0)) := by decide +kernel
theorem xr_203_509 : X_row 203 509 = some (509, (.iconst 1, 1), (0, 0, 0)) := by decide +kernel
theorem xr_203_510 : X_row 203 510 = some (510, (.iadd, 1), (0, 0, 0)) := by decide +kernel
theorem xr_203_511 : X_row 203 511 = some (511, (.iaload, 1), (1, 0, 0)) := by decide +kernel
theorem xr_203_512 : X_row 203 512 = some (512, (.aload_n 0, 1), (0, 0, 0)) := by decide +kernel
theorem xr_203_513 : X_row 203 513 = some (513, (.iload_n 3, 1), (0, 0, 0)) := by decide +kernel
theorem xr_203_514 : X_row 203 514 = some (514, (.iconst 2, 1), (0, 0, 0)) := by decide +kernel
theorem xr_203_515 : X_row 203 515 = some (515, (.iadd, 1), (0, 0, 0)) := by decide +kernel
theorem xr_203_516 : X_row 203 516 = some (516, (.iaload, 1), (1, 0, 0)) := by decide +kernel
theorem xr_203_517 : X_row 203 517 = some (517, (.invokevirtual 73, 3), (126, 28, 0)) := by decide +kernel
theorem xr_203_520 : X_row 203 520 = some (520, (.aload_n 2, 1), (0, 0, 0)) := by decide +kernel
theorem xr_203_521 : X_row 203 521 = some (521, (.aload_n 0, 1), (0, 0, 0)) := by decide +kernel
theorem xr_203_522 : X_row 203 522 = some (522, (.iload_n 3, 1), (0, 0, 0)) := by decide +kernel
theorem xr_203_523 : X_row 203 523 = some (523, (.iconst 1, 1), (0, 0, 0)) := by decide +kernel
theorem xr_203_524 : X_row 203 524 = some (524, (.iadd, 1), (0, 0, 0)) := by decide +kernel
theorem xr_203_525 : X_row 203 525 = some (525, (.iaload, 1), (1, 0, 0)) := by decide +kernel
theorem xr_203_526 : X_row 203 526 = some (526, (.aload_n 0, 1), (0, 0, 0)) := by decide +kernel
theorem xr_203_527 : X_row 203 527 = some (527, (.iload_n 3, 1), (0, 0, 0)) := by decide +kernel
theorem xr_203_528 : X_row 203 528 = some (528, (.iconst 2, 1), (0, 0, 0)) := by decide +kernel
theorem xr_203_529 : X_row 203 529 = some (529, (.iadd, 1), (0, 0, 0)) := by decide +kernel
theorem xr_203_530 : X_row 203 530 = some (530, (.iaload, 1), (1, 0, 0)) := by decide +kernel
theorem xr_203_531 : X_row 203 531 = some (531, (.invokevirtual 77, 3), (191, 60, 0)) := by decide +kernel
theorem xr_203_534 : X_row 203 534 = some (534, (.if_icmp .eq 54, 3), (0, 0, 0)) := by decide +kernel
theorem xr_203_539 : X_row 203 539 = some (539, (.aload_n 1, 1), (0, 0, 0)) := by decide +kernel
theorem xr_203_540 : X_row 203 540 = some (540, (.invokevirtual 78, 3), (127, 30, 0)) := by decide +kernel
theorem xr_203_543 : X_row 203 543 = some (543, (.aload_n 2, 1), (0, 0, 0)) := by decide +kernel
theorem xr_203_544 : X_row 203 544 = some (544, (.invokevirtual 81, 3), (193, 62, 0)) := by decide +kernel
theorem xr_203_547 : X_row 203 547 = some (547, (.if_icmp .eq 41, 3), (0, 0, 0)) := by decide +kernel
theorem xr_203_552 : X_row 203 552 = some (552, (.aload_n 1, 1), (0, 0, 0)) := by decide +kernel
theorem xr_203_553 : X_row 203 553 = some (553, (.aload_n 0, 1), (0, 0, 0)) := by decide +kernel
theorem xr_203_554 : X_row 203 554 = some (554, (.iload_n 3, 1), (0, 0, 0)) := by decide +kernel
theorem xr_203_555 : X_row 203 555 = some (555, (.iconst 1, 1), (0, 0, 0)) := by decide +kernel
theorem xr_203_556 : X_row 203 556 = some (556, (.iadd, 1), (0, 0, 0)) := by decide +kernel
theorem xr_203_557 : X_row 203 557 = some (557, (.iaload, 1), (1, 0, 0)) := by decide +kernel
theorem xr_203_558 : X_row 203 558 = some (558, (.invokevirtual 82, 3), (128, 32, 0)) := by decide +kernel
theorem xr_203_561 : X_row 203 561 = some (561, (.aload_n 2, 1), (0, 0, 0)) := by decide +kernel
theorem xr_203_562 : X_row 203 562 = some (562, (.aload_n 0, 1), (0, 0, 0)) := by decide +kernel
theorem xr_203_563 : X_row 203 563 = some (563, (.iload_n 3, 1), (0, 0, 0)) := by decide +kernel
theorem xr_203_564 : X_row 203 564 = some (564, (.iconst 1, 1), (0, 0, 0)) := by decide +kernel
theorem xr_203_565 : X_row 203 565 = some (565, (.iadd, 1), (0, 0, 0)) := by decide +kernel
theorem xr_203_566 : X_row 203 566 = some (566, (.iaload, 1), (1, 0, 0)) := by decide +kernel
theorem xr_203_567 : X_row 203 567 = some (567, (.invokevirtual 85, 3), (198, 64, 0)) := by decide +kernel
theorem xr_203_570 : X_row 203 570 = some (570, (.if_icmp .eq 18, 3), (0, 0, 0)) := by decide +kernel
theorem xr_203_575 : X_row 203 575 = some (575, (.aload_n 1, 1), (0, 0, 0)) := by decide +kernel
theorem xr_203_576 : X_row 203 576 = some (576, (.invokevirtual 86, 3), (129, 34, 0)) := by decide +kernel
theorem xr_203_579 : X_row 203 579 = some (579, (.aload_n 2, 1), (0, 0, 0)) := by decide +kernel
theorem xr_203_580 : X_row 203 580 = some (580, (.invokevirtual 89, 3), (199, 66, 0)) := by decide +kernel
theorem xr_203_583 : X_row 203 583 = some (583, (.if_icmp .eq 5, 3), (0, 0, 0)) := by decide +kernel
theorem xr_203_588 : X_row 203 588 = some (588, (.iinc 3 6, 3), (0, 0, 0)) := by decide +kernel
theorem xr_203_591 : X_row 203 591 = some (591, (.goto (-573), 3), (0, 0, 0)) := by decide +kernel
theorem xr_203_594 : X_row 203 594 = some (594, (.iconst 1, 1), (0, 0, 0)) := by decide +kernel
theorem xr_203_595 : X_row 203 595 = some (595, (.ireturn, 1), (0, 0, 0)) := by decide +kernel
theorem xn_2 : X_nL 2 = 2 := by decide +kernel
theorem xf_2 : X_na 2 = 1 ∧ X_ci 2 = 0 ∧ X_rt 2 = (some .boolean) := by decide +kernel
theorem xn_3 : X_nL 3 = 2 := by decide +kernel
theorem xf_3 : X_na 3 = 1 ∧ X_ci 3 = 0 ∧ X_rt 3 = (some .boolean) := by decide +kernel
theorem xn_4 : X_nL 4 = 2 := by decide +kernel
theorem xf_4 : X_na 4 = 1 ∧ X_ci 4 = 0 ∧ X_rt 4 = (some .boolean) := by decide +kernel
theorem xn_12 : X_nL 12 = 3 := by decide +kernel
theorem xf_12 : X_na 12 = 2 ∧ X_ci 12 = 0 ∧ X_rt 12 = (some .boolean) := by decide +kernel
theorem xn_92 : X_nL 92 = 3 := by decide +kernel
theorem xf_92 : X_na 92 = 1 ∧ X_ci 92 = 7 ∧ X_rt 92 = none := by decide +kernel
theorem xn_113 : X_nL 113 = 6 := by decide +kernel
theorem xf_113 : X_na 113 = 5 ∧ X_ci 113 = 10 ∧ X_rt 113 = (some .int) := by decide +kernel
theorem xn_114 : X_nL 114 = 2 := by decide +kernel
theorem xf_114 : X_na 114 = 1 ∧ X_ci 114 = 10 ∧ X_rt 114 = (some .int) := by decide +kernel
theorem xn_115 : X_nL 115 = 3 := by decide +kernel
theorem xf_115 : X_na 115 = 0 ∧ X_ci 115 = 10 ∧ X_rt 115 = (some .int) := by decide +kernel
theorem xn_116 : X_nL 116 = 2 := by decide +kernel
theorem xf_116 : X_na 116 = 1 ∧ X_ci 116 = 10 ∧ X_rt 116 = (some .int) := by decide +kernel
theorem xn_117 : X_nL 117 = 2 := by decide +kernel
theorem xf_117 : X_na 117 = 1 ∧ X_ci 117 = 10 ∧ X_rt 117 = (some .int) := by decide +kernel
theorem xn_118 : X_nL 118 = 4 := by decide +kernel
theorem xf_118 : X_na 118 = 2 ∧ X_ci 118 = 10 ∧ X_rt 118 = (some .int) := by decide +kernel
theorem xn_119 : X_nL 119 = 3 := by decide +kernel
theorem xf_119 : X_na 119 = 2 ∧ X_ci 119 = 10 ∧ X_rt 119 = (some .int) := by decide +kernel
theorem xn_120 : X_nL 120 = 3 := by decide +kernel
theorem xf_120 : X_na 120 = 2 ∧ X_ci 120 = 10 ∧ X_rt 120 = (some .int) := by decide +kernel
theorem xn_121 : X_nL 121 = 2 := by decide +kernel
theorem xf_121 : X_na 121 = 0 ∧ X_ci 121 = 10 ∧ X_rt 121 = (some .int) := by decide +kernel
theorem xn_122 : X_nL 122 = 3 := by decide +kernel
theorem xf_122 : X_na 122 = 2 ∧ X_ci 122 = 10 ∧ X_rt 122 = (some .long) := by decide +kernel
theorem xn_123 : X_nL 123 = 5 := by decide +kernel
theorem xf_123 : X_na 123 = 0 ∧ X_ci 123 = 10 ∧ X_rt 123 = (some .int) := by decide +kernel
theorem xn_124 : X_nL 124 = 5 := by decide +kernel
theorem xf_124 : X_na 124 = 1 ∧ X_ci 124 = 10 ∧ X_rt 124 = (some .int) := by decide +kernel
theorem xn_125 : X_nL 125 = 3 := by decide +kernel
theorem xf_125 : X_na 125 = 2 ∧ X_ci 125 = 10 ∧ X_rt 125 = (some .int) := by decide +kernel
theorem xn_126 : X_nL 126 = 4 := by decide +kernel
theorem xf_126 : X_na 126 = 2 ∧ X_ci 126 = 10 ∧ X_rt 126 = (some .boolean) := by decide +kernel
theorem xn_127 : X_nL 127 = 1 := by decide +kernel
theorem xf_127 : X_na 127 = 0 ∧ X_ci 127 = 10 ∧ X_rt 127 = (some .int) := by decide +kernel
theorem xn_128 : X_nL 128 = 2 := by decide +kernel
theorem xf_128 : X_na 128 = 1 ∧ X_ci 128 = 10 ∧ X_rt 128 = (some .int) := by decide +kernel
theorem xn_129 : X_nL 129 = 3 := by decide +kernel
theorem xf_129 : X_na 129 = 0 ∧ X_ci 129 = 10 ∧ X_rt 129 = (some .int) := by decide +kernel
theorem xn_131 : X_nL 131 = 2 := by decide +kernel
theorem xf_131 : X_na 131 = 2 ∧ X_ci 131 = 10 ∧ X_rt 131 = (some .boolean) := by decide +kernel
theorem xn_162 : X_nL 162 = 4 := by decide +kernel
theorem xf_162 : X_na 162 = 0 ∧ X_ci 162 = 11 ∧ X_rt 162 = (some .int) := by decide +kernel
theorem xn_163 : X_nL 163 = 2 := by decide +kernel
theorem xf_163 : X_na 163 = 1 ∧ X_ci 163 = 11 ∧ X_rt 163 = (some .int) := by decide +kernel
theorem xn_164 : X_nL 164 = 2 := by decide +kernel
theorem xf_164 : X_na 164 = 1 ∧ X_ci 164 = 11 ∧ X_rt 164 = (some .int) := by decide +kernel
theorem xn_165 : X_nL 165 = 2 := by decide +kernel
theorem xf_165 : X_na 165 = 1 ∧ X_ci 165 = 11 ∧ X_rt 165 = (some .boolean) := by decide +kernel
theorem xn_166 : X_nL 166 = 4 := by decide +kernel
theorem xf_166 : X_na 166 = 2 ∧ X_ci 166 = 11 ∧ X_rt 166 = (some .int) := by decide +kernel
theorem xn_167 : X_nL 167 = 3 := by decide +kernel
theorem xf_167 : X_na 167 = 2 ∧ X_ci 167 = 11 ∧ X_rt 167 = (some .int) := by decide +kernel
theorem xn_168 : X_nL 168 = 4 := by decide +kernel
theorem xf_168 : X_na 168 = 2 ∧ X_ci 168 = 11 ∧ X_rt 168 = (some .boolean) := by decide +kernel
theorem xn_169 : X_nL 169 = 3 := by decide +kernel
theorem xf_169 : X_na 169 = 2 ∧ X_ci 169 = 11 ∧ X_rt 169 = (some .int) := by decide +kernel
theorem xn_170 : X_nL 170 = 8 := by decide +kernel
theorem xf_170 : X_na 170 = 0 ∧ X_ci 170 = 11 ∧ X_rt 170 = (some .int) := by decide +kernel
theorem xn_183 : X_nL 183 = 5 := by decide +kernel
theorem xf_183 : X_na 183 = 2 ∧ X_ci 183 = 11 ∧ X_rt 183 = (some .long) := by decide +kernel
theorem xn_184 : X_nL 184 = 5 := by decide +kernel
theorem xf_184 : X_na 184 = 0 ∧ X_ci 184 = 11 ∧ X_rt 184 = (some .int) := by decide +kernel
theorem xn_186 : X_nL 186 = 5 := by decide +kernel
theorem xf_186 : X_na 186 = 1 ∧ X_ci 186 = 11 ∧ X_rt 186 = (some .int) := by decide +kernel
theorem xn_190 : X_nL 190 = 3 := by decide +kernel
theorem xf_190 : X_na 190 = 2 ∧ X_ci 190 = 11 ∧ X_rt 190 = (some .int) := by decide +kernel
theorem xn_191 : X_nL 191 = 3 := by decide +kernel
theorem xf_191 : X_na 191 = 2 ∧ X_ci 191 = 11 ∧ X_rt 191 = (some .boolean) := by decide +kernel
theorem xn_193 : X_nL 193 = 5 := by decide +kernel
theorem xf_193 : X_na 193 = 0 ∧ X_ci 193 = 11 ∧ X_rt 193 = (some .int) := by decide +kernel
theorem xn_198 : X_nL 198 = 2 := by decide +kernel
theorem xf_198 : X_na 198 = 1 ∧ X_ci 198 = 11 ∧ X_rt 198 = (some .int) := by decide +kernel
theorem xn_199 : X_nL 199 = 3 := by decide +kernel
theorem xf_199 : X_na 199 = 0 ∧ X_ci 199 = 11 ∧ X_rt 199 = (some .int) := by decide +kernel
theorem xn_201 : X_nL 201 = 8 := by decide +kernel
theorem xf_201 : X_na 201 = 5 ∧ X_ci 201 = 11 ∧ X_rt 201 = (some .int) := by decide +kernel
theorem xn_202 : X_nL 202 = 2 := by decide +kernel
theorem xf_202 : X_na 202 = 1 ∧ X_ci 202 = 11 ∧ X_rt 202 = (some .int) := by decide +kernel
theorem xn_203 : X_nL 203 = 4 := by decide +kernel
theorem xf_203 : X_na 203 = 1 ∧ X_ci 203 = 12 ∧ X_rt 203 = (some .boolean) := by decide +kernel
