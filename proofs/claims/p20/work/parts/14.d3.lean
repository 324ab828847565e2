theorem xr_21_0 : X_row 21 0 = some (0, (.iload_n 0, 1), (0, 0, 0)) := by decide +kernel
theorem xr_21_1 : X_row 21 1 = some (1, (.bipush 8, 2), (0, 0, 0)) := by decide +kernel
theorem xr_21_3 : X_row 21 3 = some (3, (.imul, 1), (0, 0, 0)) := by decide +kernel
theorem xr_21_4 : X_row 21 4 = some (4, (.iload_n 1, 1), (0, 0, 0)) := by decide +kernel
theorem xr_21_5 : X_row 21 5 = some (5, (.iadd, 1), (0, 0, 0)) := by decide +kernel
theorem xr_21_6 : X_row 21 6 = some (6, (.bipush 30, 2), (0, 0, 0)) := by decide +kernel
theorem xr_21_8 : X_row 21 8 = some (8, (.imul, 1), (0, 0, 0)) := by decide +kernel
theorem xr_21_9 : X_row 21 9 = some (9, (.iload_n 2, 1), (0, 0, 0)) := by decide +kernel
theorem xr_21_10 : X_row 21 10 = some (10, (.iadd, 1), (0, 0, 0)) := by decide +kernel
theorem xr_21_11 : X_row 21 11 = some (11, (.ireturn, 1), (0, 0, 0)) := by decide +kernel
theorem xr_23_0 : X_row 23 0 = some (0, (.aload_n 0, 1), (0, 0, 0)) := by decide +kernel
theorem xr_23_1 : X_row 23 1 = some (1, (.getfield 26, 3), (1, 6, 34)) := by decide +kernel
theorem xr_23_4 : X_row 23 4 = some (4, (.iload_n 1, 1), (0, 0, 0)) := by decide +kernel
theorem xr_23_5 : X_row 23 5 = some (5, (.iload_n 2, 1), (0, 0, 0)) := by decide +kernel
theorem xr_23_6 : X_row 23 6 = some (6, (.invokestatic 40, 3), (20, 2, 0)) := by decide +kernel
theorem xr_23_9 : X_row 23 9 = some (9, (.bipush 30, 2), (0, 0, 0)) := by decide +kernel
theorem xr_23_11 : X_row 23 11 = some (11, (.imul, 1), (0, 0, 0)) := by decide +kernel
theorem xr_23_12 : X_row 23 12 = some (12, (.iload_n 3, 1), (0, 0, 0)) := by decide +kernel
theorem xr_23_13 : X_row 23 13 = some (13, (.iadd, 1), (0, 0, 0)) := by decide +kernel
theorem xr_23_14 : X_row 23 14 = some (14, (.iconst 4, 1), (0, 0, 0)) := by decide +kernel
theorem xr_23_15 : X_row 23 15 = some (15, (.imul, 1), (0, 0, 0)) := by decide +kernel
theorem xr_23_16 : X_row 23 16 = some (16, (.iload 4, 2), (0, 0, 0)) := by decide +kernel
theorem xr_23_18 : X_row 23 18 = some (18, (.iadd, 1), (0, 0, 0)) := by decide +kernel
theorem xr_23_19 : X_row 23 19 = some (19, (.laload, 1), (0, 0, 0)) := by decide +kernel
theorem xr_23_20 : X_row 23 20 = some (20, (.lreturn, 1), (0, 0, 0)) := by decide +kernel
theorem xr_31_0 : X_row 31 0 = some (0, (.iconst 1, 1), (0, 0, 0)) := by decide +kernel
theorem xr_31_1 : X_row 31 1 = some (1, (.istore 4, 2), (0, 0, 0)) := by decide +kernel
theorem xr_31_3 : X_row 31 3 = some (3, (.iload 4, 2), (0, 0, 0)) := by decide +kernel
theorem xr_31_5 : X_row 31 5 = some (5, (.aload_n 0, 1), (0, 0, 0)) := by decide +kernel
theorem xr_31_6 : X_row 31 6 = some (6, (.getfield 32, 3), (1, 0, 22)) := by decide +kernel
theorem xr_31_9 : X_row 31 9 = some (9, (.getfield 110, 3), (0, 7, 17)) := by decide +kernel
theorem xr_31_12 : X_row 31 12 = some (12, (.iload_n 1, 1), (0, 0, 0)) := by decide +kernel
theorem xr_31_13 : X_row 31 13 = some (13, (.aaload, 1), (0, 0, 0)) := by decide +kernel
theorem xr_31_14 : X_row 31 14 = some (14, (.getfield 126, 3), (8, 3, 1)) := by decide +kernel
theorem xr_31_17 : X_row 31 17 = some (17, (.if_icmp .ge 30, 3), (0, 0, 0)) := by decide +kernel
theorem xr_31_20 : X_row 31 20 = some (20, (.aload_n 0, 1), (0, 0, 0)) := by decide +kernel
theorem xr_31_21 : X_row 31 21 = some (21, (.getfield 29, 3), (1, 7, 36)) := by decide +kernel
theorem xr_31_24 : X_row 31 24 = some (24, (.iload_n 1, 1), (0, 0, 0)) := by decide +kernel
theorem xr_31_25 : X_row 31 25 = some (25, (.iload 4, 2), (0, 0, 0)) := by decide +kernel
theorem xr_31_27 : X_row 31 27 = some (27, (.iload_n 2, 1), (0, 0, 0)) := by decide +kernel
theorem xr_31_28 : X_row 31 28 = some (28, (.invokestatic 78, 3), (21, 10, 0)) := by decide +kernel
theorem xr_31_31 : X_row 31 31 = some (31, (.aload_n 0, 1), (0, 0, 0)) := by decide +kernel
theorem xr_31_32 : X_row 31 32 = some (32, (.iload_n 1, 1), (0, 0, 0)) := by decide +kernel
theorem xr_31_33 : X_row 31 33 = some (33, (.iload 4, 2), (0, 0, 0)) := by decide +kernel
theorem xr_31_35 : X_row 31 35 = some (35, (.iload_n 2, 1), (0, 0, 0)) := by decide +kernel
theorem xr_31_36 : X_row 31 36 = some (36, (.iload_n 3, 1), (0, 0, 0)) := by decide +kernel
theorem xr_31_37 : X_row 31 37 = some (37, (.invokevirtual 74, 3), (33, 4, 0)) := by decide +kernel
theorem xr_31_40 : X_row 31 40 = some (40, (.lastore, 1), (0, 0, 0)) := by decide +kernel
theorem xr_31_41 : X_row 31 41 = some (41, (.iinc 4 1, 3), (0, 0, 0)) := by decide +kernel
theorem xr_31_44 : X_row 31 44 = some (44, (.goto (-41), 3), (0, 0, 0)) := by decide +kernel
theorem xr_31_47 : X_row 31 47 = some (47, (.return_, 1), (0, 0, 0)) := by decide +kernel
theorem xr_32_0 : X_row 32 0 = some (0, (.iload_n 3, 1), (0, 0, 0)) := by decide +kernel
theorem xr_32_1 : X_row 32 1 = some (1, (.iconst 1, 1), (0, 0, 0)) := by decide +kernel
theorem xr_32_2 : X_row 32 2 = some (2, (.isub, 1), (0, 0, 0)) := by decide +kernel
theorem xr_32_3 : X_row 32 3 = some (3, (.istore 4, 2), (0, 0, 0)) := by decide +kernel
theorem xr_32_5 : X_row 32 5 = some (5, (.iload 4, 2), (0, 0, 0)) := by decide +kernel
theorem xr_32_7 : X_row 32 7 = some (7, (.iload_n 2, 1), (0, 0, 0)) := by decide +kernel
theorem xr_32_8 : X_row 32 8 = some (8, (.if_icmp .le 58, 3), (0, 0, 0)) := by decide +kernel
theorem xr_32_11 : X_row 32 11 = some (11, (.iconst 1, 1), (0, 0, 0)) := by decide +kernel
theorem xr_32_12 : X_row 32 12 = some (12, (.istore 5, 2), (0, 0, 0)) := by decide +kernel
theorem xr_32_14 : X_row 32 14 = some (14, (.iload 5, 2), (0, 0, 0)) := by decide +kernel
theorem xr_32_16 : X_row 32 16 = some (16, (.aload_n 0, 1), (0, 0, 0)) := by decide +kernel
theorem xr_32_17 : X_row 32 17 = some (17, (.getfield 32, 3), (1, 0, 22)) := by decide +kernel
theorem xr_32_20 : X_row 32 20 = some (20, (.getfield 110, 3), (0, 7, 17)) := by decide +kernel
theorem xr_32_23 : X_row 32 23 = some (23, (.iload_n 1, 1), (0, 0, 0)) := by decide +kernel
theorem xr_32_24 : X_row 32 24 = some (24, (.aaload, 1), (0, 0, 0)) := by decide +kernel
theorem xr_32_25 : X_row 32 25 = some (25, (.getfield 126, 3), (8, 3, 1)) := by decide +kernel
theorem xr_32_28 : X_row 32 28 = some (28, (.if_icmp .ge 32, 3), (0, 0, 0)) := by decide +kernel
theorem xr_32_31 : X_row 32 31 = some (31, (.aload_n 0, 1), (0, 0, 0)) := by decide +kernel
theorem xr_32_32 : X_row 32 32 = some (32, (.getfield 29, 3), (1, 7, 36)) := by decide +kernel
theorem xr_32_35 : X_row 32 35 = some (35, (.iload_n 1, 1), (0, 0, 0)) := by decide +kernel
theorem xr_32_36 : X_row 32 36 = some (36, (.iload 5, 2), (0, 0, 0)) := by decide +kernel
theorem xr_32_38 : X_row 32 38 = some (38, (.iload 4, 2), (0, 0, 0)) := by decide +kernel
theorem xr_32_40 : X_row 32 40 = some (40, (.invokestatic 78, 3), (21, 10, 0)) := by decide +kernel
theorem xr_32_43 : X_row 32 43 = some (43, (.aload_n 0, 1), (0, 0, 0)) := by decide +kernel
theorem xr_32_44 : X_row 32 44 = some (44, (.iload_n 1, 1), (0, 0, 0)) := by decide +kernel
theorem xr_32_45 : X_row 32 45 = some (45, (.iload 5, 2), (0, 0, 0)) := by decide +kernel
theorem xr_32_47 : X_row 32 47 = some (47, (.iload 4, 2), (0, 0, 0)) := by decide +kernel
theorem xr_32_49 : X_row 32 49 = some (49, (.iload_n 3, 1), (0, 0, 0)) := by decide +kernel
theorem xr_32_50 : X_row 32 50 = some (50, (.invokevirtual 74, 3), (33, 4, 0)) := by decide +kernel
theorem xr_32_53 : X_row 32 53 = some (53, (.lastore, 1), (0, 0, 0)) := by decide +kernel
theorem xr_32_54 : X_row 32 54 = some (54, (.iinc 5 1, 3), (0, 0, 0)) := by decide +kernel
theorem xr_32_57 : X_row 32 57 = some (57, (.goto (-43), 3), (0, 0, 0)) := by decide +kernel
theorem xr_32_60 : X_row 32 60 = some (60, (.iinc 4 (-1), 3), (0, 0, 0)) := by decide +kernel
theorem xr_32_63 : X_row 32 63 = some (63, (.goto (-58), 3), (0, 0, 0)) := by decide +kernel
theorem xr_32_66 : X_row 32 66 = some (66, (.return_, 1), (0, 0, 0)) := by decide +kernel
theorem xr_33_0 : X_row 33 0 = some (0, (.aload_n 0, 1), (0, 0, 0)) := by decide +kernel
theorem xr_33_1 : X_row 33 1 = some (1, (.getfield 32, 3), (1, 0, 22)) := by decide +kernel
theorem xr_33_4 : X_row 33 4 = some (4, (.getfield 110, 3), (0, 7, 17)) := by decide +kernel
theorem xr_33_7 : X_row 33 7 = some (7, (.iload_n 1, 1), (0, 0, 0)) := by decide +kernel
theorem xr_33_8 : X_row 33 8 = some (8, (.aaload, 1), (0, 0, 0)) := by decide +kernel
theorem xr_33_9 : X_row 33 9 = some (9, (.astore 5, 2), (0, 0, 0)) := by decide +kernel
theorem xr_33_11 : X_row 33 11 = some (11, (.aload 5, 2), (0, 0, 0)) := by decide +kernel
theorem xr_33_13 : X_row 33 13 = some (13, (.iload_n 2, 1), (0, 0, 0)) := by decide +kernel
theorem xr_33_14 : X_row 33 14 = some (14, (.invokevirtual 129, 3), (95, 6, 0)) := by decide +kernel
theorem xr_33_17 : X_row 33 17 = some (17, (.ifCond .ne 53, 3), (0, 0, 0)) := by decide +kernel
theorem xr_33_20 : X_row 33 20 = some (20, (.aload 5, 2), (0, 0, 0)) := by decide +kernel
theorem xr_33_22 : X_row 33 22 = some (22, (.getfield 132, 3), (8, 8, 5)) := by decide +kernel
theorem xr_33_25 : X_row 33 25 = some (25, (.iload_n 2, 1), (0, 0, 0)) := by decide +kernel
theorem xr_33_26 : X_row 33 26 = some (26, (.laload, 1), (0, 0, 0)) := by decide +kernel
theorem xr_33_27 : X_row 33 27 = some (27, (.aload_n 0, 1), (0, 0, 0)) := by decide +kernel
theorem xr_33_28 : X_row 33 28 = some (28, (.getfield 36, 3), (1, 1, 24)) := by decide +kernel
theorem xr_33_31 : X_row 33 31 = some (31, (.getfield 135, 3), (6, 1, 21)) := by decide +kernel
theorem xr_33_34 : X_row 33 34 = some (34, (.iload_n 3, 1), (0, 0, 0)) := by decide +kernel
theorem xr_33_35 : X_row 33 35 = some (35, (.laload, 1), (0, 0, 0)) := by decide +kernel
theorem xr_33_36 : X_row 33 36 = some (36, (.lcmp, 1), (0, 0, 0)) := by decide +kernel
theorem xr_33_37 : X_row 33 37 = some (37, (.ifCond .ne 7, 3), (0, 0, 0)) := by decide +kernel
theorem xr_33_40 : X_row 33 40 = some (40, (.iconst 1, 1), (0, 0, 0)) := by decide +kernel
theorem xr_33_41 : X_row 33 41 = some (41, (.goto 4, 3), (0, 0, 0)) := by decide +kernel
theorem xr_33_44 : X_row 33 44 = some (44, (.iconst 0, 1), (0, 0, 0)) := by decide +kernel
theorem xr_33_45 : X_row 33 45 = some (45, (.istore 6, 2), (0, 0, 0)) := by decide +kernel
theorem xr_33_47 : X_row 33 47 = some (47, (.iload 6, 2), (0, 0, 0)) := by decide +kernel
theorem xr_33_49 : X_row 33 49 = some (49, (.ifCond .eq 19, 3), (0, 0, 0)) := by decide +kernel
theorem xr_33_52 : X_row 33 52 = some (52, (.aload_n 0, 1), (0, 0, 0)) := by decide +kernel
theorem xr_33_53 : X_row 33 53 = some (53, (.iload_n 1, 1), (0, 0, 0)) := by decide +kernel
theorem xr_33_54 : X_row 33 54 = some (54, (.iload_n 2, 1), (0, 0, 0)) := by decide +kernel
theorem xr_33_55 : X_row 33 55 = some (55, (.iconst 1, 1), (0, 0, 0)) := by decide +kernel
theorem xr_33_56 : X_row 33 56 = some (56, (.iadd, 1), (0, 0, 0)) := by decide +kernel
theorem xr_33_57 : X_row 33 57 = some (57, (.iload_n 3, 1), (0, 0, 0)) := by decide +kernel
theorem xr_33_58 : X_row 33 58 = some (58, (.iconst 1, 1), (0, 0, 0)) := by decide +kernel
theorem xr_33_59 : X_row 33 59 = some (59, (.iadd, 1), (0, 0, 0)) := by decide +kernel
theorem xr_33_60 : X_row 33 60 = some (60, (.iload 4, 2), (0, 0, 0)) := by decide +kernel
theorem xr_33_62 : X_row 33 62 = some (62, (.invokevirtual 138, 3), (34, 8, 0)) := by decide +kernel
theorem xr_33_65 : X_row 33 65 = some (65, (.goto 4, 3), (0, 0, 0)) := by decide +kernel
theorem xr_33_68 : X_row 33 68 = some (68, (.lconst 0, 1), (0, 0, 0)) := by decide +kernel
theorem xr_33_69 : X_row 33 69 = some (69, (.lreturn, 1), (0, 0, 0)) := by decide +kernel
theorem xr_33_70 : X_row 33 70 = some (70, (.aload 5, 2), (0, 0, 0)) := by decide +kernel
theorem xr_33_72 : X_row 33 72 = some (72, (.getfield 141, 3), (8, 9, 7)) := by decide +kernel
theorem xr_33_75 : X_row 33 75 = some (75, (.iload_n 2, 1), (0, 0, 0)) := by decide +kernel
theorem xr_33_76 : X_row 33 76 = some (76, (.iaload, 1), (0, 0, 0)) := by decide +kernel
theorem xr_33_77 : X_row 33 77 = some (77, (.istore 6, 2), (0, 0, 0)) := by decide +kernel
theorem xr_33_79 : X_row 33 79 = some (79, (.lconst 0, 1), (0, 0, 0)) := by decide +kernel
theorem xr_33_80 : X_row 33 80 = some (80, (.lstore 7, 2), (0, 0, 0)) := by decide +kernel
theorem xr_33_82 : X_row 33 82 = some (82, (.iload_n 3, 1), (0, 0, 0)) := by decide +kernel
theorem xr_33_83 : X_row 33 83 = some (83, (.iconst 1, 1), (0, 0, 0)) := by decide +kernel
theorem xr_33_84 : X_row 33 84 = some (84, (.iadd, 1), (0, 0, 0)) := by decide +kernel
theorem xr_33_85 : X_row 33 85 = some (85, (.istore 9, 2), (0, 0, 0)) := by decide +kernel
theorem xr_33_87 : X_row 33 87 = some (87, (.iload 9, 2), (0, 0, 0)) := by decide +kernel
theorem xr_33_89 : X_row 33 89 = some (89, (.iload 4, 2), (0, 0, 0)) := by decide +kernel
theorem xr_33_91 : X_row 33 91 = some (91, (.if_icmp .gt 52, 3), (0, 0, 0)) := by decide +kernel
theorem xr_33_94 : X_row 33 94 = some (94, (.aload_n 0, 1), (0, 0, 0)) := by decide +kernel
theorem xr_33_95 : X_row 33 95 = some (95, (.iload_n 1, 1), (0, 0, 0)) := by decide +kernel
theorem xr_33_96 : X_row 33 96 = some (96, (.iload_n 2, 1), (0, 0, 0)) := by decide +kernel
theorem xr_33_97 : X_row 33 97 = some (97, (.iconst 1, 1), (0, 0, 0)) := by decide +kernel
theorem xr_33_98 : X_row 33 98 = some (98, (.iadd, 1), (0, 0, 0)) := by decide +kernel
theorem xr_33_99 : X_row 33 99 = some (99, (.iload 9, 2), (0, 0, 0)) := by decide +kernel
theorem xr_33_101 : X_row 33 101 = some (101, (.iload 4, 2), (0, 0, 0)) := by decide +kernel
theorem xr_33_103 : X_row 33 103 = some (103, (.invokevirtual 138, 3), (34, 8, 0)) := by decide +kernel
theorem xr_33_106 : X_row 33 106 = some (106, (.lstore 10, 2), (0, 0, 0)) := by decide +kernel
theorem xr_33_108 : X_row 33 108 = some (108, (.lload 10, 2), (0, 0, 0)) := by decide +kernel
theorem xr_33_110 : X_row 33 110 = some (110, (.lconst 0, 1), (0, 0, 0)) := by decide +kernel
theorem xr_33_111 : X_row 33 111 = some (111, (.lcmp, 1), (0, 0, 0)) := by decide +kernel
theorem xr_33_112 : X_row 33 112 = some (112, (.ifCond .eq 25, 3), (0, 0, 0)) := by decide +kernel
theorem xr_33_115 : X_row 33 115 = some (115, (.lload 7, 2), (0, 0, 0)) := by decide +kernel
theorem xr_33_117 : X_row 33 117 = some (117, (.aload_n 0, 1), (0, 0, 0)) := by decide +kernel
theorem xr_33_118 : X_row 33 118 = some (118, (.iload_n 3, 1), (0, 0, 0)) := by decide +kernel
theorem xr_33_119 : X_row 33 119 = some (119, (.iload 9, 2), (0, 0, 0)) := by decide +kernel
theorem xr_33_121 : X_row 33 121 = some (121, (.iload_n 1, 1), (0, 0, 0)) := by decide +kernel
theorem xr_33_122 : X_row 33 122 = some (122, (.iload 6, 2), (0, 0, 0)) := by decide +kernel
theorem xr_33_124 : X_row 33 124 = some (124, (.invokevirtual 144, 3), (23, 12, 0)) := by decide +kernel
theorem xr_33_127 : X_row 33 127 = some (127, (.lload 10, 2), (0, 0, 0)) := by decide +kernel
theorem xr_33_129 : X_row 33 129 = some (129, (.invokestatic 147, 3), (116, 15, 0)) := by decide +kernel
theorem xr_33_132 : X_row 33 132 = some (132, (.invokestatic 58, 3), (115, 17, 0)) := by decide +kernel
theorem xr_33_135 : X_row 33 135 = some (135, (.lstore 7, 2), (0, 0, 0)) := by decide +kernel
theorem xr_33_137 : X_row 33 137 = some (137, (.iinc 9 1, 3), (0, 0, 0)) := by decide +kernel
theorem xr_33_140 : X_row 33 140 = some (140, (.goto (-53), 3), (0, 0, 0)) := by decide +kernel
theorem xr_33_143 : X_row 33 143 = some (143, (.lload 7, 2), (0, 0, 0)) := by decide +kernel
theorem xr_33_145 : X_row 33 145 = some (145, (.lreturn, 1), (0, 0, 0)) := by decide +kernel
theorem xr_34_0 : X_row 34 0 = some (0, (.iload_n 2, 1), (0, 0, 0)) := by decide +kernel
theorem xr_34_1 : X_row 34 1 = some (1, (.aload_n 0, 1), (0, 0, 0)) := by decide +kernel
theorem xr_34_2 : X_row 34 2 = some (2, (.getfield 32, 3), (1, 0, 22)) := by decide +kernel
theorem xr_34_5 : X_row 34 5 = some (5, (.getfield 110, 3), (0, 7, 17)) := by decide +kernel
theorem xr_34_8 : X_row 34 8 = some (8, (.iload_n 1, 1), (0, 0, 0)) := by decide +kernel
theorem xr_34_9 : X_row 34 9 = some (9, (.aaload, 1), (0, 0, 0)) := by decide +kernel
theorem xr_34_10 : X_row 34 10 = some (10, (.getfield 126, 3), (8, 3, 1)) := by decide +kernel
theorem xr_34_13 : X_row 34 13 = some (13, (.if_icmp .ne 7, 3), (0, 0, 0)) := by decide +kernel
theorem xr_34_16 : X_row 34 16 = some (16, (.iconst 1, 1), (0, 0, 0)) := by decide +kernel
theorem xr_34_17 : X_row 34 17 = some (17, (.goto 4, 3), (0, 0, 0)) := by decide +kernel
theorem xr_34_20 : X_row 34 20 = some (20, (.iconst 0, 1), (0, 0, 0)) := by decide +kernel
theorem xr_34_21 : X_row 34 21 = some (21, (.istore 5, 2), (0, 0, 0)) := by decide +kernel
theorem xr_34_23 : X_row 34 23 = some (23, (.iload_n 3, 1), (0, 0, 0)) := by decide +kernel
theorem xr_34_24 : X_row 34 24 = some (24, (.iload 4, 2), (0, 0, 0)) := by decide +kernel
theorem xr_34_26 : X_row 34 26 = some (26, (.if_icmp .ne 14, 3), (0, 0, 0)) := by decide +kernel
theorem xr_34_29 : X_row 34 29 = some (29, (.iload 5, 2), (0, 0, 0)) := by decide +kernel
theorem xr_34_31 : X_row 34 31 = some (31, (.ifCond .eq 7, 3), (0, 0, 0)) := by decide +kernel
theorem xr_34_34 : X_row 34 34 = some (34, (.lconst 1, 1), (0, 0, 0)) := by decide +kernel
theorem xr_34_35 : X_row 34 35 = some (35, (.goto 4, 3), (0, 0, 0)) := by decide +kernel
theorem xr_34_38 : X_row 34 38 = some (38, (.lconst 0, 1), (0, 0, 0)) := by decide +kernel
theorem xr_34_39 : X_row 34 39 = some (39, (.lreturn, 1), (0, 0, 0)) := by decide +kernel
theorem xr_34_40 : X_row 34 40 = some (40, (.iload 5, 2), (0, 0, 0)) := by decide +kernel
theorem xr_34_42 : X_row 34 42 = some (42, (.ifCond .eq 7, 3), (0, 0, 0)) := by decide +kernel
theorem xr_34_45 : X_row 34 45 = some (45, (.lconst 0, 1), (0, 0, 0)) := by decide +kernel
theorem xr_34_46 : X_row 34 46 = some (46, (.goto 14, 3), (0, 0, 0)) := by decide +kernel
theorem xr_34_49 : X_row 34 49 = some (49, (.aload_n 0, 1), (0, 0, 0)) := by decide +kernel
theorem xr_34_50 : X_row 34 50 = some (50, (.getfield 29, 3), (1, 7, 36)) := by decide +kernel
theorem xr_34_53 : X_row 34 53 = some (53, (.iload_n 1, 1), (0, 0, 0)) := by decide +kernel
theorem xr_34_54 : X_row 34 54 = some (54, (.iload_n 2, 1), (0, 0, 0)) := by decide +kernel
theorem xr_34_55 : X_row 34 55 = some (55, (.iload_n 3, 1), (0, 0, 0)) := by decide +kernel
theorem xr_34_56 : X_row 34 56 = some (56, (.invokestatic 78, 3), (21, 10, 0)) := by decide +kernel
theorem xr_34_59 : X_row 34 59 = some (59, (.laload, 1), (0, 0, 0)) := by decide +kernel
theorem xr_34_60 : X_row 34 60 = some (60, (.lreturn, 1), (0, 0, 0)) := by decide +kernel
theorem xn_21 : X_nL 21 = 3 := by decide +kernel
theorem xf_21 : X_na 21 = 3 ∧ X_ci 21 = 1 ∧ X_rt 21 = (some .int) := by decide +kernel
theorem xn_23 : X_nL 23 = 5 := by decide +kernel
theorem xf_23 : X_na 23 = 4 ∧ X_ci 23 = 1 ∧ X_rt 23 = (some .long) := by decide +kernel
theorem xn_31 : X_nL 31 = 5 := by decide +kernel
theorem xf_31 : X_na 31 = 3 ∧ X_ci 31 = 1 ∧ X_rt 31 = none := by decide +kernel
theorem xn_32 : X_nL 32 = 6 := by decide +kernel
theorem xf_32 : X_na 32 = 3 ∧ X_ci 32 = 1 ∧ X_rt 32 = none := by decide +kernel
theorem xn_33 : X_nL 33 = 12 := by decide +kernel
theorem xf_33 : X_na 33 = 4 ∧ X_ci 33 = 1 ∧ X_rt 33 = (some .long) := by decide +kernel
theorem xn_34 : X_nL 34 = 6 := by decide +kernel
theorem xf_34 : X_na 34 = 4 ∧ X_ci 34 = 1 ∧ X_rt 34 = (some .long) := by decide +kernel
theorem c_tail (sc : X_Sc) (S : X_S) (tl : Int → Int64) (B : Nat) (rc : Int) (rn : Int → Int64) (kn : Int → Int64) (G : X_G) (tn : Int) (fl : Int) (w : Int) (e : Int) (p : Int) (j : Int) (hO511 : S.1 511 = .inr (1, [.ref B, .ref 501, .int (iI fl), .ref 512, .ref 513, .ref 514, .ref 515, .ref 516])) (hA516 : S.1 516 = .inl (.long, 7200, .inr (.inl fun k : Nat => tl (k : Int)))) (hB : B = 4 ∨ B = 250) (hb : C_bk S B rc (gk G) (gw G) rn (gl G) kn (ga G)) (hs : C_ws S B (gD G) (gW G)) (hG : X_Gok G) (hw : 0 ≤ w ∧ w < gw G) (he : 1 ≤ e ∧ e ≤ gD G w 3 0) (hpj : 0 ≤ p ∧ p ≤ j ∧ j ≤ 30) (ht : p < j → e < gD G w 3 0 → tl ((w * 8 + e) * 30 + p) = X_st (-2) (X_Ew G (X_T_ G) w e p j)) : X_T sc 34 (0, [(0, .ref 511), (1, .int (iI w)), (2, .int (iI e)), (3, .int (iI p)), (4, .int (iI j))], [], S) (fun v S' => v = some (.long (X_st (-2) (X_Ew G (X_T_ G) w e p j))) ∧ S' = S) := by
  obtain ⟨hb0, hb1, hb2, hb3, hb4, ⟨f, hb5, hf⟩, ⟨hrc, hrcb⟩, ⟨hkc, hkcb⟩, ⟨hwc, hwcb⟩⟩ := id hb
  have hgw := hG.2.2.2 w hw.1 hw.2
  have hsz := hgw.1
  refine X_QI (fun Q hQ => ?_)
  have J522 : X_T sc 34 (21, [(0, .ref 511), (1, .int (iI w)), (2, .int (iI e)), (3, .int (iI p)), (4, .int (iI j))], [.int (iI (bI (e = gD G w 3 0)))], S) Q := by
    refine T_p xr_34_21 xn_34 (pc' := 23) (ls' := [(5, .int (iI (bI (e = gD G w 3 0)))), (0, .ref 511), (1, .int (iI w)), (2, .int (iI e)), (3, .int (iI p)), (4, .int (iI j))]) (st' := []) rfl ?_
    refine T_p xr_34_23 xn_34 (pc' := 24) (ls' := [(5, .int (iI (bI (e = gD G w 3 0)))), (0, .ref 511), (1, .int (iI w)), (2, .int (iI e)), (3, .int (iI p)), (4, .int (iI j))]) (st' := [.int (iI p)]) rfl ?_
    refine T_p xr_34_24 xn_34 (pc' := 26) (ls' := [(5, .int (iI (bI (e = gD G w 3 0)))), (0, .ref 511), (1, .int (iI w)), (2, .int (iI e)), (3, .int (iI p)), (4, .int (iI j))]) (st' := [.int (iI j), .int (iI p)]) rfl ?_
    refine T_zicmp_ne xr_34_26 (t := 40) (pc' := 29) rfl rfl (fun c523 => ?_) (fun c523 => ?_)
    · skip
      have c523 : ¬ p = j := c523
      refine T_p xr_34_40 xn_34 (pc' := 42) (ls' := [(5, .int (iI (bI (e = gD G w 3 0)))), (0, .ref 511), (1, .int (iI w)), (2, .int (iI e)), (3, .int (iI p)), (4, .int (iI j))]) (st' := [.int (iI (bI (e = gD G w 3 0)))]) rfl ?_
      refine T_bif_eq xr_34_42 (t := 49) (pc' := 45) rfl rfl (fun c524 => ?_) (fun c524 => ?_)
      · skip
        have c524 : ¬ (e = gD G w 3 0) := c524
        refine T_p xr_34_49 xn_34 (pc' := 50) (ls' := [(5, .int (iI (bI (e = gD G w 3 0)))), (0, .ref 511), (1, .int (iI w)), (2, .int (iI e)), (3, .int (iI p)), (4, .int (iI j))]) (st' := [.ref 511]) rfl ?_
        refine T_get xr_34_50 hO511 rfl (v := .ref 516) rfl (pc' := 53) rfl ?_
        refine T_p xr_34_53 xn_34 (pc' := 54) (ls' := [(5, .int (iI (bI (e = gD G w 3 0)))), (0, .ref 511), (1, .int (iI w)), (2, .int (iI e)), (3, .int (iI p)), (4, .int (iI j))]) (st' := [.int (iI w), .ref 516]) rfl ?_
        refine T_p xr_34_54 xn_34 (pc' := 55) (ls' := [(5, .int (iI (bI (e = gD G w 3 0)))), (0, .ref 511), (1, .int (iI w)), (2, .int (iI e)), (3, .int (iI p)), (4, .int (iI j))]) (st' := [.int (iI e), .int (iI w), .ref 516]) rfl ?_
        refine T_p xr_34_55 xn_34 (pc' := 56) (ls' := [(5, .int (iI (bI (e = gD G w 3 0)))), (0, .ref 511), (1, .int (iI w)), (2, .int (iI e)), (3, .int (iI p)), (4, .int (iI j))]) (st' := [.int (iI p), .int (iI e), .int (iI w), .ref 516]) rfl ?_
        refine T_cs xr_34_56 (by decide) xf_21.1 xn_21 (as := [.int (iI w), .int (iI e), .int (iI p)]) (r := [.ref 516]) rfl (Nat.le_of_ble_eq_true rfl) (Nat.le_of_ble_eq_true rfl) (pc' := 59) rfl (ls' := [(0, .int (iI w)), (1, .int (iI e)), (2, .int (iI p))]) rfl ?_
        refine T_p xr_21_0 xn_21 (pc' := 1) (ls' := [(0, .int (iI w)), (1, .int (iI e)), (2, .int (iI p))]) (st' := [.int (iI w)]) rfl ?_
        refine T_p xr_21_1 xn_21 (pc' := 3) (ls' := [(0, .int (iI w)), (1, .int (iI e)), (2, .int (iI p))]) (st' := [.int (iI 8), .int (iI w)]) rfl ?_
        refine T_zimul xr_21_3 (z := w * 8) rfl (pc' := 4) rfl ?_
        refine T_p xr_21_4 xn_21 (pc' := 5) (ls' := [(0, .int (iI w)), (1, .int (iI e)), (2, .int (iI p))]) (st' := [.int (iI e), .int (iI (w * 8))]) rfl ?_
        refine T_ziadd xr_21_5 (z := (w * 8) + e) rfl (pc' := 6) rfl ?_
        refine T_p xr_21_6 xn_21 (pc' := 8) (ls' := [(0, .int (iI w)), (1, .int (iI e)), (2, .int (iI p))]) (st' := [.int (iI 30), .int (iI ((w * 8) + e))]) rfl ?_
        refine T_zimul xr_21_8 (z := ((w * 8) + e) * 30) rfl (pc' := 9) rfl ?_
        refine T_p xr_21_9 xn_21 (pc' := 10) (ls' := [(0, .int (iI w)), (1, .int (iI e)), (2, .int (iI p))]) (st' := [.int (iI p), .int (iI (((w * 8) + e) * 30))]) rfl ?_
        refine T_ziadd xr_21_10 (z := (((w * 8) + e) * 30) + p) rfl (pc' := 11) rfl ?_
        refine T_iret xr_21_11 xf_21.2.2 rfl ?_
        show X_T sc 34 (59, [(5, .int (iI (bI (e = gD G w 3 0)))), (0, .ref 511), (1, .int (iI w)), (2, .int (iI e)), (3, .int (iI p)), (4, .int (iI j))], [.int (iI ((((w * 8) + e) * 30) + p)), .ref 516], S) _
        refine T_zlald xr_34_59 hA516 (pc' := 60) rfl ?_
        refine T_lret xr_34_60 xf_34.2.2 rfl ?_
        refine hQ _ _ ?_
        exact ⟨by rw [ht (by omega) (by omega)], rfl⟩
      · skip
        have c524 : (e = gD G w 3 0) := c524
        refine T_p xr_34_45 xn_34 (pc' := 46) (ls' := [(5, .int (iI (bI (e = gD G w 3 0)))), (0, .ref 511), (1, .int (iI w)), (2, .int (iI e)), (3, .int (iI p)), (4, .int (iI j))]) (st' := [.long (iL 0)]) rfl ?_
        refine T_p xr_34_46 xn_34 (pc' := 60) (ls' := [(5, .int (iI (bI (e = gD G w 3 0)))), (0, .ref 511), (1, .int (iI w)), (2, .int (iI e)), (3, .int (iI p)), (4, .int (iI j))]) (st' := [.long (iL 0)]) rfl ?_
        refine T_lret xr_34_60 xf_34.2.2 rfl ?_
        refine hQ _ _ ?_
        exact ⟨by first | (rw [X_Ew_e (by omega), if_neg (by omega)]; rfl) | (rw [X_Ew_0 (by omega)]; rfl), rfl⟩
    · skip
      have c523 : ¬ (¬ p = j) := c523
      refine T_p xr_34_29 xn_34 (pc' := 31) (ls' := [(5, .int (iI (bI (e = gD G w 3 0)))), (0, .ref 511), (1, .int (iI w)), (2, .int (iI e)), (3, .int (iI p)), (4, .int (iI j))]) (st' := [.int (iI (bI (e = gD G w 3 0)))]) rfl ?_
      refine T_bif_eq xr_34_31 (t := 38) (pc' := 34) rfl rfl (fun c525 => ?_) (fun c525 => ?_)
      · skip
        have c525 : ¬ (e = gD G w 3 0) := c525
        refine T_p xr_34_38 xn_34 (pc' := 39) (ls' := [(5, .int (iI (bI (e = gD G w 3 0)))), (0, .ref 511), (1, .int (iI w)), (2, .int (iI e)), (3, .int (iI p)), (4, .int (iI j))]) (st' := [.long (iL 0)]) rfl ?_
        refine T_lret xr_34_39 xf_34.2.2 rfl ?_
        refine hQ _ _ ?_
        exact ⟨by first | (rw [X_Ew_e (by omega), if_neg (by omega)]; rfl) | (rw [X_Ew_0 (by omega)]; rfl), rfl⟩
      · skip
        have c525 : (e = gD G w 3 0) := c525
        refine T_p xr_34_34 xn_34 (pc' := 35) (ls' := [(5, .int (iI (bI (e = gD G w 3 0)))), (0, .ref 511), (1, .int (iI w)), (2, .int (iI e)), (3, .int (iI p)), (4, .int (iI j))]) (st' := [.long (iL 1)]) rfl ?_
        refine T_p xr_34_35 xn_34 (pc' := 39) (ls' := [(5, .int (iI (bI (e = gD G w 3 0)))), (0, .ref 511), (1, .int (iI w)), (2, .int (iI e)), (3, .int (iI p)), (4, .int (iI j))]) (st' := [.long (iL 1)]) rfl ?_
        refine T_lret xr_34_39 xf_34.2.2 rfl ?_
        refine hQ _ _ ?_
        exact ⟨by rw [X_Ew_e (by omega), if_pos (by omega)]; rfl, rfl⟩
  refine T_p xr_34_0 xn_34 (pc' := 1) (ls' := [(0, .ref 511), (1, .int (iI w)), (2, .int (iI e)), (3, .int (iI p)), (4, .int (iI j))]) (st' := [.int (iI e)]) rfl ?_
  refine T_p xr_34_1 xn_34 (pc' := 2) (ls' := [(0, .ref 511), (1, .int (iI w)), (2, .int (iI e)), (3, .int (iI p)), (4, .int (iI j))]) (st' := [.ref 511, .int (iI e)]) rfl ?_
  refine T_get xr_34_2 hO511 rfl (v := .ref B) rfl (pc' := 5) rfl ?_
  refine T_get xr_34_5 hb0 rfl (v := .ref (B + 5)) rfl (pc' := 8) rfl ?_
  refine T_p xr_34_8 xn_34 (pc' := 9) (ls' := [(0, .ref 511), (1, .int (iI w)), (2, .int (iI e)), (3, .int (iI p)), (4, .int (iI j))]) (st' := [.int (iI w), .ref (B + 5), .int (iI e)]) rfl ?_
  have hw526 := hs w (by omega) (by omega)
  obtain ⟨a527, ha528⟩ : ∃ z : Nat, z = B + 6 + 8 * (w : Int).toNat := ⟨_, rfl⟩
  rw [← ha528] at hw526
  obtain ⟨⟨_, _⟩, ⟨_, _⟩, ⟨_, _⟩, ⟨_, _⟩, ⟨_, _⟩, ⟨_, _⟩, ⟨_, _⟩, ⟨_, _⟩⟩ := id hw526.2
  refine T_zaald xr_34_9 hb5 (w := a527) (by rw [ha528]; exact hf _ (by omega)) (pc' := 10) rfl ?_
  refine T_get xr_34_10 hw526.1.1 rfl (v := .int (iI ((gD G) w 3 0))) rfl (pc' := 13) rfl ?_
  refine T_zicmp_ne xr_34_13 (t := 20) (pc' := 16) rfl rfl (fun c529 => ?_) (fun c529 => ?_)
  · skip
    have c529 : ¬ e = ((gD G) w 3 0) := c529
    refine T_p xr_34_20 xn_34 (pc' := 21) (ls' := [(0, .ref 511), (1, .int (iI w)), (2, .int (iI e)), (3, .int (iI p)), (4, .int (iI j))]) (st' := [.int (iI 0)]) rfl ?_
    refine T_ie (y := iI (bI (e = gD G w 3 0))) (by rw [bI_f (by omega)]) ?_
    exact J522
  · skip
    have c529 : ¬ (¬ e = ((gD G) w 3 0)) := c529
    refine T_p xr_34_16 xn_34 (pc' := 17) (ls' := [(0, .ref 511), (1, .int (iI w)), (2, .int (iI e)), (3, .int (iI p)), (4, .int (iI j))]) (st' := [.int (iI 1)]) rfl ?_
    refine T_p xr_34_17 xn_34 (pc' := 21) (ls' := [(0, .ref 511), (1, .int (iI w)), (2, .int (iI e)), (3, .int (iI p)), (4, .int (iI j))]) (st' := [.int (iI 1)]) rfl ?_
    refine T_ie (y := iI (bI (e = gD G w 3 0))) (by rw [bI_t (by omega)]) ?_
    exact J522
theorem c_ways (sc : X_Sc) (S : X_S) (oH : Int → Int64) (tl : Int → Int64) (B : Nat) (rc : Int) (rn : Int → Int64) (kn : Int → Int64) (G : X_G) (tn : Int) (fl : Int) (w : Int) (e : Int) (i : Int) (j : Int) (hO501 : S.1 501 = .inr (6, [.int (iI tn), .ref 502, .ref 503])) (hO511 : S.1 511 = .inr (1, [.ref B, .ref 501, .int (iI fl), .ref 512, .ref 513, .ref 514, .ref 515, .ref 516])) (hA515 : S.1 515 = .inl (.long, 55800, .inr (.inl fun k : Nat => oH (k : Int)))) (hA516 : S.1 516 = .inl (.long, 7200, .inr (.inl fun k : Nat => tl (k : Int)))) (hB : B = 4 ∨ B = 250) (hb : C_bk S B rc (gk G) (gw G) rn (gl G) kn (ga G)) (hs : C_ws S B (gD G) (gW G)) (hG : X_Gok G) (hA502 : S.1 502 = .inl (.long, 30, .inr (.inl fun k : Nat => (gt G) (k : Int)))) (hw : 0 ≤ w ∧ w < gw G) (he : 0 ≤ e ∧ e < gD G w 3 0) (hij : 0 ≤ i ∧ i < j ∧ j ≤ tn ∧ tn ≤ 30) (ht : ∀ p, i < p → p < j → X_tl G (-2) w p j tl) (hH : gW G w e = 0 → ∀ m, i < m → m ≤ j → ¬ X_Ew G (X_T_ G) w (e + 1) m j = 0 → oH ((X_ro i m * 30 + w) * 4 + gD G w 8 e) = X_st (-2) (X_Hw G (X_T_ G) w e i m)) : X_T sc 33 (0, [(0, .ref 511), (1, .int (iI w)), (2, .int (iI e)), (3, .int (iI i)), (4, .int (iI j))], [], S) (fun v S' => v = some (.long (X_st (-2) (X_Ew G (X_T_ G) w e i j))) ∧ S' = S) := by
  obtain ⟨hb0, hb1, hb2, hb3, hb4, ⟨f, hb5, hf⟩, ⟨hrc, hrcb⟩, ⟨hkc, hkcb⟩, ⟨hwc, hwcb⟩⟩ := id hb
  have hgw := hG.2.2.2 w hw.1 hw.2
  have hsz := hgw.1
  have hho := hgw.2.1
  refine X_QI (fun Q hQ => ?_)
  refine T_p xr_33_0 xn_33 (pc' := 1) (ls' := [(0, .ref 511), (1, .int (iI w)), (2, .int (iI e)), (3, .int (iI i)), (4, .int (iI j))]) (st' := [.ref 511]) rfl ?_
  refine T_get xr_33_1 hO511 rfl (v := .ref B) rfl (pc' := 4) rfl ?_
  refine T_get xr_33_4 hb0 rfl (v := .ref (B + 5)) rfl (pc' := 7) rfl ?_
  refine T_p xr_33_7 xn_33 (pc' := 8) (ls' := [(0, .ref 511), (1, .int (iI w)), (2, .int (iI e)), (3, .int (iI i)), (4, .int (iI j))]) (st' := [.int (iI w), .ref (B + 5)]) rfl ?_
  have hwaw := hs w (by omega) (by omega)
  obtain ⟨aw, haaw⟩ : ∃ z : Nat, z = B + 6 + 8 * (w : Int).toNat := ⟨_, rfl⟩
  rw [← haaw] at hwaw
  obtain ⟨⟨_, _⟩, ⟨_, _⟩, ⟨_, _⟩, ⟨_, _⟩, ⟨_, _⟩, ⟨_, _⟩, ⟨_, _⟩, ⟨_, _⟩⟩ := id hwaw.2
  refine T_zaald xr_33_8 hb5 (w := aw) (by rw [haaw]; exact hf _ (by omega)) (pc' := 9) rfl ?_
  refine T_p xr_33_9 xn_33 (pc' := 11) (ls' := [(5, .ref aw), (0, .ref 511), (1, .int (iI w)), (2, .int (iI e)), (3, .int (iI i)), (4, .int (iI j))]) (st' := []) rfl ?_
  refine T_p xr_33_11 xn_33 (pc' := 13) (ls' := [(5, .ref aw), (0, .ref 511), (1, .int (iI w)), (2, .int (iI e)), (3, .int (iI i)), (4, .int (iI j))]) (st' := [.ref aw]) rfl ?_
  refine T_p xr_33_13 xn_33 (pc' := 14) (ls' := [(5, .ref aw), (0, .ref 511), (1, .int (iI w)), (2, .int (iI e)), (3, .int (iI i)), (4, .int (iI j))]) (st' := [.int (iI e), .ref aw]) rfl ?_
  refine T_cv (S := S) (q := aw) xr_33_14 xf_95.1 xf_95.2.1 xn_95 (as := [.int (iI e)]) (r := []) rfl hwaw.1.1 (Nat.le_of_ble_eq_true rfl) (Nat.le_of_ble_eq_true rfl) (pc' := 17) rfl (ls' := [(0, .ref aw), (1, .int (iI e))]) rfl ?_
  refine T_mono (c_isHole sc S aw ((gD G) w) ((gW G) w) e ⟨hwaw.1.1, hwaw.1.2.1, hwaw.1.2.2.1, hwaw.1.2.2.2.1, hwaw.1.2.2.2.2.1, hwaw.1.2.2.2.2.2.1, hwaw.1.2.2.2.2.2.2.1, hwaw.1.2.2.2.2.2.2.2⟩ hwaw.2 (by omega)) (fun v534 S535 h533 => ?_)
  obtain ⟨h536, h537⟩ := h533
  rw [h536, h537]
  show X_T sc 33 (17, [(5, .ref aw), (0, .ref 511), (1, .int (iI w)), (2, .int (iI e)), (3, .int (iI i)), (4, .int (iI j))], [.int (iI (bI (X_hl ((gD G) w) ((gW G) w) e)))], S) _
  refine T_bif_ne xr_33_17 (t := 70) (pc' := 20) rfl rfl (fun c538 => ?_) (fun c538 => ?_)
  · skip
    have c538 : (X_hl ((gD G) w) ((gW G) w) e) := c538
    have hq0 : gW G w e = 0 := (show X_hl (gD G w) (gW G w) e by assumption).2.2
    have hh8 := hgw.hole he.1 he.2 hq0
    refine T_p xr_33_70 xn_33 (pc' := 72) (ls' := [(5, .ref aw), (0, .ref 511), (1, .int (iI w)), (2, .int (iI e)), (3, .int (iI i)), (4, .int (iI j))]) (st' := [.ref aw]) rfl ?_
    refine T_get xr_33_72 hwaw.1.1 rfl (v := .ref (aw + 2)) rfl (pc' := 75) rfl ?_
    refine T_p xr_33_75 xn_33 (pc' := 76) (ls' := [(5, .ref aw), (0, .ref 511), (1, .int (iI w)), (2, .int (iI e)), (3, .int (iI i)), (4, .int (iI j))]) (st' := [.int (iI e), .ref (aw + 2)]) rfl ?_
    refine T_ziald xr_33_76 hwaw.1.2.2.1 (pc' := 77) rfl ?_
    refine T_p xr_33_77 xn_33 (pc' := 79) (ls' := [(6, .int (iI (((gD G) w 8) e))), (5, .ref aw), (0, .ref 511), (1, .int (iI w)), (2, .int (iI e)), (3, .int (iI i)), (4, .int (iI j))]) (st' := []) rfl ?_
    refine T_p xr_33_79 xn_33 (pc' := 80) (ls' := [(6, .int (iI (((gD G) w 8) e))), (5, .ref aw), (0, .ref 511), (1, .int (iI w)), (2, .int (iI e)), (3, .int (iI i)), (4, .int (iI j))]) (st' := [.long (iL 0)]) rfl ?_
    refine T_p xr_33_80 xn_33 (pc' := 82) (ls' := [(7, .long (iL 0)), (6, .int (iI (((gD G) w 8) e))), (5, .ref aw), (0, .ref 511), (1, .int (iI w)), (2, .int (iI e)), (3, .int (iI i)), (4, .int (iI j))]) (st' := []) rfl ?_
    refine T_p xr_33_82 xn_33 (pc' := 83) (ls' := [(7, .long (iL 0)), (6, .int (iI (((gD G) w 8) e))), (5, .ref aw), (0, .ref 511), (1, .int (iI w)), (2, .int (iI e)), (3, .int (iI i)), (4, .int (iI j))]) (st' := [.int (iI i)]) rfl ?_
    refine T_p xr_33_83 xn_33 (pc' := 84) (ls' := [(7, .long (iL 0)), (6, .int (iI (((gD G) w 8) e))), (5, .ref aw), (0, .ref 511), (1, .int (iI w)), (2, .int (iI e)), (3, .int (iI i)), (4, .int (iI j))]) (st' := [.int (iI 1), .int (iI i)]) rfl ?_
    refine T_ziadd xr_33_84 (z := i + 1) rfl (pc' := 85) rfl ?_
    refine T_p xr_33_85 xn_33 (pc' := 87) (ls' := [(9, .int (iI (i + 1))), (7, .long (iL 0)), (6, .int (iI (((gD G) w 8) e))), (5, .ref aw), (0, .ref 511), (1, .int (iI w)), (2, .int (iI e)), (3, .int (iI i)), (4, .int (iI j))]) (st' := []) rfl ?_
    have L539 : ∀ (m541 : Nat) (m : Int) (su : Nat) (hm : i + 1 ≤ m ∧ m ≤ j + 1) (hsu : su = X_Su (fun q => X_Hw G (X_T_ G) w e i q * X_Ew G (X_T_ G) w (e + 1) q j) (i + 1) m) (hm542 : j + 1 - m < m541), X_T sc 33 (87, [(9, .int (iI m)), (7, .long (X_st (-2) su)), (6, .int (iI ((gD G w 8) e))), (0, .ref 511), (1, .int (iI w)), (2, .int (iI e)), (3, .int (iI i)), (4, .int (iI j))], [], S) Q := by
      intro m541
      induction m541 with
      | zero =>
        intro m su hm hsu hm542
        exact (show False by omega).elim
      | succ m541 ih540 =>
        intro m su hm hsu hm542
        refine T_p xr_33_87 xn_33 (pc' := 89) (ls' := [(9, .int (iI m)), (7, .long (X_st (-2) su)), (6, .int (iI ((gD G w 8) e))), (0, .ref 511), (1, .int (iI w)), (2, .int (iI e)), (3, .int (iI i)), (4, .int (iI j))]) (st' := [.int (iI m)]) rfl ?_
        refine T_p xr_33_89 xn_33 (pc' := 91) (ls' := [(9, .int (iI m)), (7, .long (X_st (-2) su)), (6, .int (iI ((gD G w 8) e))), (0, .ref 511), (1, .int (iI w)), (2, .int (iI e)), (3, .int (iI i)), (4, .int (iI j))]) (st' := [.int (iI j), .int (iI m)]) rfl ?_
        refine T_zicmp_gt xr_33_91 (t := 143) (pc' := 94) rfl rfl (fun c544 => ?_) (fun c544 => ?_)
        · skip
          have c544 : j < m := c544
          refine T_p xr_33_143 xn_33 (pc' := 145) (ls' := [(9, .int (iI m)), (7, .long (X_st (-2) su)), (6, .int (iI ((gD G w 8) e))), (0, .ref 511), (1, .int (iI w)), (2, .int (iI e)), (3, .int (iI i)), (4, .int (iI j))]) (st' := [.long (X_st (-2) su)]) rfl ?_
          refine T_lret xr_33_145 xf_33.2.2 rfl ?_
          refine hQ _ _ ?_
          exact ⟨by rw [X_Ew_h he.2 hq0, hsu, show m = j + 1 by omega], rfl⟩
        · skip
          have c544 : ¬ (j < m) := c544
          refine T_p xr_33_94 xn_33 (pc' := 95) (ls' := [(9, .int (iI m)), (7, .long (X_st (-2) su)), (6, .int (iI ((gD G w 8) e))), (0, .ref 511), (1, .int (iI w)), (2, .int (iI e)), (3, .int (iI i)), (4, .int (iI j))]) (st' := [.ref 511]) rfl ?_
          refine T_p xr_33_95 xn_33 (pc' := 96) (ls' := [(9, .int (iI m)), (7, .long (X_st (-2) su)), (6, .int (iI ((gD G w 8) e))), (0, .ref 511), (1, .int (iI w)), (2, .int (iI e)), (3, .int (iI i)), (4, .int (iI j))]) (st' := [.int (iI w), .ref 511]) rfl ?_
          refine T_p xr_33_96 xn_33 (pc' := 97) (ls' := [(9, .int (iI m)), (7, .long (X_st (-2) su)), (6, .int (iI ((gD G w 8) e))), (0, .ref 511), (1, .int (iI w)), (2, .int (iI e)), (3, .int (iI i)), (4, .int (iI j))]) (st' := [.int (iI e), .int (iI w), .ref 511]) rfl ?_
          refine T_p xr_33_97 xn_33 (pc' := 98) (ls' := [(9, .int (iI m)), (7, .long (X_st (-2) su)), (6, .int (iI ((gD G w 8) e))), (0, .ref 511), (1, .int (iI w)), (2, .int (iI e)), (3, .int (iI i)), (4, .int (iI j))]) (st' := [.int (iI 1), .int (iI e), .int (iI w), .ref 511]) rfl ?_
          refine T_ziadd xr_33_98 (z := e + 1) rfl (pc' := 99) rfl ?_
          refine T_p xr_33_99 xn_33 (pc' := 101) (ls' := [(9, .int (iI m)), (7, .long (X_st (-2) su)), (6, .int (iI ((gD G w 8) e))), (0, .ref 511), (1, .int (iI w)), (2, .int (iI e)), (3, .int (iI i)), (4, .int (iI j))]) (st' := [.int (iI m), .int (iI (e + 1)), .int (iI w), .ref 511]) rfl ?_
          refine T_p xr_33_101 xn_33 (pc' := 103) (ls' := [(9, .int (iI m)), (7, .long (X_st (-2) su)), (6, .int (iI ((gD G w 8) e))), (0, .ref 511), (1, .int (iI w)), (2, .int (iI e)), (3, .int (iI i)), (4, .int (iI j))]) (st' := [.int (iI j), .int (iI m), .int (iI (e + 1)), .int (iI w), .ref 511]) rfl ?_
          refine T_cv (S := S) (q := 511) xr_33_103 xf_34.1 xf_34.2.1 xn_34 (as := [.int (iI w), .int (iI (e + 1)), .int (iI m), .int (iI j)]) (r := []) rfl hO511 (Nat.le_of_ble_eq_true rfl) (Nat.le_of_ble_eq_true rfl) (pc' := 106) rfl (ls' := [(0, .ref 511), (1, .int (iI w)), (2, .int (iI (e + 1))), (3, .int (iI m)), (4, .int (iI j))]) rfl ?_
          refine T_mono (c_tail sc S tl B rc rn kn G tn fl w (e + 1) m j hO511 hA516 hB ⟨hb0, hb1, hb2, hb3, hb4, ⟨f, hb5, hf⟩, ⟨by omega, by omega⟩, ⟨by omega, by omega⟩, ⟨by omega, by omega⟩⟩ hs hG (by omega) (by omega) (by omega) (fun z1 z2 => ht _ (by omega) z1 _ (by omega) z2)) (fun v545 S546 h547 => ?_)
          rcases h547 with ⟨hv548, hf549⟩
          rw [hv548]
          rw [hf549]
          show X_T sc 33 (106, [(9, .int (iI m)), (7, .long (X_st (-2) su)), (6, .int (iI ((gD G w 8) e))), (0, .ref 511), (1, .int (iI w)), (2, .int (iI e)), (3, .int (iI i)), (4, .int (iI j))], [.long (X_st (-2) (X_Ew G (X_T_ G) w (e + 1) m j))], S) _
          refine T_p xr_33_106 xn_33 (pc' := 108) (ls' := [(10, .long (X_st (-2) (X_Ew G (X_T_ G) w (e + 1) m j))), (9, .int (iI m)), (7, .long (X_st (-2) su)), (6, .int (iI ((gD G w 8) e))), (0, .ref 511), (1, .int (iI w)), (2, .int (iI e)), (3, .int (iI i)), (4, .int (iI j))]) (st' := []) rfl ?_
          refine T_p xr_33_108 xn_33 (pc' := 110) (ls' := [(10, .long (X_st (-2) (X_Ew G (X_T_ G) w (e + 1) m j))), (9, .int (iI m)), (7, .long (X_st (-2) su)), (6, .int (iI ((gD G w 8) e))), (0, .ref 511), (1, .int (iI w)), (2, .int (iI e)), (3, .int (iI i)), (4, .int (iI j))]) (st' := [.long (X_st (-2) (X_Ew G (X_T_ G) w (e + 1) m j))]) rfl ?_
          refine T_p xr_33_110 xn_33 (pc' := 111) (ls' := [(10, .long (X_st (-2) (X_Ew G (X_T_ G) w (e + 1) m j))), (9, .int (iI m)), (7, .long (X_st (-2) su)), (6, .int (iI ((gD G w 8) e))), (0, .ref 511), (1, .int (iI w)), (2, .int (iI e)), (3, .int (iI i)), (4, .int (iI j))]) (st' := [.long (iL 0), .long (X_st (-2) (X_Ew G (X_T_ G) w (e + 1) m j))]) rfl ?_
          refine T_lc_eq xr_33_111 xr_33_112 (t := 137) (pc' := 115) rfl rfl (fun c550 => ?_) (fun c550 => ?_)
          · skip
            have c550 : (X_st (-2) (X_Ew G (X_T_ G) w (e + 1) m j)) = (iL 0) := c550
            refine T_ziinc xr_33_137 xn_33 (a := m) (z := m + 1) rfl (Nat.le_of_ble_eq_true rfl) (by omega) (ls' := [(9, .int (iI (m + 1))), (10, .long (X_st (-2) (X_Ew G (X_T_ G) w (e + 1) m j))), (7, .long (X_st (-2) su)), (6, .int (iI ((gD G w 8) e))), (0, .ref 511), (1, .int (iI w)), (2, .int (iI e)), (3, .int (iI i)), (4, .int (iI j))]) rfl (pc' := 140) rfl ?_
            refine T_p xr_33_140 xn_33 (pc' := 87) (ls' := [(9, .int (iI (m + 1))), (10, .long (X_st (-2) (X_Ew G (X_T_ G) w (e + 1) m j))), (7, .long (X_st (-2) su)), (6, .int (iI ((gD G w 8) e))), (0, .ref 511), (1, .int (iI w)), (2, .int (iI e)), (3, .int (iI i)), (4, .int (iI j))]) (st' := []) rfl ?_
            refine T_sub (ls := [(9, .int (iI (m + 1))), (7, .long (X_st (-2) su)), (6, .int (iI ((gD G w 8) e))), (0, .ref 511), (1, .int (iI w)), (2, .int (iI e)), (3, .int (iI i)), (4, .int (iI j))]) ⟨rfl, rfl, rfl, rfl, rfl, rfl, rfl, rfl, trivial⟩ rfl rfl ?_
            exact ih540 (m + 1) su  (by omega) (by rw [X_Su_s (by omega), ← hsu]; show su = su + X_Hw G (X_T_ G) w e i m * X_Ew G (X_T_ G) w (e + 1) m j; rw [show X_Ew G (X_T_ G) w (e + 1) m j = 0 from (X_st_z (m := -2) (by omega)).mp (by assumption), Nat.mul_zero]; rfl) (by omega)
          · skip
            have c550 : ¬ ((X_st (-2) (X_Ew G (X_T_ G) w (e + 1) m j)) = (iL 0)) := c550
            refine T_p xr_33_115 xn_33 (pc' := 117) (ls' := [(10, .long (X_st (-2) (X_Ew G (X_T_ G) w (e + 1) m j))), (9, .int (iI m)), (7, .long (X_st (-2) su)), (6, .int (iI ((gD G w 8) e))), (0, .ref 511), (1, .int (iI w)), (2, .int (iI e)), (3, .int (iI i)), (4, .int (iI j))]) (st' := [.long (X_st (-2) su)]) rfl ?_
            refine T_p xr_33_117 xn_33 (pc' := 118) (ls' := [(10, .long (X_st (-2) (X_Ew G (X_T_ G) w (e + 1) m j))), (9, .int (iI m)), (7, .long (X_st (-2) su)), (6, .int (iI ((gD G w 8) e))), (0, .ref 511), (1, .int (iI w)), (2, .int (iI e)), (3, .int (iI i)), (4, .int (iI j))]) (st' := [.ref 511, .long (X_st (-2) su)]) rfl ?_
            refine T_p xr_33_118 xn_33 (pc' := 119) (ls' := [(10, .long (X_st (-2) (X_Ew G (X_T_ G) w (e + 1) m j))), (9, .int (iI m)), (7, .long (X_st (-2) su)), (6, .int (iI ((gD G w 8) e))), (0, .ref 511), (1, .int (iI w)), (2, .int (iI e)), (3, .int (iI i)), (4, .int (iI j))]) (st' := [.int (iI i), .ref 511, .long (X_st (-2) su)]) rfl ?_
            refine T_p xr_33_119 xn_33 (pc' := 121) (ls' := [(10, .long (X_st (-2) (X_Ew G (X_T_ G) w (e + 1) m j))), (9, .int (iI m)), (7, .long (X_st (-2) su)), (6, .int (iI ((gD G w 8) e))), (0, .ref 511), (1, .int (iI w)), (2, .int (iI e)), (3, .int (iI i)), (4, .int (iI j))]) (st' := [.int (iI m), .int (iI i), .ref 511, .long (X_st (-2) su)]) rfl ?_
            refine T_p xr_33_121 xn_33 (pc' := 122) (ls' := [(10, .long (X_st (-2) (X_Ew G (X_T_ G) w (e + 1) m j))), (9, .int (iI m)), (7, .long (X_st (-2) su)), (6, .int (iI ((gD G w 8) e))), (0, .ref 511), (1, .int (iI w)), (2, .int (iI e)), (3, .int (iI i)), (4, .int (iI j))]) (st' := [.int (iI w), .int (iI m), .int (iI i), .ref 511, .long (X_st (-2) su)]) rfl ?_
            refine T_p xr_33_122 xn_33 (pc' := 124) (ls' := [(10, .long (X_st (-2) (X_Ew G (X_T_ G) w (e + 1) m j))), (9, .int (iI m)), (7, .long (X_st (-2) su)), (6, .int (iI ((gD G w 8) e))), (0, .ref 511), (1, .int (iI w)), (2, .int (iI e)), (3, .int (iI i)), (4, .int (iI j))]) (st' := [.int (iI ((gD G w 8) e)), .int (iI w), .int (iI m), .int (iI i), .ref 511, .long (X_st (-2) su)]) rfl ?_
            refine T_cv (S := S) (q := 511) xr_33_124 xf_23.1 xf_23.2.1 xn_23 (as := [.int (iI i), .int (iI m), .int (iI w), .int (iI ((gD G w 8) e))]) (r := [.long (X_st (-2) su)]) rfl hO511 (Nat.le_of_ble_eq_true rfl) (Nat.le_of_ble_eq_true rfl) (pc' := 127) rfl (ls' := [(0, .ref 511), (1, .int (iI i)), (2, .int (iI m)), (3, .int (iI w)), (4, .int (iI ((gD G w 8) e)))]) rfl ?_
            refine T_p xr_23_0 xn_23 (pc' := 1) (ls' := [(0, .ref 511), (1, .int (iI i)), (2, .int (iI m)), (3, .int (iI w)), (4, .int (iI ((gD G w 8) e)))]) (st' := [.ref 511]) rfl ?_
            refine T_get xr_23_1 hO511 rfl (v := .ref 515) rfl (pc' := 4) rfl ?_
            refine T_p xr_23_4 xn_23 (pc' := 5) (ls' := [(0, .ref 511), (1, .int (iI i)), (2, .int (iI m)), (3, .int (iI w)), (4, .int (iI ((gD G w 8) e)))]) (st' := [.int (iI i), .ref 515]) rfl ?_
            refine T_p xr_23_5 xn_23 (pc' := 6) (ls' := [(0, .ref 511), (1, .int (iI i)), (2, .int (iI m)), (3, .int (iI w)), (4, .int (iI ((gD G w 8) e)))]) (st' := [.int (iI m), .int (iI i), .ref 515]) rfl ?_
            refine T_cs xr_23_6 (by decide) xf_20.1 xn_20 (as := [.int (iI i), .int (iI m)]) (r := [.ref 515]) rfl (Nat.le_of_ble_eq_true rfl) (Nat.le_of_ble_eq_true rfl) (pc' := 9) rfl (ls' := [(0, .int (iI i)), (1, .int (iI m))]) rfl ?_
            refine T_mono (c_rowOf sc S i m (by omega)) (fun v551 S552 h553 => ?_)
            rcases h553 with ⟨hv554, hf555⟩
            rw [hv554]
            rw [hf555]
            have hr556 := X_ro_r (i := i) (j := m) (by omega) (by omega) (by omega)
            show X_T sc 23 (9, [(0, .ref 511), (1, .int (iI i)), (2, .int (iI m)), (3, .int (iI w)), (4, .int (iI ((gD G w 8) e)))], [.int (iI (X_ro i m)), .ref 515], S) _
            refine T_p xr_23_9 xn_23 (pc' := 11) (ls' := [(0, .ref 511), (1, .int (iI i)), (2, .int (iI m)), (3, .int (iI w)), (4, .int (iI ((gD G w 8) e)))]) (st' := [.int (iI 30), .int (iI (X_ro i m)), .ref 515]) rfl ?_
            refine T_zimul xr_23_11 (z := (X_ro i m) * 30) rfl (pc' := 12) rfl ?_
            refine T_p xr_23_12 xn_23 (pc' := 13) (ls' := [(0, .ref 511), (1, .int (iI i)), (2, .int (iI m)), (3, .int (iI w)), (4, .int (iI ((gD G w 8) e)))]) (st' := [.int (iI w), .int (iI ((X_ro i m) * 30)), .ref 515]) rfl ?_
            refine T_ziadd xr_23_13 (z := ((X_ro i m) * 30) + w) rfl (pc' := 14) rfl ?_
            refine T_p xr_23_14 xn_23 (pc' := 15) (ls' := [(0, .ref 511), (1, .int (iI i)), (2, .int (iI m)), (3, .int (iI w)), (4, .int (iI ((gD G w 8) e)))]) (st' := [.int (iI 4), .int (iI (((X_ro i m) * 30) + w)), .ref 515]) rfl ?_
            refine T_zimul xr_23_15 (z := (((X_ro i m) * 30) + w) * 4) rfl (pc' := 16) rfl ?_
            refine T_p xr_23_16 xn_23 (pc' := 18) (ls' := [(0, .ref 511), (1, .int (iI i)), (2, .int (iI m)), (3, .int (iI w)), (4, .int (iI ((gD G w 8) e)))]) (st' := [.int (iI ((gD G w 8) e)), .int (iI ((((X_ro i m) * 30) + w) * 4)), .ref 515]) rfl ?_
            refine T_ziadd xr_23_18 (z := ((((X_ro i m) * 30) + w) * 4) + ((gD G w 8) e)) rfl (pc' := 19) rfl ?_
            refine T_zlald xr_23_19 hA515 (pc' := 20) rfl ?_
            refine T_le (y := (X_st (-2) (X_Hw G (X_T_ G) w e i m))) (hH hq0 m (by omega) (by omega) (fun z => absurd ((X_st_z (m := -2) (by omega)).mpr z) (by assumption))) ?_
            refine T_lret xr_23_20 xf_23.2.2 rfl ?_
            show X_T sc 33 (127, [(10, .long (X_st (-2) (X_Ew G (X_T_ G) w (e + 1) m j))), (9, .int (iI m)), (7, .long (X_st (-2) su)), (6, .int (iI ((gD G w 8) e))), (0, .ref 511), (1, .int (iI w)), (2, .int (iI e)), (3, .int (iI i)), (4, .int (iI j))], [.long (X_st (-2) (X_Hw G (X_T_ G) w e i m)), .long (X_st (-2) su)], S) _
            refine T_p xr_33_127 xn_33 (pc' := 129) (ls' := [(10, .long (X_st (-2) (X_Ew G (X_T_ G) w (e + 1) m j))), (9, .int (iI m)), (7, .long (X_st (-2) su)), (6, .int (iI ((gD G w 8) e))), (0, .ref 511), (1, .int (iI w)), (2, .int (iI e)), (3, .int (iI i)), (4, .int (iI j))]) (st' := [.long (X_st (-2) (X_Ew G (X_T_ G) w (e + 1) m j)), .long (X_st (-2) (X_Hw G (X_T_ G) w e i m)), .long (X_st (-2) su)]) rfl ?_
            refine T_cs xr_33_129 (by decide) xf_116.1 xn_116 (as := [.long (X_st (-2) (X_Hw G (X_T_ G) w e i m)), .long (X_st (-2) (X_Ew G (X_T_ G) w (e + 1) m j))]) (r := [.long (X_st (-2) su)]) rfl (Nat.le_of_ble_eq_true rfl) (Nat.le_of_ble_eq_true rfl) (pc' := 132) rfl (ls' := [(0, .long (X_st (-2) (X_Hw G (X_T_ G) w e i m))), (2, .long (X_st (-2) (X_Ew G (X_T_ G) w (e + 1) m j)))]) rfl ?_
            refine T_mono (c_times sc S (X_Hw G (X_T_ G) w e i m) (X_Ew G (X_T_ G) w (e + 1) m j)) (fun v557 S558 h559 => ?_)
            rcases h559 with ⟨hv560, hf561⟩
            rw [hv560]
            rw [hf561]
            show X_T sc 33 (132, [(10, .long (X_st (-2) (X_Ew G (X_T_ G) w (e + 1) m j))), (9, .int (iI m)), (7, .long (X_st (-2) su)), (6, .int (iI ((gD G w 8) e))), (0, .ref 511), (1, .int (iI w)), (2, .int (iI e)), (3, .int (iI i)), (4, .int (iI j))], [.long (X_st (-2) ((X_Hw G (X_T_ G) w e i m) * (X_Ew G (X_T_ G) w (e + 1) m j))), .long (X_st (-2) su)], S) _
            refine T_cs xr_33_132 (by decide) xf_115.1 xn_115 (as := [.long (X_st (-2) su), .long (X_st (-2) ((X_Hw G (X_T_ G) w e i m) * (X_Ew G (X_T_ G) w (e + 1) m j)))]) (r := []) rfl (Nat.le_of_ble_eq_true rfl) (Nat.le_of_ble_eq_true rfl) (pc' := 135) rfl (ls' := [(0, .long (X_st (-2) su)), (2, .long (X_st (-2) ((X_Hw G (X_T_ G) w e i m) * (X_Ew G (X_T_ G) w (e + 1) m j))))]) rfl ?_
            refine T_mono (c_plus sc S su ((X_Hw G (X_T_ G) w e i m) * (X_Ew G (X_T_ G) w (e + 1) m j))) (fun v562 S563 h564 => ?_)
            rcases h564 with ⟨hv565, hf566⟩
            rw [hv565]
            rw [hf566]
            show X_T sc 33 (135, [(10, .long (X_st (-2) (X_Ew G (X_T_ G) w (e + 1) m j))), (9, .int (iI m)), (7, .long (X_st (-2) su)), (6, .int (iI ((gD G w 8) e))), (0, .ref 511), (1, .int (iI w)), (2, .int (iI e)), (3, .int (iI i)), (4, .int (iI j))], [.long (X_st (-2) (su + ((X_Hw G (X_T_ G) w e i m) * (X_Ew G (X_T_ G) w (e + 1) m j))))], S) _
            refine T_p xr_33_135 xn_33 (pc' := 137) (ls' := [(7, .long (X_st (-2) (su + ((X_Hw G (X_T_ G) w e i m) * (X_Ew G (X_T_ G) w (e + 1) m j))))), (10, .long (X_st (-2) (X_Ew G (X_T_ G) w (e + 1) m j))), (9, .int (iI m)), (6, .int (iI ((gD G w 8) e))), (0, .ref 511), (1, .int (iI w)), (2, .int (iI e)), (3, .int (iI i)), (4, .int (iI j))]) (st' := []) rfl ?_
            refine T_ziinc xr_33_137 xn_33 (a := m) (z := m + 1) rfl (Nat.le_of_ble_eq_true rfl) (by omega) (ls' := [(9, .int (iI (m + 1))), (7, .long (X_st (-2) (su + ((X_Hw G (X_T_ G) w e i m) * (X_Ew G (X_T_ G) w (e + 1) m j))))), (10, .long (X_st (-2) (X_Ew G (X_T_ G) w (e + 1) m j))), (6, .int (iI ((gD G w 8) e))), (0, .ref 511), (1, .int (iI w)), (2, .int (iI e)), (3, .int (iI i)), (4, .int (iI j))]) rfl (pc' := 140) rfl ?_
            refine T_p xr_33_140 xn_33 (pc' := 87) (ls' := [(9, .int (iI (m + 1))), (7, .long (X_st (-2) (su + ((X_Hw G (X_T_ G) w e i m) * (X_Ew G (X_T_ G) w (e + 1) m j))))), (10, .long (X_st (-2) (X_Ew G (X_T_ G) w (e + 1) m j))), (6, .int (iI ((gD G w 8) e))), (0, .ref 511), (1, .int (iI w)), (2, .int (iI e)), (3, .int (iI i)), (4, .int (iI j))]) (st' := []) rfl ?_
            refine T_sub (ls := [(9, .int (iI (m + 1))), (7, .long (X_st (-2) (su + ((X_Hw G (X_T_ G) w e i m) * (X_Ew G (X_T_ G) w (e + 1) m j))))), (6, .int (iI ((gD G w 8) e))), (0, .ref 511), (1, .int (iI w)), (2, .int (iI e)), (3, .int (iI i)), (4, .int (iI j))]) ⟨rfl, rfl, rfl, rfl, rfl, rfl, rfl, rfl, trivial⟩ rfl rfl ?_
            exact ih540 (m + 1) (su + ((X_Hw G (X_T_ G) w e i m) * (X_Ew G (X_T_ G) w (e + 1) m j)))  (by omega) (by rw [X_Su_s (by omega), ← hsu]) (by omega)
    refine T_sub (ls := [(9, .int (iI (i + 1))), (7, .long (iL 0)), (6, .int (iI (((gD G) w 8) e))), (0, .ref 511), (1, .int (iI w)), (2, .int (iI e)), (3, .int (iI i)), (4, .int (iI j))]) ⟨rfl, rfl, rfl, rfl, rfl, rfl, rfl, rfl, trivial⟩ rfl rfl ?_
    exact L539 ((j + 1) + 1).toNat (i + 1) 0  (by omega) (X_Su_e (Int.le_refl _)).symm (by omega)
  · skip
    have c538 : ¬ (X_hl ((gD G) w) ((gW G) w) e) := c538
    have J567 : X_T sc 33 (45, [(5, .ref aw), (0, .ref 511), (1, .int (iI w)), (2, .int (iI e)), (3, .int (iI i)), (4, .int (iI j))], [.int (iI (bI (gW G w e = gt G i)))], S) Q := by
      refine T_p xr_33_45 xn_33 (pc' := 47) (ls' := [(6, .int (iI (bI (gW G w e = gt G i)))), (5, .ref aw), (0, .ref 511), (1, .int (iI w)), (2, .int (iI e)), (3, .int (iI i)), (4, .int (iI j))]) (st' := []) rfl ?_
      refine T_p xr_33_47 xn_33 (pc' := 49) (ls' := [(6, .int (iI (bI (gW G w e = gt G i)))), (5, .ref aw), (0, .ref 511), (1, .int (iI w)), (2, .int (iI e)), (3, .int (iI i)), (4, .int (iI j))]) (st' := [.int (iI (bI (gW G w e = gt G i)))]) rfl ?_
      refine T_bif_eq xr_33_49 (t := 68) (pc' := 52) rfl rfl (fun c568 => ?_) (fun c568 => ?_)
      · skip
        have c568 : ¬ (gW G w e = gt G i) := c568
        refine T_p xr_33_68 xn_33 (pc' := 69) (ls' := [(6, .int (iI (bI (gW G w e = gt G i)))), (5, .ref aw), (0, .ref 511), (1, .int (iI w)), (2, .int (iI e)), (3, .int (iI i)), (4, .int (iI j))]) (st' := [.long (iL 0)]) rfl ?_
        refine T_lret xr_33_69 xf_33.2.2 rfl ?_
        refine hQ _ _ ?_
        exact ⟨by rw [X_Ew_p he.2 (fun z => absurd (show X_hl (gD G w) (gW G w) e from ⟨he.1, he.2, z⟩) (by assumption)), X_if_f (fun z => absurd z.2.symm (by assumption))]; rfl, rfl⟩
      · skip
        have c568 : (gW G w e = gt G i) := c568
        refine T_p xr_33_52 xn_33 (pc' := 53) (ls' := [(6, .int (iI (bI (gW G w e = gt G i)))), (5, .ref aw), (0, .ref 511), (1, .int (iI w)), (2, .int (iI e)), (3, .int (iI i)), (4, .int (iI j))]) (st' := [.ref 511]) rfl ?_
        refine T_p xr_33_53 xn_33 (pc' := 54) (ls' := [(6, .int (iI (bI (gW G w e = gt G i)))), (5, .ref aw), (0, .ref 511), (1, .int (iI w)), (2, .int (iI e)), (3, .int (iI i)), (4, .int (iI j))]) (st' := [.int (iI w), .ref 511]) rfl ?_
        refine T_p xr_33_54 xn_33 (pc' := 55) (ls' := [(6, .int (iI (bI (gW G w e = gt G i)))), (5, .ref aw), (0, .ref 511), (1, .int (iI w)), (2, .int (iI e)), (3, .int (iI i)), (4, .int (iI j))]) (st' := [.int (iI e), .int (iI w), .ref 511]) rfl ?_
        refine T_p xr_33_55 xn_33 (pc' := 56) (ls' := [(6, .int (iI (bI (gW G w e = gt G i)))), (5, .ref aw), (0, .ref 511), (1, .int (iI w)), (2, .int (iI e)), (3, .int (iI i)), (4, .int (iI j))]) (st' := [.int (iI 1), .int (iI e), .int (iI w), .ref 511]) rfl ?_
        refine T_ziadd xr_33_56 (z := e + 1) rfl (pc' := 57) rfl ?_
        refine T_p xr_33_57 xn_33 (pc' := 58) (ls' := [(6, .int (iI (bI (gW G w e = gt G i)))), (5, .ref aw), (0, .ref 511), (1, .int (iI w)), (2, .int (iI e)), (3, .int (iI i)), (4, .int (iI j))]) (st' := [.int (iI i), .int (iI (e + 1)), .int (iI w), .ref 511]) rfl ?_
        refine T_p xr_33_58 xn_33 (pc' := 59) (ls' := [(6, .int (iI (bI (gW G w e = gt G i)))), (5, .ref aw), (0, .ref 511), (1, .int (iI w)), (2, .int (iI e)), (3, .int (iI i)), (4, .int (iI j))]) (st' := [.int (iI 1), .int (iI i), .int (iI (e + 1)), .int (iI w), .ref 511]) rfl ?_
        refine T_ziadd xr_33_59 (z := i + 1) rfl (pc' := 60) rfl ?_
        refine T_p xr_33_60 xn_33 (pc' := 62) (ls' := [(6, .int (iI (bI (gW G w e = gt G i)))), (5, .ref aw), (0, .ref 511), (1, .int (iI w)), (2, .int (iI e)), (3, .int (iI i)), (4, .int (iI j))]) (st' := [.int (iI j), .int (iI (i + 1)), .int (iI (e + 1)), .int (iI w), .ref 511]) rfl ?_
        refine T_cv (S := S) (q := 511) xr_33_62 xf_34.1 xf_34.2.1 xn_34 (as := [.int (iI w), .int (iI (e + 1)), .int (iI (i + 1)), .int (iI j)]) (r := []) rfl hO511 (Nat.le_of_ble_eq_true rfl) (Nat.le_of_ble_eq_true rfl) (pc' := 65) rfl (ls' := [(0, .ref 511), (1, .int (iI w)), (2, .int (iI (e + 1))), (3, .int (iI (i + 1))), (4, .int (iI j))]) rfl ?_
        refine T_mono (c_tail sc S tl B rc rn kn G tn fl w (e + 1) (i + 1) j hO511 hA516 hB ⟨hb0, hb1, hb2, hb3, hb4, ⟨f, hb5, hf⟩, ⟨by omega, by omega⟩, ⟨by omega, by omega⟩, ⟨by omega, by omega⟩⟩ hs hG (by omega) (by omega) (by omega) (fun z1 z2 => ht _ (by omega) z1 _ (by omega) z2)) (fun v569 S570 h571 => ?_)
        rcases h571 with ⟨hv572, hf573⟩
        rw [hv572]
        rw [hf573]
        show X_T sc 33 (65, [(6, .int (iI (bI (gW G w e = gt G i)))), (5, .ref aw), (0, .ref 511), (1, .int (iI w)), (2, .int (iI e)), (3, .int (iI i)), (4, .int (iI j))], [.long (X_st (-2) (X_Ew G (X_T_ G) w (e + 1) (i + 1) j))], S) _
        refine T_p xr_33_65 xn_33 (pc' := 69) (ls' := [(6, .int (iI (bI (gW G w e = gt G i)))), (5, .ref aw), (0, .ref 511), (1, .int (iI w)), (2, .int (iI e)), (3, .int (iI i)), (4, .int (iI j))]) (st' := [.long (X_st (-2) (X_Ew G (X_T_ G) w (e + 1) (i + 1) j))]) rfl ?_
        refine T_lret xr_33_69 xf_33.2.2 rfl ?_
        refine hQ _ _ ?_
        exact ⟨by rw [X_Ew_p he.2 (fun z => absurd (show X_hl (gD G w) (gW G w) e from ⟨he.1, he.2, z⟩) (by assumption)), X_if_t ⟨hij.2.1, Eq.symm (by assumption)⟩], rfl⟩
    refine T_p xr_33_20 xn_33 (pc' := 22) (ls' := [(5, .ref aw), (0, .ref 511), (1, .int (iI w)), (2, .int (iI e)), (3, .int (iI i)), (4, .int (iI j))]) (st' := [.ref aw]) rfl ?_
    refine T_get xr_33_22 hwaw.1.1 rfl (v := .ref (aw + 1)) rfl (pc' := 25) rfl ?_
    refine T_p xr_33_25 xn_33 (pc' := 26) (ls' := [(5, .ref aw), (0, .ref 511), (1, .int (iI w)), (2, .int (iI e)), (3, .int (iI i)), (4, .int (iI j))]) (st' := [.int (iI e), .ref (aw + 1)]) rfl ?_
    refine T_zlald xr_33_26 hwaw.1.2.1 (pc' := 27) rfl ?_
    refine T_p xr_33_27 xn_33 (pc' := 28) (ls' := [(5, .ref aw), (0, .ref 511), (1, .int (iI w)), (2, .int (iI e)), (3, .int (iI i)), (4, .int (iI j))]) (st' := [.ref 511, .long ((gW G) w e)]) rfl ?_
    refine T_get xr_33_28 hO511 rfl (v := .ref 501) rfl (pc' := 31) rfl ?_
    refine T_get xr_33_31 hO501 rfl (v := .ref 502) rfl (pc' := 34) rfl ?_
    refine T_p xr_33_34 xn_33 (pc' := 35) (ls' := [(5, .ref aw), (0, .ref 511), (1, .int (iI w)), (2, .int (iI e)), (3, .int (iI i)), (4, .int (iI j))]) (st' := [.int (iI i), .ref 502, .long ((gW G) w e)]) rfl ?_
    refine T_zlald xr_33_35 hA502 (pc' := 36) rfl ?_
    refine T_lc_ne xr_33_36 xr_33_37 (t := 44) (pc' := 40) rfl rfl (fun c574 => ?_) (fun c574 => ?_)
    · skip
      have c574 : ¬ ((gW G) w e) = ((gt G) i) := c574
      refine T_p xr_33_44 xn_33 (pc' := 45) (ls' := [(5, .ref aw), (0, .ref 511), (1, .int (iI w)), (2, .int (iI e)), (3, .int (iI i)), (4, .int (iI j))]) (st' := [.int (iI 0)]) rfl ?_
      refine T_ie (y := iI (bI (gW G w e = gt G i))) (by rw [bI_f (by assumption)]) ?_
      exact J567
    · skip
      have c574 : ¬ (¬ ((gW G) w e) = ((gt G) i)) := c574
      refine T_p xr_33_40 xn_33 (pc' := 41) (ls' := [(5, .ref aw), (0, .ref 511), (1, .int (iI w)), (2, .int (iI e)), (3, .int (iI i)), (4, .int (iI j))]) (st' := [.int (iI 1)]) rfl ?_
      refine T_p xr_33_41 xn_33 (pc' := 45) (ls' := [(5, .ref aw), (0, .ref 511), (1, .int (iI w)), (2, .int (iI e)), (3, .int (iI i)), (4, .int (iI j))]) (st' := [.int (iI 1)]) rfl ?_
      refine T_ie (y := iI (bI (gW G w e = gt G i))) (by rw [bI_t (by first | assumption | exact Classical.not_not.mp (by assumption))]) ?_
      exact J567
theorem c_fillTails (sc : X_Sc) (S : X_S) (oH : Int → Int64) (tl : Int → Int64) (B : Nat) (rc : Int) (rn : Int → Int64) (kn : Int → Int64) (G : X_G) (tn : Int) (fl : Int) (w : Int) (p : Int) (j : Int) (hO501 : S.1 501 = .inr (6, [.int (iI tn), .ref 502, .ref 503])) (hO511 : S.1 511 = .inr (1, [.ref B, .ref 501, .int (iI fl), .ref 512, .ref 513, .ref 514, .ref 515, .ref 516])) (hA515 : S.1 515 = .inl (.long, 55800, .inr (.inl fun k : Nat => oH (k : Int)))) (hA516 : S.1 516 = .inl (.long, 7200, .inr (.inl fun k : Nat => tl (k : Int)))) (hB : B = 4 ∨ B = 250) (hb : C_bk S B rc (gk G) (gw G) rn (gl G) kn (ga G)) (hs : C_ws S B (gD G) (gW G)) (hG : X_Gok G) (hA502 : S.1 502 = .inl (.long, 30, .inr (.inl fun k : Nat => (gt G) (k : Int)))) (hw : 0 ≤ w ∧ w < gw G) (hpj : 0 ≤ p ∧ p < j ∧ j ≤ tn ∧ tn ≤ 30) (ht : ∀ q, p < q → q < j → X_tl G (-2) w q j tl) (hH : ∀ e, 0 ≤ e → e < gD G w 3 0 → gW G w e = 0 → ∀ m, p < m → m ≤ j → oH ((X_ro p m * 30 + w) * 4 + gD G w 8 e) = X_st (-2) (X_Hw G (X_T_ G) w e p m)) : X_T sc 31 (0, [(0, .ref 511), (1, .int (iI w)), (2, .int (iI p)), (3, .int (iI j))], [], S) (fun v S' => ∃ (tl1 : Int → Int64), v = none ∧ X_tl G (-2) w p j tl1 ∧ (∀ k, (∀ e, 1 ≤ e → e < gD G w 3 0 → ¬ k = (w * 8 + e) * 30 + p) → tl1 k = tl k) ∧ S'.1 516 = .inl (.long, 7200, .inr (.inl fun k : Nat => tl1 (k : Int))) ∧ X_Fr (fun q => q = 516) S S') := by
  obtain ⟨hb0, hb1, hb2, hb3, hb4, ⟨f, hb5, hf⟩, ⟨hrc, hrcb⟩, ⟨hkc, hkcb⟩, ⟨hwc, hwcb⟩⟩ := id hb
  have hgw := hG.2.2.2 w hw.1 hw.2
  have hsz := hgw.1
  refine X_QI (fun Q hQ => ?_)
  refine T_p xr_31_0 xn_31 (pc' := 1) (ls' := [(0, .ref 511), (1, .int (iI w)), (2, .int (iI p)), (3, .int (iI j))]) (st' := [.int (iI 1)]) rfl ?_
  refine T_p xr_31_1 xn_31 (pc' := 3) (ls' := [(4, .int (iI 1)), (0, .ref 511), (1, .int (iI w)), (2, .int (iI p)), (3, .int (iI j))]) (st' := []) rfl ?_
  have L575 : ∀ (m577 : Nat) (S580 : X_S) (el : Int) (tl1 : Int → Int64) (htl1 : S580.1 516 = .inl (.long, 7200, .inr (.inl fun k : Nat => tl1 (k : Int)))) (hF579 : X_Fr (fun q => q = 516) S S580) (hel : 1 ≤ el ∧ el ≤ gD G w 3 0) (hI : ∀ e, 1 ≤ e → e < el → tl1 ((w * 8 + e) * 30 + p) = X_st (-2) (X_Ew G (X_T_ G) w e p j)) (hOt : ∀ k, (∀ e, 1 ≤ e → e < gD G w 3 0 → ¬ k = (w * 8 + e) * 30 + p) → tl1 k = tl k) (hm578 : gD G w 3 0 - el < m577), X_T sc 31 (3, [(4, .int (iI el)), (0, .ref 511), (1, .int (iI w)), (2, .int (iI p)), (3, .int (iI j))], [], S580) Q := by
    intro m577
    induction m577 with
    | zero =>
      intro S580 el tl1 htl1 hF579 hel hI hOt hm578
      exact (show False by omega).elim
    | succ m577 ih576 =>
      intro S580 el tl1 htl1 hF579 hel hI hOt hm578
      refine T_p xr_31_3 xn_31 (pc' := 5) (ls' := [(4, .int (iI el)), (0, .ref 511), (1, .int (iI w)), (2, .int (iI p)), (3, .int (iI j))]) (st' := [.int (iI el)]) rfl ?_
      refine T_p xr_31_5 xn_31 (pc' := 6) (ls' := [(4, .int (iI el)), (0, .ref 511), (1, .int (iI w)), (2, .int (iI p)), (3, .int (iI j))]) (st' := [.ref 511, .int (iI el)]) rfl ?_
      have h581 := (hF579.1 511 (by omega)).trans (hO511)
      refine T_get xr_31_6 h581 rfl (v := .ref B) rfl (pc' := 9) rfl ?_
      have h582 := (hF579.1 B (by omega)).trans (hb0)
      refine T_get xr_31_9 h582 rfl (v := .ref (B + 5)) rfl (pc' := 12) rfl ?_
      refine T_p xr_31_12 xn_31 (pc' := 13) (ls' := [(4, .int (iI el)), (0, .ref 511), (1, .int (iI w)), (2, .int (iI p)), (3, .int (iI j))]) (st' := [.int (iI w), .ref (B + 5), .int (iI el)]) rfl ?_
      have h583 := (hF579.1 (B + 5) (by omega)).trans (hb5)
      have hs584 : C_ws S580 B (gD G) (gW G) := C_ws.fr (P := fun q => 501 ≤ q ∧ q ≤ 529) hs ((X_Fr.rf).tr (X_Fr.mono ⟨hF579.1, hF579.2⟩ (fun q hq => (by omega)))) (fun k h1 h2 => by omega)
      have hw585 := hs584 w (by omega) (by omega)
      obtain ⟨a586, ha587⟩ : ∃ z : Nat, z = B + 6 + 8 * (w : Int).toNat := ⟨_, rfl⟩
      rw [← ha587] at hw585
      obtain ⟨⟨_, _⟩, ⟨_, _⟩, ⟨_, _⟩, ⟨_, _⟩, ⟨_, _⟩, ⟨_, _⟩, ⟨_, _⟩, ⟨_, _⟩⟩ := id hw585.2
      refine T_zaald xr_31_13 h583 (w := a586) (by rw [ha587]; exact hf _ (by omega)) (pc' := 14) rfl ?_
      refine T_get xr_31_14 hw585.1.1 rfl (v := .int (iI ((gD G) w 3 0))) rfl (pc' := 17) rfl ?_
      refine T_zicmp_ge xr_31_17 (t := 47) (pc' := 20) rfl rfl (fun c588 => ?_) (fun c588 => ?_)
      · skip
        have c588 : ((gD G) w 3 0) ≤ el := c588
        refine T_vret xr_31_47 xf_31.2.2 ?_
        refine hQ _ _ ?_
        exact ⟨tl1, rfl, (fun e g1 g2 => hI e g1 (by omega)), hOt, htl1, (X_Fr.rf).tr (X_Fr.mono ⟨hF579.1, hF579.2⟩ (fun q hq => (by omega)))⟩
      · skip
        have c588 : ¬ (((gD G) w 3 0) ≤ el) := c588
        refine T_p xr_31_20 xn_31 (pc' := 21) (ls' := [(4, .int (iI el)), (0, .ref 511), (1, .int (iI w)), (2, .int (iI p)), (3, .int (iI j))]) (st' := [.ref 511]) rfl ?_
        refine T_get xr_31_21 h581 rfl (v := .ref 516) rfl (pc' := 24) rfl ?_
        refine T_p xr_31_24 xn_31 (pc' := 25) (ls' := [(4, .int (iI el)), (0, .ref 511), (1, .int (iI w)), (2, .int (iI p)), (3, .int (iI j))]) (st' := [.int (iI w), .ref 516]) rfl ?_
        refine T_p xr_31_25 xn_31 (pc' := 27) (ls' := [(4, .int (iI el)), (0, .ref 511), (1, .int (iI w)), (2, .int (iI p)), (3, .int (iI j))]) (st' := [.int (iI el), .int (iI w), .ref 516]) rfl ?_
        refine T_p xr_31_27 xn_31 (pc' := 28) (ls' := [(4, .int (iI el)), (0, .ref 511), (1, .int (iI w)), (2, .int (iI p)), (3, .int (iI j))]) (st' := [.int (iI p), .int (iI el), .int (iI w), .ref 516]) rfl ?_
        refine T_cs xr_31_28 (by decide) xf_21.1 xn_21 (as := [.int (iI w), .int (iI el), .int (iI p)]) (r := [.ref 516]) rfl (Nat.le_of_ble_eq_true rfl) (Nat.le_of_ble_eq_true rfl) (pc' := 31) rfl (ls' := [(0, .int (iI w)), (1, .int (iI el)), (2, .int (iI p))]) rfl ?_
        refine T_p xr_21_0 xn_21 (pc' := 1) (ls' := [(0, .int (iI w)), (1, .int (iI el)), (2, .int (iI p))]) (st' := [.int (iI w)]) rfl ?_
        refine T_p xr_21_1 xn_21 (pc' := 3) (ls' := [(0, .int (iI w)), (1, .int (iI el)), (2, .int (iI p))]) (st' := [.int (iI 8), .int (iI w)]) rfl ?_
        refine T_zimul xr_21_3 (z := w * 8) rfl (pc' := 4) rfl ?_
        refine T_p xr_21_4 xn_21 (pc' := 5) (ls' := [(0, .int (iI w)), (1, .int (iI el)), (2, .int (iI p))]) (st' := [.int (iI el), .int (iI (w * 8))]) rfl ?_
        refine T_ziadd xr_21_5 (z := (w * 8) + el) rfl (pc' := 6) rfl ?_
        refine T_p xr_21_6 xn_21 (pc' := 8) (ls' := [(0, .int (iI w)), (1, .int (iI el)), (2, .int (iI p))]) (st' := [.int (iI 30), .int (iI ((w * 8) + el))]) rfl ?_
        refine T_zimul xr_21_8 (z := ((w * 8) + el) * 30) rfl (pc' := 9) rfl ?_
        refine T_p xr_21_9 xn_21 (pc' := 10) (ls' := [(0, .int (iI w)), (1, .int (iI el)), (2, .int (iI p))]) (st' := [.int (iI p), .int (iI (((w * 8) + el) * 30))]) rfl ?_
        refine T_ziadd xr_21_10 (z := (((w * 8) + el) * 30) + p) rfl (pc' := 11) rfl ?_
        refine T_iret xr_21_11 xf_21.2.2 rfl ?_
        show X_T sc 31 (31, [(4, .int (iI el)), (0, .ref 511), (1, .int (iI w)), (2, .int (iI p)), (3, .int (iI j))], [.int (iI ((((w * 8) + el) * 30) + p)), .ref 516], S580) _
        refine T_p xr_31_31 xn_31 (pc' := 32) (ls' := [(4, .int (iI el)), (0, .ref 511), (1, .int (iI w)), (2, .int (iI p)), (3, .int (iI j))]) (st' := [.ref 511, .int (iI ((((w * 8) + el) * 30) + p)), .ref 516]) rfl ?_
        refine T_p xr_31_32 xn_31 (pc' := 33) (ls' := [(4, .int (iI el)), (0, .ref 511), (1, .int (iI w)), (2, .int (iI p)), (3, .int (iI j))]) (st' := [.int (iI w), .ref 511, .int (iI ((((w * 8) + el) * 30) + p)), .ref 516]) rfl ?_
        refine T_p xr_31_33 xn_31 (pc' := 35) (ls' := [(4, .int (iI el)), (0, .ref 511), (1, .int (iI w)), (2, .int (iI p)), (3, .int (iI j))]) (st' := [.int (iI el), .int (iI w), .ref 511, .int (iI ((((w * 8) + el) * 30) + p)), .ref 516]) rfl ?_
        refine T_p xr_31_35 xn_31 (pc' := 36) (ls' := [(4, .int (iI el)), (0, .ref 511), (1, .int (iI w)), (2, .int (iI p)), (3, .int (iI j))]) (st' := [.int (iI p), .int (iI el), .int (iI w), .ref 511, .int (iI ((((w * 8) + el) * 30) + p)), .ref 516]) rfl ?_
        refine T_p xr_31_36 xn_31 (pc' := 37) (ls' := [(4, .int (iI el)), (0, .ref 511), (1, .int (iI w)), (2, .int (iI p)), (3, .int (iI j))]) (st' := [.int (iI j), .int (iI p), .int (iI el), .int (iI w), .ref 511, .int (iI ((((w * 8) + el) * 30) + p)), .ref 516]) rfl ?_
        refine T_cv (S := S580) (q := 511) xr_31_37 xf_33.1 xf_33.2.1 xn_33 (as := [.int (iI w), .int (iI el), .int (iI p), .int (iI j)]) (r := [.int (iI ((((w * 8) + el) * 30) + p)), .ref 516]) rfl h581 (Nat.le_of_ble_eq_true rfl) (Nat.le_of_ble_eq_true rfl) (pc' := 40) rfl (ls' := [(0, .ref 511), (1, .int (iI w)), (2, .int (iI el)), (3, .int (iI p)), (4, .int (iI j))]) rfl ?_
        have h589 := (hF579.1 515 (by omega)).trans (hA515)
        have h590 := (hF579.1 501 (by omega)).trans (hO501)
        have h591 := (hF579.1 (B + 1) (by omega)).trans (hb1)
        have h592 := (hF579.1 (B + 2) (by omega)).trans (hb2)
        have h593 := (hF579.1 (B + 3) (by omega)).trans (hb3)
        have h594 := (hF579.1 (B + 4) (by omega)).trans (hb4)
        have h595 := (hF579.1 502 (by omega)).trans (hA502)
        refine T_mono (c_ways sc S580 oH tl1 B rc rn kn G tn fl w el p j h590 h581 h589 htl1 hB ⟨h582, h591, h592, h593, h594, ⟨f, h583, hf⟩, ⟨by omega, by omega⟩, ⟨by omega, by omega⟩, ⟨by omega, by omega⟩⟩ hs584 hG h595 (by omega) (by omega) (by omega) (fun q h1 h2 e g1 g2 => (hOt _ (fun e2 z1 z2 z3 => by omega)).trans (ht q h1 h2 e g1 g2)) (fun z m h1 h2 _ => hH _ (by omega) (by omega) z m h1 h2)) (fun v596 S597 h598 => ?_)
        rcases h598 with ⟨hv599, hf600⟩
        rw [hv599]
        rw [hf600]
        show X_T sc 31 (40, [(4, .int (iI el)), (0, .ref 511), (1, .int (iI w)), (2, .int (iI p)), (3, .int (iI j))], [.long (X_st (-2) (X_Ew G (X_T_ G) w el p j)), .int (iI ((((w * 8) + el) * 30) + p)), .ref 516], S580) _
        refine T_zlast xr_31_40 htl1 (pc' := 41) rfl (fun S601 h602 n603 e604 => ?_)
        refine T_ziinc xr_31_41 xn_31 (a := el) (z := el + 1) rfl (Nat.le_of_ble_eq_true rfl) (by omega) (ls' := [(4, .int (iI (el + 1))), (0, .ref 511), (1, .int (iI w)), (2, .int (iI p)), (3, .int (iI j))]) rfl (pc' := 44) rfl ?_
        refine T_p xr_31_44 xn_31 (pc' := 3) (ls' := [(4, .int (iI (el + 1))), (0, .ref 511), (1, .int (iI w)), (2, .int (iI p)), (3, .int (iI j))]) (st' := []) rfl ?_
        exact ih576 S601 (el + 1) (X_ug tl1 ((((w * 8) + el) * 30) + p) (X_st (-2) (X_Ew G (X_T_ G) w el p j))) h602 (hF579.tr ((X_Fr.rf).tr (X_Fr.of n603 e604 (by omega)))) (by omega) (fun e g1 g2 => by
              by_cases he : e = el
              · subst he; rw [X_ug_s]
              · rw [X_ug_n _ _ (by omega)]; exact hI e g1 (by omega)) (fun k hk => by rw [X_ug_n _ _ (hk el (by omega) (by omega))]; exact hOt k hk) (by omega)
  exact L575 ((gD G w 3 0) + 1).toNat S 1 tl hA516 ((X_Fr.rf)) (by omega) (fun e g1 g2 => absurd g2 (by omega)) (fun _ _ => rfl) (by omega)
theorem c_prepareTails (sc : X_Sc) (S : X_S) (oH : Int → Int64) (tl : Int → Int64) (B : Nat) (rc : Int) (rn : Int → Int64) (kn : Int → Int64) (G : X_G) (tn : Int) (fl : Int) (w : Int) (i : Int) (j : Int) (hO501 : S.1 501 = .inr (6, [.int (iI tn), .ref 502, .ref 503])) (hO511 : S.1 511 = .inr (1, [.ref B, .ref 501, .int (iI fl), .ref 512, .ref 513, .ref 514, .ref 515, .ref 516])) (hA515 : S.1 515 = .inl (.long, 55800, .inr (.inl fun k : Nat => oH (k : Int)))) (hA516 : S.1 516 = .inl (.long, 7200, .inr (.inl fun k : Nat => tl (k : Int)))) (hB : B = 4 ∨ B = 250) (hb : C_bk S B rc (gk G) (gw G) rn (gl G) kn (ga G)) (hs : C_ws S B (gD G) (gW G)) (hG : X_Gok G) (hA502 : S.1 502 = .inl (.long, 30, .inr (.inl fun k : Nat => (gt G) (k : Int)))) (hw : 0 ≤ w ∧ w < gw G) (hij : 0 ≤ i ∧ i < j ∧ j ≤ tn ∧ tn ≤ 30) (hH : ∀ p, i < p → p < j → ∀ e, 0 ≤ e → e < gD G w 3 0 → gW G w e = 0 → ∀ m, p < m → m ≤ j → oH ((X_ro p m * 30 + w) * 4 + gD G w 8 e) = X_st (-2) (X_Hw G (X_T_ G) w e p m)) : X_T sc 32 (0, [(0, .ref 511), (1, .int (iI w)), (2, .int (iI i)), (3, .int (iI j))], [], S) (fun v S' => ∃ (tl1 : Int → Int64), v = none ∧ (∀ p, i < p → p < j → X_tl G (-2) w p j tl1) ∧ S'.1 516 = .inl (.long, 7200, .inr (.inl fun k : Nat => tl1 (k : Int))) ∧ X_Fr (fun q => q = 516) S S') := by
  obtain ⟨hb0, hb1, hb2, hb3, hb4, ⟨f, hb5, hf⟩, ⟨hrc, hrcb⟩, ⟨hkc, hkcb⟩, ⟨hwc, hwcb⟩⟩ := id hb
  have hgw := hG.2.2.2 w hw.1 hw.2
  have hsz := hgw.1
  refine X_QI (fun Q hQ => ?_)
  refine T_p xr_32_0 xn_32 (pc' := 1) (ls' := [(0, .ref 511), (1, .int (iI w)), (2, .int (iI i)), (3, .int (iI j))]) (st' := [.int (iI j)]) rfl ?_
  refine T_p xr_32_1 xn_32 (pc' := 2) (ls' := [(0, .ref 511), (1, .int (iI w)), (2, .int (iI i)), (3, .int (iI j))]) (st' := [.int (iI 1), .int (iI j)]) rfl ?_
  refine T_zisub xr_32_2 (z := j - 1) rfl (pc' := 3) rfl ?_
  refine T_p xr_32_3 xn_32 (pc' := 5) (ls' := [(4, .int (iI (j - 1))), (0, .ref 511), (1, .int (iI w)), (2, .int (iI i)), (3, .int (iI j))]) (st' := []) rfl ?_
  have L605 : ∀ (m607 : Nat) (S610 : X_S) (p : Int) (tl1 : Int → Int64) (htl1 : S610.1 516 = .inl (.long, 7200, .inr (.inl fun k : Nat => tl1 (k : Int)))) (hF609 : X_Fr (fun q => q = 516) S S610) (hp : i ≤ p ∧ p < j) (hD1 : ∀ q, p < q → q < j → X_tl G (-2) w q j tl1) (hm608 : p - i < m607), X_T sc 32 (5, [(4, .int (iI p)), (0, .ref 511), (1, .int (iI w)), (2, .int (iI i)), (3, .int (iI j))], [], S610) Q := by
    intro m607
    induction m607 with
    | zero =>
      intro S610 p tl1 htl1 hF609 hp hD1 hm608
      exact (show False by omega).elim
    | succ m607 ih606 =>
      intro S610 p tl1 htl1 hF609 hp hD1 hm608
      refine T_p xr_32_5 xn_32 (pc' := 7) (ls' := [(4, .int (iI p)), (0, .ref 511), (1, .int (iI w)), (2, .int (iI i)), (3, .int (iI j))]) (st' := [.int (iI p)]) rfl ?_
      refine T_p xr_32_7 xn_32 (pc' := 8) (ls' := [(4, .int (iI p)), (0, .ref 511), (1, .int (iI w)), (2, .int (iI i)), (3, .int (iI j))]) (st' := [.int (iI i), .int (iI p)]) rfl ?_
      refine T_zicmp_le xr_32_8 (t := 66) (pc' := 11) rfl rfl (fun c611 => ?_) (fun c611 => ?_)
      · skip
        have c611 : p ≤ i := c611
        refine T_vret xr_32_66 xf_32.2.2 ?_
        refine hQ _ _ ?_
        exact ⟨tl1, rfl, (fun q h1 h2 => hD1 q (by omega) h2), htl1, (X_Fr.rf).tr (X_Fr.mono ⟨hF609.1, hF609.2⟩ (fun q hq => (by omega)))⟩
      · skip
        have c611 : ¬ (p ≤ i) := c611
        refine T_p xr_32_11 xn_32 (pc' := 12) (ls' := [(4, .int (iI p)), (0, .ref 511), (1, .int (iI w)), (2, .int (iI i)), (3, .int (iI j))]) (st' := [.int (iI 1)]) rfl ?_
        refine T_p xr_32_12 xn_32 (pc' := 14) (ls' := [(5, .int (iI 1)), (4, .int (iI p)), (0, .ref 511), (1, .int (iI w)), (2, .int (iI i)), (3, .int (iI j))]) (st' := []) rfl ?_
        have L612 : ∀ (m614 : Nat) (S617 : X_S) (el : Int) (tl2 : Int → Int64) (htl2 : S617.1 516 = .inl (.long, 7200, .inr (.inl fun k : Nat => tl2 (k : Int)))) (hF616 : X_Fr (fun q => q = 516) S610 S617) (hel : 1 ≤ el ∧ el ≤ gD G w 3 0) (hI : ∀ e, 1 ≤ e → e < el → tl2 ((w * 8 + e) * 30 + p) = X_st (-2) (X_Ew G (X_T_ G) w e p j)) (hD2 : ∀ q, p < q → q < j → X_tl G (-2) w q j tl2) (hm615 : gD G w 3 0 - el < m614), X_T sc 32 (14, [(5, .int (iI el)), (4, .int (iI p)), (0, .ref 511), (1, .int (iI w)), (2, .int (iI i)), (3, .int (iI j))], [], S617) Q := by
          intro m614
          induction m614 with
          | zero =>
            intro S617 el tl2 htl2 hF616 hel hI hD2 hm615
            exact (show False by omega).elim
          | succ m614 ih613 =>
            intro S617 el tl2 htl2 hF616 hel hI hD2 hm615
            refine T_p xr_32_14 xn_32 (pc' := 16) (ls' := [(5, .int (iI el)), (4, .int (iI p)), (0, .ref 511), (1, .int (iI w)), (2, .int (iI i)), (3, .int (iI j))]) (st' := [.int (iI el)]) rfl ?_
            refine T_p xr_32_16 xn_32 (pc' := 17) (ls' := [(5, .int (iI el)), (4, .int (iI p)), (0, .ref 511), (1, .int (iI w)), (2, .int (iI i)), (3, .int (iI j))]) (st' := [.ref 511, .int (iI el)]) rfl ?_
            have h618 := (hF616.1 511 (by omega)).trans ((hF609.1 511 (by omega)).trans (hO511))
            refine T_get xr_32_17 h618 rfl (v := .ref B) rfl (pc' := 20) rfl ?_
            have h619 := (hF616.1 B (by omega)).trans ((hF609.1 B (by omega)).trans (hb0))
            refine T_get xr_32_20 h619 rfl (v := .ref (B + 5)) rfl (pc' := 23) rfl ?_
            refine T_p xr_32_23 xn_32 (pc' := 24) (ls' := [(5, .int (iI el)), (4, .int (iI p)), (0, .ref 511), (1, .int (iI w)), (2, .int (iI i)), (3, .int (iI j))]) (st' := [.int (iI w), .ref (B + 5), .int (iI el)]) rfl ?_
            have h620 := (hF616.1 (B + 5) (by omega)).trans ((hF609.1 (B + 5) (by omega)).trans (hb5))
            have hs621 : C_ws S617 B (gD G) (gW G) := C_ws.fr (P := fun q => 501 ≤ q ∧ q ≤ 529) hs (((X_Fr.rf).tr (X_Fr.mono ⟨hF609.1, hF609.2⟩ (fun q hq => (by omega)))).tr (X_Fr.mono ⟨hF616.1, hF616.2⟩ (fun q hq => (by omega)))) (fun k h1 h2 => by omega)
            have hw622 := hs621 w (by omega) (by omega)
            obtain ⟨a623, ha624⟩ : ∃ z : Nat, z = B + 6 + 8 * (w : Int).toNat := ⟨_, rfl⟩
            rw [← ha624] at hw622
            obtain ⟨⟨_, _⟩, ⟨_, _⟩, ⟨_, _⟩, ⟨_, _⟩, ⟨_, _⟩, ⟨_, _⟩, ⟨_, _⟩, ⟨_, _⟩⟩ := id hw622.2
            refine T_zaald xr_32_24 h620 (w := a623) (by rw [ha624]; exact hf _ (by omega)) (pc' := 25) rfl ?_
            refine T_get xr_32_25 hw622.1.1 rfl (v := .int (iI ((gD G) w 3 0))) rfl (pc' := 28) rfl ?_
            refine T_zicmp_ge xr_32_28 (t := 60) (pc' := 31) rfl rfl (fun c625 => ?_) (fun c625 => ?_)
            · skip
              have c625 : ((gD G) w 3 0) ≤ el := c625
              refine T_ziinc xr_32_60 xn_32 (a := p) (z := p - 1) rfl (Nat.le_of_ble_eq_true rfl) (by omega) (ls' := [(4, .int (iI (p - 1))), (5, .int (iI el)), (0, .ref 511), (1, .int (iI w)), (2, .int (iI i)), (3, .int (iI j))]) rfl (pc' := 63) rfl ?_
              refine T_p xr_32_63 xn_32 (pc' := 5) (ls' := [(4, .int (iI (p - 1))), (5, .int (iI el)), (0, .ref 511), (1, .int (iI w)), (2, .int (iI i)), (3, .int (iI j))]) (st' := []) rfl ?_
              refine T_sub (ls := [(4, .int (iI (p - 1))), (0, .ref 511), (1, .int (iI w)), (2, .int (iI i)), (3, .int (iI j))]) ⟨rfl, rfl, rfl, rfl, rfl, trivial⟩ rfl rfl ?_
              exact ih606 S617 (p - 1) tl2 htl2 (hF609.tr ((X_Fr.rf).tr (X_Fr.mono ⟨hF616.1, hF616.2⟩ (fun q hq => (by omega))))) (by omega) (fun q h1 h2 => by
                    by_cases hq : q = p
                    · subst hq; exact fun e g1 g2 => hI e g1 (by omega)
                    · exact hD2 q (by omega) h2) (by omega)
            · skip
              have c625 : ¬ (((gD G) w 3 0) ≤ el) := c625
              refine T_p xr_32_31 xn_32 (pc' := 32) (ls' := [(5, .int (iI el)), (4, .int (iI p)), (0, .ref 511), (1, .int (iI w)), (2, .int (iI i)), (3, .int (iI j))]) (st' := [.ref 511]) rfl ?_
              refine T_get xr_32_32 h618 rfl (v := .ref 516) rfl (pc' := 35) rfl ?_
              refine T_p xr_32_35 xn_32 (pc' := 36) (ls' := [(5, .int (iI el)), (4, .int (iI p)), (0, .ref 511), (1, .int (iI w)), (2, .int (iI i)), (3, .int (iI j))]) (st' := [.int (iI w), .ref 516]) rfl ?_
              refine T_p xr_32_36 xn_32 (pc' := 38) (ls' := [(5, .int (iI el)), (4, .int (iI p)), (0, .ref 511), (1, .int (iI w)), (2, .int (iI i)), (3, .int (iI j))]) (st' := [.int (iI el), .int (iI w), .ref 516]) rfl ?_
              refine T_p xr_32_38 xn_32 (pc' := 40) (ls' := [(5, .int (iI el)), (4, .int (iI p)), (0, .ref 511), (1, .int (iI w)), (2, .int (iI i)), (3, .int (iI j))]) (st' := [.int (iI p), .int (iI el), .int (iI w), .ref 516]) rfl ?_
              refine T_cs xr_32_40 (by decide) xf_21.1 xn_21 (as := [.int (iI w), .int (iI el), .int (iI p)]) (r := [.ref 516]) rfl (Nat.le_of_ble_eq_true rfl) (Nat.le_of_ble_eq_true rfl) (pc' := 43) rfl (ls' := [(0, .int (iI w)), (1, .int (iI el)), (2, .int (iI p))]) rfl ?_
              refine T_p xr_21_0 xn_21 (pc' := 1) (ls' := [(0, .int (iI w)), (1, .int (iI el)), (2, .int (iI p))]) (st' := [.int (iI w)]) rfl ?_
              refine T_p xr_21_1 xn_21 (pc' := 3) (ls' := [(0, .int (iI w)), (1, .int (iI el)), (2, .int (iI p))]) (st' := [.int (iI 8), .int (iI w)]) rfl ?_
              refine T_zimul xr_21_3 (z := w * 8) rfl (pc' := 4) rfl ?_
              refine T_p xr_21_4 xn_21 (pc' := 5) (ls' := [(0, .int (iI w)), (1, .int (iI el)), (2, .int (iI p))]) (st' := [.int (iI el), .int (iI (w * 8))]) rfl ?_
              refine T_ziadd xr_21_5 (z := (w * 8) + el) rfl (pc' := 6) rfl ?_
              refine T_p xr_21_6 xn_21 (pc' := 8) (ls' := [(0, .int (iI w)), (1, .int (iI el)), (2, .int (iI p))]) (st' := [.int (iI 30), .int (iI ((w * 8) + el))]) rfl ?_
              refine T_zimul xr_21_8 (z := ((w * 8) + el) * 30) rfl (pc' := 9) rfl ?_
              refine T_p xr_21_9 xn_21 (pc' := 10) (ls' := [(0, .int (iI w)), (1, .int (iI el)), (2, .int (iI p))]) (st' := [.int (iI p), .int (iI (((w * 8) + el) * 30))]) rfl ?_
              refine T_ziadd xr_21_10 (z := (((w * 8) + el) * 30) + p) rfl (pc' := 11) rfl ?_
              refine T_iret xr_21_11 xf_21.2.2 rfl ?_
              show X_T sc 32 (43, [(5, .int (iI el)), (4, .int (iI p)), (0, .ref 511), (1, .int (iI w)), (2, .int (iI i)), (3, .int (iI j))], [.int (iI ((((w * 8) + el) * 30) + p)), .ref 516], S617) _
              refine T_p xr_32_43 xn_32 (pc' := 44) (ls' := [(5, .int (iI el)), (4, .int (iI p)), (0, .ref 511), (1, .int (iI w)), (2, .int (iI i)), (3, .int (iI j))]) (st' := [.ref 511, .int (iI ((((w * 8) + el) * 30) + p)), .ref 516]) rfl ?_
              refine T_p xr_32_44 xn_32 (pc' := 45) (ls' := [(5, .int (iI el)), (4, .int (iI p)), (0, .ref 511), (1, .int (iI w)), (2, .int (iI i)), (3, .int (iI j))]) (st' := [.int (iI w), .ref 511, .int (iI ((((w * 8) + el) * 30) + p)), .ref 516]) rfl ?_
              refine T_p xr_32_45 xn_32 (pc' := 47) (ls' := [(5, .int (iI el)), (4, .int (iI p)), (0, .ref 511), (1, .int (iI w)), (2, .int (iI i)), (3, .int (iI j))]) (st' := [.int (iI el), .int (iI w), .ref 511, .int (iI ((((w * 8) + el) * 30) + p)), .ref 516]) rfl ?_
              refine T_p xr_32_47 xn_32 (pc' := 49) (ls' := [(5, .int (iI el)), (4, .int (iI p)), (0, .ref 511), (1, .int (iI w)), (2, .int (iI i)), (3, .int (iI j))]) (st' := [.int (iI p), .int (iI el), .int (iI w), .ref 511, .int (iI ((((w * 8) + el) * 30) + p)), .ref 516]) rfl ?_
              refine T_p xr_32_49 xn_32 (pc' := 50) (ls' := [(5, .int (iI el)), (4, .int (iI p)), (0, .ref 511), (1, .int (iI w)), (2, .int (iI i)), (3, .int (iI j))]) (st' := [.int (iI j), .int (iI p), .int (iI el), .int (iI w), .ref 511, .int (iI ((((w * 8) + el) * 30) + p)), .ref 516]) rfl ?_
              refine T_cv (S := S617) (q := 511) xr_32_50 xf_33.1 xf_33.2.1 xn_33 (as := [.int (iI w), .int (iI el), .int (iI p), .int (iI j)]) (r := [.int (iI ((((w * 8) + el) * 30) + p)), .ref 516]) rfl h618 (Nat.le_of_ble_eq_true rfl) (Nat.le_of_ble_eq_true rfl) (pc' := 53) rfl (ls' := [(0, .ref 511), (1, .int (iI w)), (2, .int (iI el)), (3, .int (iI p)), (4, .int (iI j))]) rfl ?_
              have h626 := (hF616.1 515 (by omega)).trans ((hF609.1 515 (by omega)).trans (hA515))
              have h627 := (hF616.1 501 (by omega)).trans ((hF609.1 501 (by omega)).trans (hO501))
              have h628 := (hF616.1 (B + 1) (by omega)).trans ((hF609.1 (B + 1) (by omega)).trans (hb1))
              have h629 := (hF616.1 (B + 2) (by omega)).trans ((hF609.1 (B + 2) (by omega)).trans (hb2))
              have h630 := (hF616.1 (B + 3) (by omega)).trans ((hF609.1 (B + 3) (by omega)).trans (hb3))
              have h631 := (hF616.1 (B + 4) (by omega)).trans ((hF609.1 (B + 4) (by omega)).trans (hb4))
              have h632 := (hF616.1 502 (by omega)).trans ((hF609.1 502 (by omega)).trans (hA502))
              refine T_mono (c_ways sc S617 oH tl2 B rc rn kn G tn fl w el p j h627 h618 h626 htl2 hB ⟨h619, h628, h629, h630, h631, ⟨f, h620, hf⟩, ⟨by omega, by omega⟩, ⟨by omega, by omega⟩, ⟨by omega, by omega⟩⟩ hs621 hG h632 (by omega) (by omega) (by omega) hD2 (fun z m h1 h2 _ => hH p (by omega) (by omega) _ (by omega) (by omega) z m h1 h2)) (fun v633 S634 h635 => ?_)
              rcases h635 with ⟨hv636, hf637⟩
              rw [hv636]
              rw [hf637]
              show X_T sc 32 (53, [(5, .int (iI el)), (4, .int (iI p)), (0, .ref 511), (1, .int (iI w)), (2, .int (iI i)), (3, .int (iI j))], [.long (X_st (-2) (X_Ew G (X_T_ G) w el p j)), .int (iI ((((w * 8) + el) * 30) + p)), .ref 516], S617) _
              refine T_zlast xr_32_53 htl2 (pc' := 54) rfl (fun S638 h639 n640 e641 => ?_)
              refine T_ziinc xr_32_54 xn_32 (a := el) (z := el + 1) rfl (Nat.le_of_ble_eq_true rfl) (by omega) (ls' := [(5, .int (iI (el + 1))), (4, .int (iI p)), (0, .ref 511), (1, .int (iI w)), (2, .int (iI i)), (3, .int (iI j))]) rfl (pc' := 57) rfl ?_
              refine T_p xr_32_57 xn_32 (pc' := 14) (ls' := [(5, .int (iI (el + 1))), (4, .int (iI p)), (0, .ref 511), (1, .int (iI w)), (2, .int (iI i)), (3, .int (iI j))]) (st' := []) rfl ?_
              exact ih613 S638 (el + 1) (X_ug tl2 ((((w * 8) + el) * 30) + p) (X_st (-2) (X_Ew G (X_T_ G) w el p j))) h639 (hF616.tr ((X_Fr.rf).tr (X_Fr.of n640 e641 (by omega)))) (by omega) (fun e g1 g2 => by
                    by_cases he : e = el
                    · subst he; rw [X_ug_s]
                    · rw [X_ug_n _ _ (by omega)]; exact hI e g1 (by omega)) (fun q h1 h2 e g1 g2 => by rw [X_ug_n _ _ (by omega)]; exact hD2 q h1 h2 e g1 g2) (by omega)
        exact L612 ((gD G w 3 0) + 1).toNat S610 1 tl1 htl1 ((X_Fr.rf)) (by omega) (fun e g1 g2 => absurd g2 (by omega)) hD1 (by omega)
  exact L605 (j + 1).toNat S (j - 1) tl hA516 ((X_Fr.rf)) (by omega) (fun q h1 h2 => absurd h2 (by omega)) (by omega)
