theorem xr_25_0 : X_row 25 0 = some (0, (.iload_n 0, 1), (0, 0, 0)) := by decide +kernel
theorem xr_25_1 : X_row 25 1 = some (1, (.bipush 8, 2), (0, 0, 0)) := by decide +kernel
theorem xr_25_3 : X_row 25 3 = some (3, (.imul, 1), (0, 0, 0)) := by decide +kernel
theorem xr_25_4 : X_row 25 4 = some (4, (.iload_n 1, 1), (0, 0, 0)) := by decide +kernel
theorem xr_25_5 : X_row 25 5 = some (5, (.iadd, 1), (0, 0, 0)) := by decide +kernel
theorem xr_25_6 : X_row 25 6 = some (6, (.bipush 30, 2), (0, 0, 0)) := by decide +kernel
theorem xr_25_8 : X_row 25 8 = some (8, (.imul, 1), (0, 0, 0)) := by decide +kernel
theorem xr_25_9 : X_row 25 9 = some (9, (.iload_n 2, 1), (0, 0, 0)) := by decide +kernel
theorem xr_25_10 : X_row 25 10 = some (10, (.iadd, 1), (0, 0, 0)) := by decide +kernel
theorem xr_25_11 : X_row 25 11 = some (11, (.ireturn, 1), (0, 0, 0)) := by decide +kernel
theorem xr_27_0 : X_row 27 0 = some (0, (.aload_n 0, 1), (0, 0, 0)) := by decide +kernel
theorem xr_27_1 : X_row 27 1 = some (1, (.getfield 26, 3), (1, 6, 34)) := by decide +kernel
theorem xr_27_4 : X_row 27 4 = some (4, (.iload_n 1, 1), (0, 0, 0)) := by decide +kernel
theorem xr_27_5 : X_row 27 5 = some (5, (.iload_n 2, 1), (0, 0, 0)) := by decide +kernel
theorem xr_27_6 : X_row 27 6 = some (6, (.invokestatic 40, 3), (24, 2, 0)) := by decide +kernel
theorem xr_27_9 : X_row 27 9 = some (9, (.bipush 30, 2), (0, 0, 0)) := by decide +kernel
theorem xr_27_11 : X_row 27 11 = some (11, (.imul, 1), (0, 0, 0)) := by decide +kernel
theorem xr_27_12 : X_row 27 12 = some (12, (.iload_n 3, 1), (0, 0, 0)) := by decide +kernel
theorem xr_27_13 : X_row 27 13 = some (13, (.iadd, 1), (0, 0, 0)) := by decide +kernel
theorem xr_27_14 : X_row 27 14 = some (14, (.iconst 4, 1), (0, 0, 0)) := by decide +kernel
theorem xr_27_15 : X_row 27 15 = some (15, (.imul, 1), (0, 0, 0)) := by decide +kernel
theorem xr_27_16 : X_row 27 16 = some (16, (.iload 4, 2), (0, 0, 0)) := by decide +kernel
theorem xr_27_18 : X_row 27 18 = some (18, (.iadd, 1), (0, 0, 0)) := by decide +kernel
theorem xr_27_19 : X_row 27 19 = some (19, (.laload, 1), (0, 0, 0)) := by decide +kernel
theorem xr_27_20 : X_row 27 20 = some (20, (.lreturn, 1), (0, 0, 0)) := by decide +kernel
theorem xr_35_0 : X_row 35 0 = some (0, (.iconst 1, 1), (0, 0, 0)) := by decide +kernel
theorem xr_35_1 : X_row 35 1 = some (1, (.istore 4, 2), (0, 0, 0)) := by decide +kernel
theorem xr_35_3 : X_row 35 3 = some (3, (.iload 4, 2), (0, 0, 0)) := by decide +kernel
theorem xr_35_5 : X_row 35 5 = some (5, (.aload_n 0, 1), (0, 0, 0)) := by decide +kernel
theorem xr_35_6 : X_row 35 6 = some (6, (.getfield 32, 3), (1, 0, 22)) := by decide +kernel
theorem xr_35_9 : X_row 35 9 = some (9, (.getfield 110, 3), (0, 7, 17)) := by decide +kernel
theorem xr_35_12 : X_row 35 12 = some (12, (.iload_n 1, 1), (0, 0, 0)) := by decide +kernel
theorem xr_35_13 : X_row 35 13 = some (13, (.aaload, 1), (0, 0, 0)) := by decide +kernel
theorem xr_35_14 : X_row 35 14 = some (14, (.getfield 126, 3), (8, 3, 1)) := by decide +kernel
theorem xr_35_17 : X_row 35 17 = some (17, (.if_icmp .ge 30, 3), (0, 0, 0)) := by decide +kernel
theorem xr_35_20 : X_row 35 20 = some (20, (.aload_n 0, 1), (0, 0, 0)) := by decide +kernel
theorem xr_35_21 : X_row 35 21 = some (21, (.getfield 29, 3), (1, 7, 36)) := by decide +kernel
theorem xr_35_24 : X_row 35 24 = some (24, (.iload_n 1, 1), (0, 0, 0)) := by decide +kernel
theorem xr_35_25 : X_row 35 25 = some (25, (.iload 4, 2), (0, 0, 0)) := by decide +kernel
theorem xr_35_27 : X_row 35 27 = some (27, (.iload_n 2, 1), (0, 0, 0)) := by decide +kernel
theorem xr_35_28 : X_row 35 28 = some (28, (.invokestatic 78, 3), (25, 10, 0)) := by decide +kernel
theorem xr_35_31 : X_row 35 31 = some (31, (.aload_n 0, 1), (0, 0, 0)) := by decide +kernel
theorem xr_35_32 : X_row 35 32 = some (32, (.iload_n 1, 1), (0, 0, 0)) := by decide +kernel
theorem xr_35_33 : X_row 35 33 = some (33, (.iload 4, 2), (0, 0, 0)) := by decide +kernel
theorem xr_35_35 : X_row 35 35 = some (35, (.iload_n 2, 1), (0, 0, 0)) := by decide +kernel
theorem xr_35_36 : X_row 35 36 = some (36, (.iload_n 3, 1), (0, 0, 0)) := by decide +kernel
theorem xr_35_37 : X_row 35 37 = some (37, (.invokevirtual 74, 3), (37, 4, 0)) := by decide +kernel
theorem xr_35_40 : X_row 35 40 = some (40, (.lastore, 1), (0, 0, 0)) := by decide +kernel
theorem xr_35_41 : X_row 35 41 = some (41, (.iinc 4 1, 3), (0, 0, 0)) := by decide +kernel
theorem xr_35_44 : X_row 35 44 = some (44, (.goto (-41), 3), (0, 0, 0)) := by decide +kernel
theorem xr_35_47 : X_row 35 47 = some (47, (.return_, 1), (0, 0, 0)) := by decide +kernel
theorem xr_36_0 : X_row 36 0 = some (0, (.iload_n 3, 1), (0, 0, 0)) := by decide +kernel
theorem xr_36_1 : X_row 36 1 = some (1, (.iconst 1, 1), (0, 0, 0)) := by decide +kernel
theorem xr_36_2 : X_row 36 2 = some (2, (.isub, 1), (0, 0, 0)) := by decide +kernel
theorem xr_36_3 : X_row 36 3 = some (3, (.istore 4, 2), (0, 0, 0)) := by decide +kernel
theorem xr_36_5 : X_row 36 5 = some (5, (.iload 4, 2), (0, 0, 0)) := by decide +kernel
theorem xr_36_7 : X_row 36 7 = some (7, (.iload_n 2, 1), (0, 0, 0)) := by decide +kernel
theorem xr_36_8 : X_row 36 8 = some (8, (.if_icmp .le 58, 3), (0, 0, 0)) := by decide +kernel
theorem xr_36_11 : X_row 36 11 = some (11, (.iconst 1, 1), (0, 0, 0)) := by decide +kernel
theorem xr_36_12 : X_row 36 12 = some (12, (.istore 5, 2), (0, 0, 0)) := by decide +kernel
theorem xr_36_14 : X_row 36 14 = some (14, (.iload 5, 2), (0, 0, 0)) := by decide +kernel
theorem xr_36_16 : X_row 36 16 = some (16, (.aload_n 0, 1), (0, 0, 0)) := by decide +kernel
theorem xr_36_17 : X_row 36 17 = some (17, (.getfield 32, 3), (1, 0, 22)) := by decide +kernel
theorem xr_36_20 : X_row 36 20 = some (20, (.getfield 110, 3), (0, 7, 17)) := by decide +kernel
theorem xr_36_23 : X_row 36 23 = some (23, (.iload_n 1, 1), (0, 0, 0)) := by decide +kernel
theorem xr_36_24 : X_row 36 24 = some (24, (.aaload, 1), (0, 0, 0)) := by decide +kernel
theorem xr_36_25 : X_row 36 25 = some (25, (.getfield 126, 3), (8, 3, 1)) := by decide +kernel
theorem xr_36_28 : X_row 36 28 = some (28, (.if_icmp .ge 32, 3), (0, 0, 0)) := by decide +kernel
theorem xr_36_31 : X_row 36 31 = some (31, (.aload_n 0, 1), (0, 0, 0)) := by decide +kernel
theorem xr_36_32 : X_row 36 32 = some (32, (.getfield 29, 3), (1, 7, 36)) := by decide +kernel
theorem xr_36_35 : X_row 36 35 = some (35, (.iload_n 1, 1), (0, 0, 0)) := by decide +kernel
theorem xr_36_36 : X_row 36 36 = some (36, (.iload 5, 2), (0, 0, 0)) := by decide +kernel
theorem xr_36_38 : X_row 36 38 = some (38, (.iload 4, 2), (0, 0, 0)) := by decide +kernel
theorem xr_36_40 : X_row 36 40 = some (40, (.invokestatic 78, 3), (25, 10, 0)) := by decide +kernel
theorem xr_36_43 : X_row 36 43 = some (43, (.aload_n 0, 1), (0, 0, 0)) := by decide +kernel
theorem xr_36_44 : X_row 36 44 = some (44, (.iload_n 1, 1), (0, 0, 0)) := by decide +kernel
theorem xr_36_45 : X_row 36 45 = some (45, (.iload 5, 2), (0, 0, 0)) := by decide +kernel
theorem xr_36_47 : X_row 36 47 = some (47, (.iload 4, 2), (0, 0, 0)) := by decide +kernel
theorem xr_36_49 : X_row 36 49 = some (49, (.iload_n 3, 1), (0, 0, 0)) := by decide +kernel
theorem xr_36_50 : X_row 36 50 = some (50, (.invokevirtual 74, 3), (37, 4, 0)) := by decide +kernel
theorem xr_36_53 : X_row 36 53 = some (53, (.lastore, 1), (0, 0, 0)) := by decide +kernel
theorem xr_36_54 : X_row 36 54 = some (54, (.iinc 5 1, 3), (0, 0, 0)) := by decide +kernel
theorem xr_36_57 : X_row 36 57 = some (57, (.goto (-43), 3), (0, 0, 0)) := by decide +kernel
theorem xr_36_60 : X_row 36 60 = some (60, (.iinc 4 (-1), 3), (0, 0, 0)) := by decide +kernel
theorem xr_36_63 : X_row 36 63 = some (63, (.goto (-58), 3), (0, 0, 0)) := by decide +kernel
theorem xr_36_66 : X_row 36 66 = some (66, (.return_, 1), (0, 0, 0)) := by decide +kernel
theorem xr_37_0 : X_row 37 0 = some (0, (.aload_n 0, 1), (0, 0, 0)) := by decide +kernel
theorem xr_37_1 : X_row 37 1 = some (1, (.getfield 32, 3), (1, 0, 22)) := by decide +kernel
theorem xr_37_4 : X_row 37 4 = some (4, (.getfield 110, 3), (0, 7, 17)) := by decide +kernel
theorem xr_37_7 : X_row 37 7 = some (7, (.iload_n 1, 1), (0, 0, 0)) := by decide +kernel
theorem xr_37_8 : X_row 37 8 = some (8, (.aaload, 1), (0, 0, 0)) := by decide +kernel
theorem xr_37_9 : X_row 37 9 = some (9, (.astore 5, 2), (0, 0, 0)) := by decide +kernel
theorem xr_37_11 : X_row 37 11 = some (11, (.aload 5, 2), (0, 0, 0)) := by decide +kernel
theorem xr_37_13 : X_row 37 13 = some (13, (.iload_n 2, 1), (0, 0, 0)) := by decide +kernel
theorem xr_37_14 : X_row 37 14 = some (14, (.invokevirtual 129, 3), (100, 6, 0)) := by decide +kernel
theorem xr_37_17 : X_row 37 17 = some (17, (.ifCond .ne 53, 3), (0, 0, 0)) := by decide +kernel
theorem xr_37_20 : X_row 37 20 = some (20, (.aload 5, 2), (0, 0, 0)) := by decide +kernel
theorem xr_37_22 : X_row 37 22 = some (22, (.getfield 132, 3), (8, 8, 5)) := by decide +kernel
theorem xr_37_25 : X_row 37 25 = some (25, (.iload_n 2, 1), (0, 0, 0)) := by decide +kernel
theorem xr_37_26 : X_row 37 26 = some (26, (.laload, 1), (0, 0, 0)) := by decide +kernel
theorem xr_37_27 : X_row 37 27 = some (27, (.aload_n 0, 1), (0, 0, 0)) := by decide +kernel
theorem xr_37_28 : X_row 37 28 = some (28, (.getfield 36, 3), (1, 1, 24)) := by decide +kernel
theorem xr_37_31 : X_row 37 31 = some (31, (.getfield 135, 3), (6, 1, 21)) := by decide +kernel
theorem xr_37_34 : X_row 37 34 = some (34, (.iload_n 3, 1), (0, 0, 0)) := by decide +kernel
theorem xr_37_35 : X_row 37 35 = some (35, (.laload, 1), (0, 0, 0)) := by decide +kernel
theorem xr_37_36 : X_row 37 36 = some (36, (.lcmp, 1), (0, 0, 0)) := by decide +kernel
theorem xr_37_37 : X_row 37 37 = some (37, (.ifCond .ne 7, 3), (0, 0, 0)) := by decide +kernel
theorem xr_37_40 : X_row 37 40 = some (40, (.iconst 1, 1), (0, 0, 0)) := by decide +kernel
theorem xr_37_41 : X_row 37 41 = some (41, (.goto 4, 3), (0, 0, 0)) := by decide +kernel
theorem xr_37_44 : X_row 37 44 = some (44, (.iconst 0, 1), (0, 0, 0)) := by decide +kernel
theorem xr_37_45 : X_row 37 45 = some (45, (.istore 6, 2), (0, 0, 0)) := by decide +kernel
theorem xr_37_47 : X_row 37 47 = some (47, (.iload 6, 2), (0, 0, 0)) := by decide +kernel
theorem xr_37_49 : X_row 37 49 = some (49, (.ifCond .eq 19, 3), (0, 0, 0)) := by decide +kernel
theorem xr_37_52 : X_row 37 52 = some (52, (.aload_n 0, 1), (0, 0, 0)) := by decide +kernel
theorem xr_37_53 : X_row 37 53 = some (53, (.iload_n 1, 1), (0, 0, 0)) := by decide +kernel
theorem xr_37_54 : X_row 37 54 = some (54, (.iload_n 2, 1), (0, 0, 0)) := by decide +kernel
theorem xr_37_55 : X_row 37 55 = some (55, (.iconst 1, 1), (0, 0, 0)) := by decide +kernel
theorem xr_37_56 : X_row 37 56 = some (56, (.iadd, 1), (0, 0, 0)) := by decide +kernel
theorem xr_37_57 : X_row 37 57 = some (57, (.iload_n 3, 1), (0, 0, 0)) := by decide +kernel
theorem xr_37_58 : X_row 37 58 = some (58, (.iconst 1, 1), (0, 0, 0)) := by decide +kernel
theorem xr_37_59 : X_row 37 59 = some (59, (.iadd, 1), (0, 0, 0)) := by decide +kernel
theorem xr_37_60 : X_row 37 60 = some (60, (.iload 4, 2), (0, 0, 0)) := by decide +kernel
theorem xr_37_62 : X_row 37 62 = some (62, (.invokevirtual 138, 3), (38, 8, 0)) := by decide +kernel
theorem xr_37_65 : X_row 37 65 = some (65, (.goto 4, 3), (0, 0, 0)) := by decide +kernel
theorem xr_37_68 : X_row 37 68 = some (68, (.lconst 0, 1), (0, 0, 0)) := by decide +kernel
theorem xr_37_69 : X_row 37 69 = some (69, (.lreturn, 1), (0, 0, 0)) := by decide +kernel
theorem xr_37_70 : X_row 37 70 = some (70, (.aload 5, 2), (0, 0, 0)) := by decide +kernel
theorem xr_37_72 : X_row 37 72 = some (72, (.getfield 141, 3), (8, 9, 7)) := by decide +kernel
theorem xr_37_75 : X_row 37 75 = some (75, (.iload_n 2, 1), (0, 0, 0)) := by decide +kernel
theorem xr_37_76 : X_row 37 76 = some (76, (.iaload, 1), (0, 0, 0)) := by decide +kernel
theorem xr_37_77 : X_row 37 77 = some (77, (.istore 6, 2), (0, 0, 0)) := by decide +kernel
theorem xr_37_79 : X_row 37 79 = some (79, (.lconst 0, 1), (0, 0, 0)) := by decide +kernel
theorem xr_37_80 : X_row 37 80 = some (80, (.lstore 7, 2), (0, 0, 0)) := by decide +kernel
theorem xr_37_82 : X_row 37 82 = some (82, (.iload_n 3, 1), (0, 0, 0)) := by decide +kernel
theorem xr_37_83 : X_row 37 83 = some (83, (.iconst 1, 1), (0, 0, 0)) := by decide +kernel
theorem xr_37_84 : X_row 37 84 = some (84, (.iadd, 1), (0, 0, 0)) := by decide +kernel
theorem xr_37_85 : X_row 37 85 = some (85, (.istore 9, 2), (0, 0, 0)) := by decide +kernel
theorem xr_37_87 : X_row 37 87 = some (87, (.iload 9, 2), (0, 0, 0)) := by decide +kernel
theorem xr_37_89 : X_row 37 89 = some (89, (.iload 4, 2), (0, 0, 0)) := by decide +kernel
theorem xr_37_91 : X_row 37 91 = some (91, (.if_icmp .gt 52, 3), (0, 0, 0)) := by decide +kernel
theorem xr_37_94 : X_row 37 94 = some (94, (.aload_n 0, 1), (0, 0, 0)) := by decide +kernel
theorem xr_37_95 : X_row 37 95 = some (95, (.iload_n 1, 1), (0, 0, 0)) := by decide +kernel
theorem xr_37_96 : X_row 37 96 = some (96, (.iload_n 2, 1), (0, 0, 0)) := by decide +kernel
theorem xr_37_97 : X_row 37 97 = some (97, (.iconst 1, 1), (0, 0, 0)) := by decide +kernel
theorem xr_37_98 : X_row 37 98 = some (98, (.iadd, 1), (0, 0, 0)) := by decide +kernel
theorem xr_37_99 : X_row 37 99 = some (99, (.iload 9, 2), (0, 0, 0)) := by decide +kernel
theorem xr_37_101 : X_row 37 101 = some (101, (.iload 4, 2), (0, 0, 0)) := by decide +kernel
theorem xr_37_103 : X_row 37 103 = some (103, (.invokevirtual 138, 3), (38, 8, 0)) := by decide +kernel
theorem xr_37_106 : X_row 37 106 = some (106, (.lstore 10, 2), (0, 0, 0)) := by decide +kernel
theorem xr_37_108 : X_row 37 108 = some (108, (.lload 10, 2), (0, 0, 0)) := by decide +kernel
theorem xr_37_110 : X_row 37 110 = some (110, (.lconst 0, 1), (0, 0, 0)) := by decide +kernel
theorem xr_37_111 : X_row 37 111 = some (111, (.lcmp, 1), (0, 0, 0)) := by decide +kernel
theorem xr_37_112 : X_row 37 112 = some (112, (.ifCond .eq 25, 3), (0, 0, 0)) := by decide +kernel
theorem xr_37_115 : X_row 37 115 = some (115, (.lload 7, 2), (0, 0, 0)) := by decide +kernel
theorem xr_37_117 : X_row 37 117 = some (117, (.aload_n 0, 1), (0, 0, 0)) := by decide +kernel
theorem xr_37_118 : X_row 37 118 = some (118, (.iload_n 3, 1), (0, 0, 0)) := by decide +kernel
theorem xr_37_119 : X_row 37 119 = some (119, (.iload 9, 2), (0, 0, 0)) := by decide +kernel
theorem xr_37_121 : X_row 37 121 = some (121, (.iload_n 1, 1), (0, 0, 0)) := by decide +kernel
theorem xr_37_122 : X_row 37 122 = some (122, (.iload 6, 2), (0, 0, 0)) := by decide +kernel
theorem xr_37_124 : X_row 37 124 = some (124, (.invokevirtual 144, 3), (27, 12, 0)) := by decide +kernel
theorem xr_37_127 : X_row 37 127 = some (127, (.lload 10, 2), (0, 0, 0)) := by decide +kernel
theorem xr_37_129 : X_row 37 129 = some (129, (.invokestatic 147, 3), (135, 15, 0)) := by decide +kernel
theorem xr_37_132 : X_row 37 132 = some (132, (.invokestatic 58, 3), (134, 17, 0)) := by decide +kernel
theorem xr_37_135 : X_row 37 135 = some (135, (.lstore 7, 2), (0, 0, 0)) := by decide +kernel
theorem xr_37_137 : X_row 37 137 = some (137, (.iinc 9 1, 3), (0, 0, 0)) := by decide +kernel
theorem xr_37_140 : X_row 37 140 = some (140, (.goto (-53), 3), (0, 0, 0)) := by decide +kernel
theorem xr_37_143 : X_row 37 143 = some (143, (.lload 7, 2), (0, 0, 0)) := by decide +kernel
theorem xr_37_145 : X_row 37 145 = some (145, (.lreturn, 1), (0, 0, 0)) := by decide +kernel
theorem xr_38_0 : X_row 38 0 = some (0, (.iload_n 2, 1), (0, 0, 0)) := by decide +kernel
theorem xr_38_1 : X_row 38 1 = some (1, (.aload_n 0, 1), (0, 0, 0)) := by decide +kernel
theorem xr_38_2 : X_row 38 2 = some (2, (.getfield 32, 3), (1, 0, 22)) := by decide +kernel
theorem xr_38_5 : X_row 38 5 = some (5, (.getfield 110, 3), (0, 7, 17)) := by decide +kernel
theorem xr_38_8 : X_row 38 8 = some (8, (.iload_n 1, 1), (0, 0, 0)) := by decide +kernel
theorem xr_38_9 : X_row 38 9 = some (9, (.aaload, 1), (0, 0, 0)) := by decide +kernel
theorem xr_38_10 : X_row 38 10 = some (10, (.getfield 126, 3), (8, 3, 1)) := by decide +kernel
theorem xr_38_13 : X_row 38 13 = some (13, (.if_icmp .ne 7, 3), (0, 0, 0)) := by decide +kernel
theorem xr_38_16 : X_row 38 16 = some (16, (.iconst 1, 1), (0, 0, 0)) := by decide +kernel
theorem xr_38_17 : X_row 38 17 = some (17, (.goto 4, 3), (0, 0, 0)) := by decide +kernel
theorem xr_38_20 : X_row 38 20 = some (20, (.iconst 0, 1), (0, 0, 0)) := by decide +kernel
theorem xr_38_21 : X_row 38 21 = some (21, (.istore 5, 2), (0, 0, 0)) := by decide +kernel
theorem xr_38_23 : X_row 38 23 = some (23, (.iload_n 3, 1), (0, 0, 0)) := by decide +kernel
theorem xr_38_24 : X_row 38 24 = some (24, (.iload 4, 2), (0, 0, 0)) := by decide +kernel
theorem xr_38_26 : X_row 38 26 = some (26, (.if_icmp .ne 14, 3), (0, 0, 0)) := by decide +kernel
theorem xr_38_29 : X_row 38 29 = some (29, (.iload 5, 2), (0, 0, 0)) := by decide +kernel
theorem xr_38_31 : X_row 38 31 = some (31, (.ifCond .eq 7, 3), (0, 0, 0)) := by decide +kernel
theorem xr_38_34 : X_row 38 34 = some (34, (.lconst 1, 1), (0, 0, 0)) := by decide +kernel
theorem xr_38_35 : X_row 38 35 = some (35, (.goto 4, 3), (0, 0, 0)) := by decide +kernel
theorem xr_38_38 : X_row 38 38 = some (38, (.lconst 0, 1), (0, 0, 0)) := by decide +kernel
theorem xr_38_39 : X_row 38 39 = some (39, (.lreturn, 1), (0, 0, 0)) := by decide +kernel
theorem xr_38_40 : X_row 38 40 = some (40, (.iload 5, 2), (0, 0, 0)) := by decide +kernel
theorem xr_38_42 : X_row 38 42 = some (42, (.ifCond .eq 7, 3), (0, 0, 0)) := by decide +kernel
theorem xr_38_45 : X_row 38 45 = some (45, (.lconst 0, 1), (0, 0, 0)) := by decide +kernel
theorem xr_38_46 : X_row 38 46 = some (46, (.goto 14, 3), (0, 0, 0)) := by decide +kernel
theorem xr_38_49 : X_row 38 49 = some (49, (.aload_n 0, 1), (0, 0, 0)) := by decide +kernel
theorem xr_38_50 : X_row 38 50 = some (50, (.getfield 29, 3), (1, 7, 36)) := by decide +kernel
theorem xr_38_53 : X_row 38 53 = some (53, (.iload_n 1, 1), (0, 0, 0)) := by decide +kernel
theorem xr_38_54 : X_row 38 54 = some (54, (.iload_n 2, 1), (0, 0, 0)) := by decide +kernel
theorem xr_38_55 : X_row 38 55 = some (55, (.iload_n 3, 1), (0, 0, 0)) := by decide +kernel
theorem xr_38_56 : X_row 38 56 = some (56, (.invokestatic 78, 3), (25, 10, 0)) := by decide +kernel
theorem xr_38_59 : X_row 38 59 = some (59, (.laload, 1), (0, 0, 0)) := by decide +kernel
theorem xr_38_60 : X_row 38 60 = some (60, (.lreturn, 1), (0, 0, 0)) := by decide +kernel
theorem xn_25 : X_nL 25 = 3 := by decide +kernel
theorem xf_25 : X_na 25 = 3 ∧ X_ci 25 = 1 ∧ X_rt 25 = (some .int) := by decide +kernel
theorem xn_27 : X_nL 27 = 5 := by decide +kernel
theorem xf_27 : X_na 27 = 4 ∧ X_ci 27 = 1 ∧ X_rt 27 = (some .long) := by decide +kernel
theorem xn_35 : X_nL 35 = 5 := by decide +kernel
theorem xf_35 : X_na 35 = 3 ∧ X_ci 35 = 1 ∧ X_rt 35 = none := by decide +kernel
theorem xn_36 : X_nL 36 = 6 := by decide +kernel
theorem xf_36 : X_na 36 = 3 ∧ X_ci 36 = 1 ∧ X_rt 36 = none := by decide +kernel
theorem xn_37 : X_nL 37 = 12 := by decide +kernel
theorem xf_37 : X_na 37 = 4 ∧ X_ci 37 = 1 ∧ X_rt 37 = (some .long) := by decide +kernel
theorem xn_38 : X_nL 38 = 6 := by decide +kernel
theorem xf_38 : X_na 38 = 4 ∧ X_ci 38 = 1 ∧ X_rt 38 = (some .long) := by decide +kernel
theorem c_tail (sc : X_Sc) (S : X_S) (tl : Int → Int64) (B : Nat) (rc : Int) (rn : Int → Int64) (kn : Int → Int64) (G : X_G) (tn : Int) (fl : Int) (w : Int) (e : Int) (p : Int) (j : Int) (hO511 : S.1 511 = .inr (1, [.ref B, .ref 501, .int (iI fl), .ref 512, .ref 513, .ref 514, .ref 515, .ref 516])) (hA516 : S.1 516 = .inl (.long, 7200, .inr (.inl fun k : Nat => tl (k : Int)))) (hB : B = 4 ∨ B = 250) (hb : C_bk S B rc (gk G) (gw G) rn (gl G) kn (ga G)) (hs : C_ws S B (gD G) (gW G)) (hG : X_Gok G) (hw : 0 ≤ w ∧ w < gw G) (he : 1 ≤ e ∧ e ≤ gD G w 3 0) (hpj : 0 ≤ p ∧ p ≤ j ∧ j ≤ 30) (ht : p < j → e < gD G w 3 0 → tl ((w * 8 + e) * 30 + p) = X_st (-2) (X_Ew G (X_T_ G) w e p j)) : X_T sc 38 (0, [(0, .ref 511), (1, .int (iI w)), (2, .int (iI e)), (3, .int (iI p)), (4, .int (iI j))], [], S) (fun v S' => v = some (.long (X_st (-2) (X_Ew G (X_T_ G) w e p j))) ∧ S' = S) := by
  obtain ⟨hb0, hb1, hb2, hb3, hb4, ⟨f, hb5, hf⟩, ⟨hrc, hrcb⟩, ⟨hkc, hkcb⟩, ⟨hwc, hwcb⟩⟩ := id hb
  have hgw := hG.2.2.2 w hw.1 hw.2
  have hsz := hgw.1
  refine X_QI (fun Q hQ => ?_)
  have J623 : X_T sc 38 (21, [(0, .ref 511), (1, .int (iI w)), (2, .int (iI e)), (3, .int (iI p)), (4, .int (iI j))], [.int (iI (bI (e = gD G w 3 0)))], S) Q := by
    refine T_p xr_38_21 xn_38 (pc' := 23) (ls' := [(5, .int (iI (bI (e = gD G w 3 0)))), (0, .ref 511), (1, .int (iI w)), (2, .int (iI e)), (3, .int (iI p)), (4, .int (iI j))]) (st' := []) rfl ?_
    refine T_p xr_38_23 xn_38 (pc' := 24) (ls' := [(5, .int (iI (bI (e = gD G w 3 0)))), (0, .ref 511), (1, .int (iI w)), (2, .int (iI e)), (3, .int (iI p)), (4, .int (iI j))]) (st' := [.int (iI p)]) rfl ?_
    refine T_p xr_38_24 xn_38 (pc' := 26) (ls' := [(5, .int (iI (bI (e = gD G w 3 0)))), (0, .ref 511), (1, .int (iI w)), (2, .int (iI e)), (3, .int (iI p)), (4, .int (iI j))]) (st' := [.int (iI j), .int (iI p)]) rfl ?_
    refine T_zicmp_ne xr_38_26 (t := 40) (pc' := 29) rfl rfl (fun c624 => ?_) (fun c624 => ?_)
    · skip
      have c624 : ¬ p = j := c624
      refine T_p xr_38_40 xn_38 (pc' := 42) (ls' := [(5, .int (iI (bI (e = gD G w 3 0)))), (0, .ref 511), (1, .int (iI w)), (2, .int (iI e)), (3, .int (iI p)), (4, .int (iI j))]) (st' := [.int (iI (bI (e = gD G w 3 0)))]) rfl ?_
      refine T_bif_eq xr_38_42 (t := 49) (pc' := 45) rfl rfl (fun c625 => ?_) (fun c625 => ?_)
      · skip
        have c625 : ¬ (e = gD G w 3 0) := c625
        refine T_p xr_38_49 xn_38 (pc' := 50) (ls' := [(5, .int (iI (bI (e = gD G w 3 0)))), (0, .ref 511), (1, .int (iI w)), (2, .int (iI e)), (3, .int (iI p)), (4, .int (iI j))]) (st' := [.ref 511]) rfl ?_
        refine T_get xr_38_50 hO511 rfl (v := .ref 516) rfl (pc' := 53) rfl ?_
        refine T_p xr_38_53 xn_38 (pc' := 54) (ls' := [(5, .int (iI (bI (e = gD G w 3 0)))), (0, .ref 511), (1, .int (iI w)), (2, .int (iI e)), (3, .int (iI p)), (4, .int (iI j))]) (st' := [.int (iI w), .ref 516]) rfl ?_
        refine T_p xr_38_54 xn_38 (pc' := 55) (ls' := [(5, .int (iI (bI (e = gD G w 3 0)))), (0, .ref 511), (1, .int (iI w)), (2, .int (iI e)), (3, .int (iI p)), (4, .int (iI j))]) (st' := [.int (iI e), .int (iI w), .ref 516]) rfl ?_
        refine T_p xr_38_55 xn_38 (pc' := 56) (ls' := [(5, .int (iI (bI (e = gD G w 3 0)))), (0, .ref 511), (1, .int (iI w)), (2, .int (iI e)), (3, .int (iI p)), (4, .int (iI j))]) (st' := [.int (iI p), .int (iI e), .int (iI w), .ref 516]) rfl ?_
        refine T_cs xr_38_56 (by decide) xf_25.1 xn_25 (as := [.int (iI w), .int (iI e), .int (iI p)]) (r := [.ref 516]) rfl (Nat.le_of_ble_eq_true rfl) (Nat.le_of_ble_eq_true rfl) (pc' := 59) rfl (ls' := [(0, .int (iI w)), (1, .int (iI e)), (2, .int (iI p))]) rfl ?_
        refine T_p xr_25_0 xn_25 (pc' := 1) (ls' := [(0, .int (iI w)), (1, .int (iI e)), (2, .int (iI p))]) (st' := [.int (iI w)]) rfl ?_
        refine T_p xr_25_1 xn_25 (pc' := 3) (ls' := [(0, .int (iI w)), (1, .int (iI e)), (2, .int (iI p))]) (st' := [.int (iI 8), .int (iI w)]) rfl ?_
        refine T_zimul xr_25_3 (z := w * 8) rfl (pc' := 4) rfl ?_
        refine T_p xr_25_4 xn_25 (pc' := 5) (ls' := [(0, .int (iI w)), (1, .int (iI e)), (2, .int (iI p))]) (st' := [.int (iI e), .int (iI (w * 8))]) rfl ?_
        refine T_ziadd xr_25_5 (z := (w * 8) + e) rfl (pc' := 6) rfl ?_
        refine T_p xr_25_6 xn_25 (pc' := 8) (ls' := [(0, .int (iI w)), (1, .int (iI e)), (2, .int (iI p))]) (st' := [.int (iI 30), .int (iI ((w * 8) + e))]) rfl ?_
        refine T_zimul xr_25_8 (z := ((w * 8) + e) * 30) rfl (pc' := 9) rfl ?_
        refine T_p xr_25_9 xn_25 (pc' := 10) (ls' := [(0, .int (iI w)), (1, .int (iI e)), (2, .int (iI p))]) (st' := [.int (iI p), .int (iI (((w * 8) + e) * 30))]) rfl ?_
        refine T_ziadd xr_25_10 (z := (((w * 8) + e) * 30) + p) rfl (pc' := 11) rfl ?_
        refine T_iret xr_25_11 xf_25.2.2 rfl ?_
        show X_T sc 38 (59, [(5, .int (iI (bI (e = gD G w 3 0)))), (0, .ref 511), (1, .int (iI w)), (2, .int (iI e)), (3, .int (iI p)), (4, .int (iI j))], [.int (iI ((((w * 8) + e) * 30) + p)), .ref 516], S) _
        refine T_zlald xr_38_59 hA516 (pc' := 60) rfl ?_
        refine T_lret xr_38_60 xf_38.2.2 rfl ?_
        refine hQ _ _ ?_
        exact ⟨by rw [ht (by omega) (by omega)], rfl⟩
      · skip
        have c625 : (e = gD G w 3 0) := c625
        refine T_p xr_38_45 xn_38 (pc' := 46) (ls' := [(5, .int (iI (bI (e = gD G w 3 0)))), (0, .ref 511), (1, .int (iI w)), (2, .int (iI e)), (3, .int (iI p)), (4, .int (iI j))]) (st' := [.long (iL 0)]) rfl ?_
        refine T_p xr_38_46 xn_38 (pc' := 60) (ls' := [(5, .int (iI (bI (e = gD G w 3 0)))), (0, .ref 511), (1, .int (iI w)), (2, .int (iI e)), (3, .int (iI p)), (4, .int (iI j))]) (st' := [.long (iL 0)]) rfl ?_
        refine T_lret xr_38_60 xf_38.2.2 rfl ?_
        refine hQ _ _ ?_
        exact ⟨by first | (rw [X_Ew_e (by omega), if_neg (by omega)]; rfl) | (rw [X_Ew_0 (by omega)]; rfl), rfl⟩
    · skip
      have c624 : ¬ (¬ p = j) := c624
      refine T_p xr_38_29 xn_38 (pc' := 31) (ls' := [(5, .int (iI (bI (e = gD G w 3 0)))), (0, .ref 511), (1, .int (iI w)), (2, .int (iI e)), (3, .int (iI p)), (4, .int (iI j))]) (st' := [.int (iI (bI (e = gD G w 3 0)))]) rfl ?_
      refine T_bif_eq xr_38_31 (t := 38) (pc' := 34) rfl rfl (fun c626 => ?_) (fun c626 => ?_)
      · skip
        have c626 : ¬ (e = gD G w 3 0) := c626
        refine T_p xr_38_38 xn_38 (pc' := 39) (ls' := [(5, .int (iI (bI (e = gD G w 3 0)))), (0, .ref 511), (1, .int (iI w)), (2, .int (iI e)), (3, .int (iI p)), (4, .int (iI j))]) (st' := [.long (iL 0)]) rfl ?_
        refine T_lret xr_38_39 xf_38.2.2 rfl ?_
        refine hQ _ _ ?_
        exact ⟨by first | (rw [X_Ew_e (by omega), if_neg (by omega)]; rfl) | (rw [X_Ew_0 (by omega)]; rfl), rfl⟩
      · skip
        have c626 : (e = gD G w 3 0) := c626
        refine T_p xr_38_34 xn_38 (pc' := 35) (ls' := [(5, .int (iI (bI (e = gD G w 3 0)))), (0, .ref 511), (1, .int (iI w)), (2, .int (iI e)), (3, .int (iI p)), (4, .int (iI j))]) (st' := [.long (iL 1)]) rfl ?_
        refine T_p xr_38_35 xn_38 (pc' := 39) (ls' := [(5, .int (iI (bI (e = gD G w 3 0)))), (0, .ref 511), (1, .int (iI w)), (2, .int (iI e)), (3, .int (iI p)), (4, .int (iI j))]) (st' := [.long (iL 1)]) rfl ?_
        refine T_lret xr_38_39 xf_38.2.2 rfl ?_
        refine hQ _ _ ?_
        exact ⟨by rw [X_Ew_e (by omega), if_pos (by omega)]; rfl, rfl⟩
  refine T_p xr_38_0 xn_38 (pc' := 1) (ls' := [(0, .ref 511), (1, .int (iI w)), (2, .int (iI e)), (3, .int (iI p)), (4, .int (iI j))]) (st' := [.int (iI e)]) rfl ?_
  refine T_p xr_38_1 xn_38 (pc' := 2) (ls' := [(0, .ref 511), (1, .int (iI w)), (2, .int (iI e)), (3, .int (iI p)), (4, .int (iI j))]) (st' := [.ref 511, .int (iI e)]) rfl ?_
  refine T_get xr_38_2 hO511 rfl (v := .ref B) rfl (pc' := 5) rfl ?_
  refine T_get xr_38_5 hb0 rfl (v := .ref (B + 5)) rfl (pc' := 8) rfl ?_
  refine T_p xr_38_8 xn_38 (pc' := 9) (ls' := [(0, .ref 511), (1, .int (iI w)), (2, .int (iI e)), (3, .int (iI p)), (4, .int (iI j))]) (st' := [.int (iI w), .ref (B + 5), .int (iI e)]) rfl ?_
  have hw627 := hs w (by omega) (by omega)
  obtain ⟨a628, ha629⟩ : ∃ z : Nat, z = B + 6 + 8 * (w : Int).toNat := ⟨_, rfl⟩
  rw [← ha629] at hw627
  obtain ⟨⟨_, _⟩, ⟨_, _⟩, ⟨_, _⟩, ⟨_, _⟩, ⟨_, _⟩, ⟨_, _⟩, ⟨_, _⟩, ⟨_, _⟩⟩ := id hw627.2
  refine T_zaald xr_38_9 hb5 (w := a628) (by rw [ha629]; exact hf _ (by omega)) (pc' := 10) rfl ?_
  refine T_get xr_38_10 hw627.1.1 rfl (v := .int (iI ((gD G) w 3 0))) rfl (pc' := 13) rfl ?_
  refine T_zicmp_ne xr_38_13 (t := 20) (pc' := 16) rfl rfl (fun c630 => ?_) (fun c630 => ?_)
  · skip
    have c630 : ¬ e = ((gD G) w 3 0) := c630
    refine T_p xr_38_20 xn_38 (pc' := 21) (ls' := [(0, .ref 511), (1, .int (iI w)), (2, .int (iI e)), (3, .int (iI p)), (4, .int (iI j))]) (st' := [.int (iI 0)]) rfl ?_
    refine T_ie (y := iI (bI (e = gD G w 3 0))) (by rw [bI_f (by omega)]) ?_
    exact J623
  · skip
    have c630 : ¬ (¬ e = ((gD G) w 3 0)) := c630
    refine T_p xr_38_16 xn_38 (pc' := 17) (ls' := [(0, .ref 511), (1, .int (iI w)), (2, .int (iI e)), (3, .int (iI p)), (4, .int (iI j))]) (st' := [.int (iI 1)]) rfl ?_
    refine T_p xr_38_17 xn_38 (pc' := 21) (ls' := [(0, .ref 511), (1, .int (iI w)), (2, .int (iI e)), (3, .int (iI p)), (4, .int (iI j))]) (st' := [.int (iI 1)]) rfl ?_
    refine T_ie (y := iI (bI (e = gD G w 3 0))) (by rw [bI_t (by omega)]) ?_
    exact J623
theorem c_ways (sc : X_Sc) (S : X_S) (oH : Int → Int64) (tl : Int → Int64) (B : Nat) (rc : Int) (rn : Int → Int64) (kn : Int → Int64) (G : X_G) (tn : Int) (fl : Int) (w : Int) (e : Int) (i : Int) (j : Int) (hO501 : S.1 501 = .inr (6, [.int (iI tn), .ref 502, .ref 503])) (hO511 : S.1 511 = .inr (1, [.ref B, .ref 501, .int (iI fl), .ref 512, .ref 513, .ref 514, .ref 515, .ref 516])) (hA515 : S.1 515 = .inl (.long, 55800, .inr (.inl fun k : Nat => oH (k : Int)))) (hA516 : S.1 516 = .inl (.long, 7200, .inr (.inl fun k : Nat => tl (k : Int)))) (hB : B = 4 ∨ B = 250) (hb : C_bk S B rc (gk G) (gw G) rn (gl G) kn (ga G)) (hs : C_ws S B (gD G) (gW G)) (hG : X_Gok G) (hA502 : S.1 502 = .inl (.long, 30, .inr (.inl fun k : Nat => (gt G) (k : Int)))) (hw : 0 ≤ w ∧ w < gw G) (he : 0 ≤ e ∧ e < gD G w 3 0) (hij : 0 ≤ i ∧ i < j ∧ j ≤ tn ∧ tn ≤ 30) (ht : ∀ p, i < p → p < j → X_tl G (-2) w p j tl) (hH : gW G w e = 0 → ∀ m, i < m → m ≤ j → ¬ X_Ew G (X_T_ G) w (e + 1) m j = 0 → oH ((X_ro i m * 30 + w) * 4 + gD G w 8 e) = X_st (-2) (X_Hw G (X_T_ G) w e i m)) : X_T sc 37 (0, [(0, .ref 511), (1, .int (iI w)), (2, .int (iI e)), (3, .int (iI i)), (4, .int (iI j))], [], S) (fun v S' => v = some (.long (X_st (-2) (X_Ew G (X_T_ G) w e i j))) ∧ S' = S) := by
  obtain ⟨hb0, hb1, hb2, hb3, hb4, ⟨f, hb5, hf⟩, ⟨hrc, hrcb⟩, ⟨hkc, hkcb⟩, ⟨hwc, hwcb⟩⟩ := id hb
  have hgw := hG.2.2.2 w hw.1 hw.2
  have hsz := hgw.1
  have hho := hgw.2.1
  refine X_QI (fun Q hQ => ?_)
  refine T_p xr_37_0 xn_37 (pc' := 1) (ls' := [(0, .ref 511), (1, .int (iI w)), (2, .int (iI e)), (3, .int (iI i)), (4, .int (iI j))]) (st' := [.ref 511]) rfl ?_
  refine T_get xr_37_1 hO511 rfl (v := .ref B) rfl (pc' := 4) rfl ?_
  refine T_get xr_37_4 hb0 rfl (v := .ref (B + 5)) rfl (pc' := 7) rfl ?_
  refine T_p xr_37_7 xn_37 (pc' := 8) (ls' := [(0, .ref 511), (1, .int (iI w)), (2, .int (iI e)), (3, .int (iI i)), (4, .int (iI j))]) (st' := [.int (iI w), .ref (B + 5)]) rfl ?_
  have hwaw := hs w (by omega) (by omega)
  obtain ⟨aw, haaw⟩ : ∃ z : Nat, z = B + 6 + 8 * (w : Int).toNat := ⟨_, rfl⟩
  rw [← haaw] at hwaw
  obtain ⟨⟨_, _⟩, ⟨_, _⟩, ⟨_, _⟩, ⟨_, _⟩, ⟨_, _⟩, ⟨_, _⟩, ⟨_, _⟩, ⟨_, _⟩⟩ := id hwaw.2
  refine T_zaald xr_37_8 hb5 (w := aw) (by rw [haaw]; exact hf _ (by omega)) (pc' := 9) rfl ?_
  refine T_p xr_37_9 xn_37 (pc' := 11) (ls' := [(5, .ref aw), (0, .ref 511), (1, .int (iI w)), (2, .int (iI e)), (3, .int (iI i)), (4, .int (iI j))]) (st' := []) rfl ?_
  refine T_p xr_37_11 xn_37 (pc' := 13) (ls' := [(5, .ref aw), (0, .ref 511), (1, .int (iI w)), (2, .int (iI e)), (3, .int (iI i)), (4, .int (iI j))]) (st' := [.ref aw]) rfl ?_
  refine T_p xr_37_13 xn_37 (pc' := 14) (ls' := [(5, .ref aw), (0, .ref 511), (1, .int (iI w)), (2, .int (iI e)), (3, .int (iI i)), (4, .int (iI j))]) (st' := [.int (iI e), .ref aw]) rfl ?_
  refine T_cv (S := S) (q := aw) xr_37_14 xf_100.1 xf_100.2.1 xn_100 (as := [.int (iI e)]) (r := []) rfl hwaw.1.1 (Nat.le_of_ble_eq_true rfl) (Nat.le_of_ble_eq_true rfl) (pc' := 17) rfl (ls' := [(0, .ref aw), (1, .int (iI e))]) rfl ?_
  refine T_mono (c_isHole sc S aw ((gD G) w) ((gW G) w) e ⟨hwaw.1.1, hwaw.1.2.1, hwaw.1.2.2.1, hwaw.1.2.2.2.1, hwaw.1.2.2.2.2.1, hwaw.1.2.2.2.2.2.1, hwaw.1.2.2.2.2.2.2.1, hwaw.1.2.2.2.2.2.2.2⟩ hwaw.2 (by omega)) (fun v635 S636 h634 => ?_)
  obtain ⟨h637, h638⟩ := h634
  rw [h637, h638]
  show X_T sc 37 (17, [(5, .ref aw), (0, .ref 511), (1, .int (iI w)), (2, .int (iI e)), (3, .int (iI i)), (4, .int (iI j))], [.int (iI (bI (X_hl ((gD G) w) ((gW G) w) e)))], S) _
  refine T_bif_ne xr_37_17 (t := 70) (pc' := 20) rfl rfl (fun c639 => ?_) (fun c639 => ?_)
  · skip
    have c639 : (X_hl ((gD G) w) ((gW G) w) e) := c639
    have hq0 : gW G w e = 0 := (show X_hl (gD G w) (gW G w) e by assumption).2.2
    have hh8 := hgw.hole he.1 he.2 hq0
    refine T_p xr_37_70 xn_37 (pc' := 72) (ls' := [(5, .ref aw), (0, .ref 511), (1, .int (iI w)), (2, .int (iI e)), (3, .int (iI i)), (4, .int (iI j))]) (st' := [.ref aw]) rfl ?_
    refine T_get xr_37_72 hwaw.1.1 rfl (v := .ref (aw + 2)) rfl (pc' := 75) rfl ?_
    refine T_p xr_37_75 xn_37 (pc' := 76) (ls' := [(5, .ref aw), (0, .ref 511), (1, .int (iI w)), (2, .int (iI e)), (3, .int (iI i)), (4, .int (iI j))]) (st' := [.int (iI e), .ref (aw + 2)]) rfl ?_
    refine T_ziald xr_37_76 hwaw.1.2.2.1 (pc' := 77) rfl ?_
    refine T_p xr_37_77 xn_37 (pc' := 79) (ls' := [(6, .int (iI (((gD G) w 8) e))), (5, .ref aw), (0, .ref 511), (1, .int (iI w)), (2, .int (iI e)), (3, .int (iI i)), (4, .int (iI j))]) (st' := []) rfl ?_
    refine T_p xr_37_79 xn_37 (pc' := 80) (ls' := [(6, .int (iI (((gD G) w 8) e))), (5, .ref aw), (0, .ref 511), (1, .int (iI w)), (2, .int (iI e)), (3, .int (iI i)), (4, .int (iI j))]) (st' := [.long (iL 0)]) rfl ?_
    refine T_p xr_37_80 xn_37 (pc' := 82) (ls' := [(7, .long (iL 0)), (6, .int (iI (((gD G) w 8) e))), (5, .ref aw), (0, .ref 511), (1, .int (iI w)), (2, .int (iI e)), (3, .int (iI i)), (4, .int (iI j))]) (st' := []) rfl ?_
    refine T_p xr_37_82 xn_37 (pc' := 83) (ls' := [(7, .long (iL 0)), (6, .int (iI (((gD G) w 8) e))), (5, .ref aw), (0, .ref 511), (1, .int (iI w)), (2, .int (iI e)), (3, .int (iI i)), (4, .int (iI j))]) (st' := [.int (iI i)]) rfl ?_
    refine T_p xr_37_83 xn_37 (pc' := 84) (ls' := [(7, .long (iL 0)), (6, .int (iI (((gD G) w 8) e))), (5, .ref aw), (0, .ref 511), (1, .int (iI w)), (2, .int (iI e)), (3, .int (iI i)), (4, .int (iI j))]) (st' := [.int (iI 1), .int (iI i)]) rfl ?_
    refine T_ziadd xr_37_84 (z := i + 1) rfl (pc' := 85) rfl ?_
    refine T_p xr_37_85 xn_37 (pc' := 87) (ls' := [(9, .int (iI (i + 1))), (7, .long (iL 0)), (6, .int (iI (((gD G) w 8) e))), (5, .ref aw), (0, .ref 511), (1, .int (iI w)), (2, .int (iI e)), (3, .int (iI i)), (4, .int (iI j))]) (st' := []) rfl ?_
    have L640 : ∀ (m642 : Nat) (m : Int) (su : Nat) (hm : i + 1 ≤ m ∧ m ≤ j + 1) (hsu : su = X_Su (fun q => X_Hw G (X_T_ G) w e i q * X_Ew G (X_T_ G) w (e + 1) q j) (i + 1) m) (hm643 : j + 1 - m < m642), X_T sc 37 (87, [(9, .int (iI m)), (7, .long (X_st (-2) su)), (6, .int (iI ((gD G w 8) e))), (0, .ref 511), (1, .int (iI w)), (2, .int (iI e)), (3, .int (iI i)), (4, .int (iI j))], [], S) Q := by
      intro m642
      induction m642 with
      | zero =>
        intro m su hm hsu hm643
        exact (show False by omega).elim
      | succ m642 ih641 =>
        intro m su hm hsu hm643
        refine T_p xr_37_87 xn_37 (pc' := 89) (ls' := [(9, .int (iI m)), (7, .long (X_st (-2) su)), (6, .int (iI ((gD G w 8) e))), (0, .ref 511), (1, .int (iI w)), (2, .int (iI e)), (3, .int (iI i)), (4, .int (iI j))]) (st' := [.int (iI m)]) rfl ?_
        refine T_p xr_37_89 xn_37 (pc' := 91) (ls' := [(9, .int (iI m)), (7, .long (X_st (-2) su)), (6, .int (iI ((gD G w 8) e))), (0, .ref 511), (1, .int (iI w)), (2, .int (iI e)), (3, .int (iI i)), (4, .int (iI j))]) (st' := [.int (iI j), .int (iI m)]) rfl ?_
        refine T_zicmp_gt xr_37_91 (t := 143) (pc' := 94) rfl rfl (fun c645 => ?_) (fun c645 => ?_)
        · skip
          have c645 : j < m := c645
          refine T_p xr_37_143 xn_37 (pc' := 145) (ls' := [(9, .int (iI m)), (7, .long (X_st (-2) su)), (6, .int (iI ((gD G w 8) e))), (0, .ref 511), (1, .int (iI w)), (2, .int (iI e)), (3, .int (iI i)), (4, .int (iI j))]) (st' := [.long (X_st (-2) su)]) rfl ?_
          refine T_lret xr_37_145 xf_37.2.2 rfl ?_
          refine hQ _ _ ?_
          exact ⟨by rw [X_Ew_h he.2 hq0, hsu, show m = j + 1 by omega], rfl⟩
        · skip
          have c645 : ¬ (j < m) := c645
          refine T_p xr_37_94 xn_37 (pc' := 95) (ls' := [(9, .int (iI m)), (7, .long (X_st (-2) su)), (6, .int (iI ((gD G w 8) e))), (0, .ref 511), (1, .int (iI w)), (2, .int (iI e)), (3, .int (iI i)), (4, .int (iI j))]) (st' := [.ref 511]) rfl ?_
          refine T_p xr_37_95 xn_37 (pc' := 96) (ls' := [(9, .int (iI m)), (7, .long (X_st (-2) su)), (6, .int (iI ((gD G w 8) e))), (0, .ref 511), (1, .int (iI w)), (2, .int (iI e)), (3, .int (iI i)), (4, .int (iI j))]) (st' := [.int (iI w), .ref 511]) rfl ?_
          refine T_p xr_37_96 xn_37 (pc' := 97) (ls' := [(9, .int (iI m)), (7, .long (X_st (-2) su)), (6, .int (iI ((gD G w 8) e))), (0, .ref 511), (1, .int (iI w)), (2, .int (iI e)), (3, .int (iI i)), (4, .int (iI j))]) (st' := [.int (iI e), .int (iI w), .ref 511]) rfl ?_
          refine T_p xr_37_97 xn_37 (pc' := 98) (ls' := [(9, .int (iI m)), (7, .long (X_st (-2) su)), (6, .int (iI ((gD G w 8) e))), (0, .ref 511), (1, .int (iI w)), (2, .int (iI e)), (3, .int (iI i)), (4, .int (iI j))]) (st' := [.int (iI 1), .int (iI e), .int (iI w), .ref 511]) rfl ?_
          refine T_ziadd xr_37_98 (z := e + 1) rfl (pc' := 99) rfl ?_
          refine T_p xr_37_99 xn_37 (pc' := 101) (ls' := [(9, .int (iI m)), (7, .long (X_st (-2) su)), (6, .int (iI ((gD G w 8) e))), (0, .ref 511), (1, .int (iI w)), (2, .int (iI e)), (3, .int (iI i)), (4, .int (iI j))]) (st' := [.int (iI m), .int (iI (e + 1)), .int (iI w), .ref 511]) rfl ?_
          refine T_p xr_37_101 xn_37 (pc' := 103) (ls' := [(9, .int (iI m)), (7, .long (X_st (-2) su)), (6, .int (iI ((gD G w 8) e))), (0, .ref 511), (1, .int (iI w)), (2, .int (iI e)), (3, .int (iI i)), (4, .int (iI j))]) (st' := [.int (iI j), .int (iI m), .int (iI (e + 1)), .int (iI w), .ref 511]) rfl ?_
          refine T_cv (S := S) (q := 511) xr_37_103 xf_38.1 xf_38.2.1 xn_38 (as := [.int (iI w), .int (iI (e + 1)), .int (iI m), .int (iI j)]) (r := []) rfl hO511 (Nat.le_of_ble_eq_true rfl) (Nat.le_of_ble_eq_true rfl) (pc' := 106) rfl (ls' := [(0, .ref 511), (1, .int (iI w)), (2, .int (iI (e + 1))), (3, .int (iI m)), (4, .int (iI j))]) rfl ?_
          refine T_mono (c_tail sc S tl B rc rn kn G tn fl w (e + 1) m j hO511 hA516 hB ⟨hb0, hb1, hb2, hb3, hb4, ⟨f, hb5, hf⟩, ⟨by omega, by omega⟩, ⟨by omega, by omega⟩, ⟨by omega, by omega⟩⟩ hs hG (by omega) (by omega) (by omega) (fun z1 z2 => ht _ (by omega) z1 _ (by omega) z2)) (fun v646 S647 h648 => ?_)
          rcases h648 with ⟨hv649, hf650⟩
          rw [hv649]
          rw [hf650]
          show X_T sc 37 (106, [(9, .int (iI m)), (7, .long (X_st (-2) su)), (6, .int (iI ((gD G w 8) e))), (0, .ref 511), (1, .int (iI w)), (2, .int (iI e)), (3, .int (iI i)), (4, .int (iI j))], [.long (X_st (-2) (X_Ew G (X_T_ G) w (e + 1) m j))], S) _
          refine T_p xr_37_106 xn_37 (pc' := 108) (ls' := [(10, .long (X_st (-2) (X_Ew G (X_T_ G) w (e + 1) m j))), (9, .int (iI m)), (7, .long (X_st (-2) su)), (6, .int (iI ((gD G w 8) e))), (0, .ref 511), (1, .int (iI w)), (2, .int (iI e)), (3, .int (iI i)), (4, .int (iI j))]) (st' := []) rfl ?_
          refine T_p xr_37_108 xn_37 (pc' := 110) (ls' := [(10, .long (X_st (-2) (X_Ew G (X_T_ G) w (e + 1) m j))), (9, .int (iI m)), (7, .long (X_st (-2) su)), (6, .int (iI ((gD G w 8) e))), (0, .ref 511), (1, .int (iI w)), (2, .int (iI e)), (3, .int (iI i)), (4, .int (iI j))]) (st' := [.long (X_st (-2) (X_Ew G (X_T_ G) w (e + 1) m j))]) rfl ?_
          refine T_p xr_37_110 xn_37 (pc' := 111) (ls' := [(10, .long (X_st (-2) (X_Ew G (X_T_ G) w (e + 1) m j))), (9, .int (iI m)), (7, .long (X_st (-2) su)), (6, .int (iI ((gD G w 8) e))), (0, .ref 511), (1, .int (iI w)), (2, .int (iI e)), (3, .int (iI i)), (4, .int (iI j))]) (st' := [.long (iL 0), .long (X_st (-2) (X_Ew G (X_T_ G) w (e + 1) m j))]) rfl ?_
          refine T_lc_eq xr_37_111 xr_37_112 (t := 137) (pc' := 115) rfl rfl (fun c651 => ?_) (fun c651 => ?_)
          · skip
            have c651 : (X_st (-2) (X_Ew G (X_T_ G) w (e + 1) m j)) = (iL 0) := c651
            refine T_ziinc xr_37_137 xn_37 (a := m) (z := m + 1) rfl (Nat.le_of_ble_eq_true rfl) (by omega) (ls' := [(9, .int (iI (m + 1))), (10, .long (X_st (-2) (X_Ew G (X_T_ G) w (e + 1) m j))), (7, .long (X_st (-2) su)), (6, .int (iI ((gD G w 8) e))), (0, .ref 511), (1, .int (iI w)), (2, .int (iI e)), (3, .int (iI i)), (4, .int (iI j))]) rfl (pc' := 140) rfl ?_
            refine T_p xr_37_140 xn_37 (pc' := 87) (ls' := [(9, .int (iI (m + 1))), (10, .long (X_st (-2) (X_Ew G (X_T_ G) w (e + 1) m j))), (7, .long (X_st (-2) su)), (6, .int (iI ((gD G w 8) e))), (0, .ref 511), (1, .int (iI w)), (2, .int (iI e)), (3, .int (iI i)), (4, .int (iI j))]) (st' := []) rfl ?_
            refine T_sub (ls := [(9, .int (iI (m + 1))), (7, .long (X_st (-2) su)), (6, .int (iI ((gD G w 8) e))), (0, .ref 511), (1, .int (iI w)), (2, .int (iI e)), (3, .int (iI i)), (4, .int (iI j))]) ⟨rfl, rfl, rfl, rfl, rfl, rfl, rfl, rfl, trivial⟩ rfl rfl ?_
            exact ih641 (m + 1) su  (by omega) (by rw [X_Su_s (by omega), ← hsu]; show su = su + X_Hw G (X_T_ G) w e i m * X_Ew G (X_T_ G) w (e + 1) m j; rw [show X_Ew G (X_T_ G) w (e + 1) m j = 0 from (X_st_z (m := -2) (by omega)).mp (by assumption), Nat.mul_zero]; rfl) (by omega)
          · skip
            have c651 : ¬ ((X_st (-2) (X_Ew G (X_T_ G) w (e + 1) m j)) = (iL 0)) := c651
            refine T_p xr_37_115 xn_37 (pc' := 117) (ls' := [(10, .long (X_st (-2) (X_Ew G (X_T_ G) w (e + 1) m j))), (9, .int (iI m)), (7, .long (X_st (-2) su)), (6, .int (iI ((gD G w 8) e))), (0, .ref 511), (1, .int (iI w)), (2, .int (iI e)), (3, .int (iI i)), (4, .int (iI j))]) (st' := [.long (X_st (-2) su)]) rfl ?_
            refine T_p xr_37_117 xn_37 (pc' := 118) (ls' := [(10, .long (X_st (-2) (X_Ew G (X_T_ G) w (e + 1) m j))), (9, .int (iI m)), (7, .long (X_st (-2) su)), (6, .int (iI ((gD G w 8) e))), (0, .ref 511), (1, .int (iI w)), (2, .int (iI e)), (3, .int (iI i)), (4, .int (iI j))]) (st' := [.ref 511, .long (X_st (-2) su)]) rfl ?_
            refine T_p xr_37_118 xn_37 (pc' := 119) (ls' := [(10, .long (X_st (-2) (X_Ew G (X_T_ G) w (e + 1) m j))), (9, .int (iI m)), (7, .long (X_st (-2) su)), (6, .int (iI ((gD G w 8) e))), (0, .ref 511), (1, .int (iI w)), (2, .int (iI e)), (3, .int (iI i)), (4, .int (iI j))]) (st' := [.int (iI i), .ref 511, .long (X_st (-2) su)]) rfl ?_
            refine T_p xr_37_119 xn_37 (pc' := 121) (ls' := [(10, .long (X_st (-2) (X_Ew G (X_T_ G) w (e + 1) m j))), (9, .int (iI m)), (7, .long (X_st (-2) su)), (6, .int (iI ((gD G w 8) e))), (0, .ref 511), (1, .int (iI w)), (2, .int (iI e)), (3, .int (iI i)), (4, .int (iI j))]) (st' := [.int (iI m), .int (iI i), .ref 511, .long (X_st (-2) su)]) rfl ?_
            refine T_p xr_37_121 xn_37 (pc' := 122) (ls' := [(10, .long (X_st (-2) (X_Ew G (X_T_ G) w (e + 1) m j))), (9, .int (iI m)), (7, .long (X_st (-2) su)), (6, .int (iI ((gD G w 8) e))), (0, .ref 511), (1, .int (iI w)), (2, .int (iI e)), (3, .int (iI i)), (4, .int (iI j))]) (st' := [.int (iI w), .int (iI m), .int (iI i), .ref 511, .long (X_st (-2) su)]) rfl ?_
            refine T_p xr_37_122 xn_37 (pc' := 124) (ls' := [(10, .long (X_st (-2) (X_Ew G (X_T_ G) w (e + 1) m j))), (9, .int (iI m)), (7, .long (X_st (-2) su)), (6, .int (iI ((gD G w 8) e))), (0, .ref 511), (1, .int (iI w)), (2, .int (iI e)), (3, .int (iI i)), (4, .int (iI j))]) (st' := [.int (iI ((gD G w 8) e)), .int (iI w), .int (iI m), .int (iI i), .ref 511, .long (X_st (-2) su)]) rfl ?_
            refine T_cv (S := S) (q := 511) xr_37_124 xf_27.1 xf_27.2.1 xn_27 (as := [.int (iI i), .int (iI m), .int (iI w), .int (iI ((gD G w 8) e))]) (r := [.long (X_st (-2) su)]) rfl hO511 (Nat.le_of_ble_eq_true rfl) (Nat.le_of_ble_eq_true rfl) (pc' := 127) rfl (ls' := [(0, .ref 511), (1, .int (iI i)), (2, .int (iI m)), (3, .int (iI w)), (4, .int (iI ((gD G w 8) e)))]) rfl ?_
            refine T_p xr_27_0 xn_27 (pc' := 1) (ls' := [(0, .ref 511), (1, .int (iI i)), (2, .int (iI m)), (3, .int (iI w)), (4, .int (iI ((gD G w 8) e)))]) (st' := [.ref 511]) rfl ?_
            refine T_get xr_27_1 hO511 rfl (v := .ref 515) rfl (pc' := 4) rfl ?_
            refine T_p xr_27_4 xn_27 (pc' := 5) (ls' := [(0, .ref 511), (1, .int (iI i)), (2, .int (iI m)), (3, .int (iI w)), (4, .int (iI ((gD G w 8) e)))]) (st' := [.int (iI i), .ref 515]) rfl ?_
            refine T_p xr_27_5 xn_27 (pc' := 6) (ls' := [(0, .ref 511), (1, .int (iI i)), (2, .int (iI m)), (3, .int (iI w)), (4, .int (iI ((gD G w 8) e)))]) (st' := [.int (iI m), .int (iI i), .ref 515]) rfl ?_
            refine T_cs xr_27_6 (by decide) xf_24.1 xn_24 (as := [.int (iI i), .int (iI m)]) (r := [.ref 515]) rfl (Nat.le_of_ble_eq_true rfl) (Nat.le_of_ble_eq_true rfl) (pc' := 9) rfl (ls' := [(0, .int (iI i)), (1, .int (iI m))]) rfl ?_
            refine T_mono (c_rowOf sc S i m (by omega)) (fun v652 S653 h654 => ?_)
            rcases h654 with ⟨hv655, hf656⟩
            rw [hv655]
            rw [hf656]
            have hr657 := X_ro_r (i := i) (j := m) (by omega) (by omega) (by omega)
            show X_T sc 27 (9, [(0, .ref 511), (1, .int (iI i)), (2, .int (iI m)), (3, .int (iI w)), (4, .int (iI ((gD G w 8) e)))], [.int (iI (X_ro i m)), .ref 515], S) _
            refine T_p xr_27_9 xn_27 (pc' := 11) (ls' := [(0, .ref 511), (1, .int (iI i)), (2, .int (iI m)), (3, .int (iI w)), (4, .int (iI ((gD G w 8) e)))]) (st' := [.int (iI 30), .int (iI (X_ro i m)), .ref 515]) rfl ?_
            refine T_zimul xr_27_11 (z := (X_ro i m) * 30) rfl (pc' := 12) rfl ?_
            refine T_p xr_27_12 xn_27 (pc' := 13) (ls' := [(0, .ref 511), (1, .int (iI i)), (2, .int (iI m)), (3, .int (iI w)), (4, .int (iI ((gD G w 8) e)))]) (st' := [.int (iI w), .int (iI ((X_ro i m) * 30)), .ref 515]) rfl ?_
            refine T_ziadd xr_27_13 (z := ((X_ro i m) * 30) + w) rfl (pc' := 14) rfl ?_
            refine T_p xr_27_14 xn_27 (pc' := 15) (ls' := [(0, .ref 511), (1, .int (iI i)), (2, .int (iI m)), (3, .int (iI w)), (4, .int (iI ((gD G w 8) e)))]) (st' := [.int (iI 4), .int (iI (((X_ro i m) * 30) + w)), .ref 515]) rfl ?_
            refine T_zimul xr_27_15 (z := (((X_ro i m) * 30) + w) * 4) rfl (pc' := 16) rfl ?_
            refine T_p xr_27_16 xn_27 (pc' := 18) (ls' := [(0, .ref 511), (1, .int (iI i)), (2, .int (iI m)), (3, .int (iI w)), (4, .int (iI ((gD G w 8) e)))]) (st' := [.int (iI ((gD G w 8) e)), .int (iI ((((X_ro i m) * 30) + w) * 4)), .ref 515]) rfl ?_
            refine T_ziadd xr_27_18 (z := ((((X_ro i m) * 30) + w) * 4) + ((gD G w 8) e)) rfl (pc' := 19) rfl ?_
            refine T_zlald xr_27_19 hA515 (pc' := 20) rfl ?_
            refine T_le (y := (X_st (-2) (X_Hw G (X_T_ G) w e i m))) (hH hq0 m (by omega) (by omega) (fun z => absurd ((X_st_z (m := -2) (by omega)).mpr z) (by assumption))) ?_
            refine T_lret xr_27_20 xf_27.2.2 rfl ?_
            show X_T sc 37 (127, [(10, .long (X_st (-2) (X_Ew G (X_T_ G) w (e + 1) m j))), (9, .int (iI m)), (7, .long (X_st (-2) su)), (6, .int (iI ((gD G w 8) e))), (0, .ref 511), (1, .int (iI w)), (2, .int (iI e)), (3, .int (iI i)), (4, .int (iI j))], [.long (X_st (-2) (X_Hw G (X_T_ G) w e i m)), .long (X_st (-2) su)], S) _
            refine T_p xr_37_127 xn_37 (pc' := 129) (ls' := [(10, .long (X_st (-2) (X_Ew G (X_T_ G) w (e + 1) m j))), (9, .int (iI m)), (7, .long (X_st (-2) su)), (6, .int (iI ((gD G w 8) e))), (0, .ref 511), (1, .int (iI w)), (2, .int (iI e)), (3, .int (iI i)), (4, .int (iI j))]) (st' := [.long (X_st (-2) (X_Ew G (X_T_ G) w (e + 1) m j)), .long (X_st (-2) (X_Hw G (X_T_ G) w e i m)), .long (X_st (-2) su)]) rfl ?_
            refine T_cs xr_37_129 (by decide) xf_135.1 xn_135 (as := [.long (X_st (-2) (X_Hw G (X_T_ G) w e i m)), .long (X_st (-2) (X_Ew G (X_T_ G) w (e + 1) m j))]) (r := [.long (X_st (-2) su)]) rfl (Nat.le_of_ble_eq_true rfl) (Nat.le_of_ble_eq_true rfl) (pc' := 132) rfl (ls' := [(0, .long (X_st (-2) (X_Hw G (X_T_ G) w e i m))), (2, .long (X_st (-2) (X_Ew G (X_T_ G) w (e + 1) m j)))]) rfl ?_
            refine T_mono (c_times sc S (X_Hw G (X_T_ G) w e i m) (X_Ew G (X_T_ G) w (e + 1) m j)) (fun v658 S659 h660 => ?_)
            rcases h660 with ⟨hv661, hf662⟩
            rw [hv661]
            rw [hf662]
            show X_T sc 37 (132, [(10, .long (X_st (-2) (X_Ew G (X_T_ G) w (e + 1) m j))), (9, .int (iI m)), (7, .long (X_st (-2) su)), (6, .int (iI ((gD G w 8) e))), (0, .ref 511), (1, .int (iI w)), (2, .int (iI e)), (3, .int (iI i)), (4, .int (iI j))], [.long (X_st (-2) ((X_Hw G (X_T_ G) w e i m) * (X_Ew G (X_T_ G) w (e + 1) m j))), .long (X_st (-2) su)], S) _
            refine T_cs xr_37_132 (by decide) xf_134.1 xn_134 (as := [.long (X_st (-2) su), .long (X_st (-2) ((X_Hw G (X_T_ G) w e i m) * (X_Ew G (X_T_ G) w (e + 1) m j)))]) (r := []) rfl (Nat.le_of_ble_eq_true rfl) (Nat.le_of_ble_eq_true rfl) (pc' := 135) rfl (ls' := [(0, .long (X_st (-2) su)), (2, .long (X_st (-2) ((X_Hw G (X_T_ G) w e i m) * (X_Ew G (X_T_ G) w (e + 1) m j))))]) rfl ?_
            refine T_mono (c_plus sc S su ((X_Hw G (X_T_ G) w e i m) * (X_Ew G (X_T_ G) w (e + 1) m j))) (fun v663 S664 h665 => ?_)
            rcases h665 with ⟨hv666, hf667⟩
            rw [hv666]
            rw [hf667]
            show X_T sc 37 (135, [(10, .long (X_st (-2) (X_Ew G (X_T_ G) w (e + 1) m j))), (9, .int (iI m)), (7, .long (X_st (-2) su)), (6, .int (iI ((gD G w 8) e))), (0, .ref 511), (1, .int (iI w)), (2, .int (iI e)), (3, .int (iI i)), (4, .int (iI j))], [.long (X_st (-2) (su + ((X_Hw G (X_T_ G) w e i m) * (X_Ew G (X_T_ G) w (e + 1) m j))))], S) _
            refine T_p xr_37_135 xn_37 (pc' := 137) (ls' := [(7, .long (X_st (-2) (su + ((X_Hw G (X_T_ G) w e i m) * (X_Ew G (X_T_ G) w (e + 1) m j))))), (10, .long (X_st (-2) (X_Ew G (X_T_ G) w (e + 1) m j))), (9, .int (iI m)), (6, .int (iI ((gD G w 8) e))), (0, .ref 511), (1, .int (iI w)), (2, .int (iI e)), (3, .int (iI i)), (4, .int (iI j))]) (st' := []) rfl ?_
            refine T_ziinc xr_37_137 xn_37 (a := m) (z := m + 1) rfl (Nat.le_of_ble_eq_true rfl) (by omega) (ls' := [(9, .int (iI (m + 1))), (7, .long (X_st (-2) (su + ((X_Hw G (X_T_ G) w e i m) * (X_Ew G (X_T_ G) w (e + 1) m j))))), (10, .long (X_st (-2) (X_Ew G (X_T_ G) w (e + 1) m j))), (6, .int (iI ((gD G w 8) e))), (0, .ref 511), (1, .int (iI w)), (2, .int (iI e)), (3, .int (iI i)), (4, .int (iI j))]) rfl (pc' := 140) rfl ?_
            refine T_p xr_37_140 xn_37 (pc' := 87) (ls' := [(9, .int (iI (m + 1))), (7, .long (X_st (-2) (su + ((X_Hw G (X_T_ G) w e i m) * (X_Ew G (X_T_ G) w (e + 1) m j))))), (10, .long (X_st (-2) (X_Ew G (X_T_ G) w (e + 1) m j))), (6, .int (iI ((gD G w 8) e))), (0, .ref 511), (1, .int (iI w)), (2, .int (iI e)), (3, .int (iI i)), (4, .int (iI j))]) (st' := []) rfl ?_
            refine T_sub (ls := [(9, .int (iI (m + 1))), (7, .long (X_st (-2) (su + ((X_Hw G (X_T_ G) w e i m) * (X_Ew G (X_T_ G) w (e + 1) m j))))), (6, .int (iI ((gD G w 8) e))), (0, .ref 511), (1, .int (iI w)), (2, .int (iI e)), (3, .int (iI i)), (4, .int (iI j))]) ⟨rfl, rfl, rfl, rfl, rfl, rfl, rfl, rfl, trivial⟩ rfl rfl ?_
            exact ih641 (m + 1) (su + ((X_Hw G (X_T_ G) w e i m) * (X_Ew G (X_T_ G) w (e + 1) m j)))  (by omega) (by rw [X_Su_s (by omega), ← hsu]) (by omega)
    refine T_sub (ls := [(9, .int (iI (i + 1))), (7, .long (iL 0)), (6, .int (iI (((gD G) w 8) e))), (0, .ref 511), (1, .int (iI w)), (2, .int (iI e)), (3, .int (iI i)), (4, .int (iI j))]) ⟨rfl, rfl, rfl, rfl, rfl, rfl, rfl, rfl, trivial⟩ rfl rfl ?_
    exact L640 ((j + 1) + 1).toNat (i + 1) 0  (by omega) (X_Su_e (Int.le_refl _)).symm (by omega)
  · skip
    have c639 : ¬ (X_hl ((gD G) w) ((gW G) w) e) := c639
    have J668 : X_T sc 37 (45, [(5, .ref aw), (0, .ref 511), (1, .int (iI w)), (2, .int (iI e)), (3, .int (iI i)), (4, .int (iI j))], [.int (iI (bI (gW G w e = gt G i)))], S) Q := by
      refine T_p xr_37_45 xn_37 (pc' := 47) (ls' := [(6, .int (iI (bI (gW G w e = gt G i)))), (5, .ref aw), (0, .ref 511), (1, .int (iI w)), (2, .int (iI e)), (3, .int (iI i)), (4, .int (iI j))]) (st' := []) rfl ?_
      refine T_p xr_37_47 xn_37 (pc' := 49) (ls' := [(6, .int (iI (bI (gW G w e = gt G i)))), (5, .ref aw), (0, .ref 511), (1, .int (iI w)), (2, .int (iI e)), (3, .int (iI i)), (4, .int (iI j))]) (st' := [.int (iI (bI (gW G w e = gt G i)))]) rfl ?_
      refine T_bif_eq xr_37_49 (t := 68) (pc' := 52) rfl rfl (fun c669 => ?_) (fun c669 => ?_)
      · skip
        have c669 : ¬ (gW G w e = gt G i) := c669
        refine T_p xr_37_68 xn_37 (pc' := 69) (ls' := [(6, .int (iI (bI (gW G w e = gt G i)))), (5, .ref aw), (0, .ref 511), (1, .int (iI w)), (2, .int (iI e)), (3, .int (iI i)), (4, .int (iI j))]) (st' := [.long (iL 0)]) rfl ?_
        refine T_lret xr_37_69 xf_37.2.2 rfl ?_
        refine hQ _ _ ?_
        exact ⟨by rw [X_Ew_p he.2 (fun z => absurd (show X_hl (gD G w) (gW G w) e from ⟨he.1, he.2, z⟩) (by assumption)), X_if_f (fun z => absurd z.2.symm (by assumption))]; rfl, rfl⟩
      · skip
        have c669 : (gW G w e = gt G i) := c669
        refine T_p xr_37_52 xn_37 (pc' := 53) (ls' := [(6, .int (iI (bI (gW G w e = gt G i)))), (5, .ref aw), (0, .ref 511), (1, .int (iI w)), (2, .int (iI e)), (3, .int (iI i)), (4, .int (iI j))]) (st' := [.ref 511]) rfl ?_
        refine T_p xr_37_53 xn_37 (pc' := 54) (ls' := [(6, .int (iI (bI (gW G w e = gt G i)))), (5, .ref aw), (0, .ref 511), (1, .int (iI w)), (2, .int (iI e)), (3, .int (iI i)), (4, .int (iI j))]) (st' := [.int (iI w), .ref 511]) rfl ?_
        refine T_p xr_37_54 xn_37 (pc' := 55) (ls' := [(6, .int (iI (bI (gW G w e = gt G i)))), (5, .ref aw), (0, .ref 511), (1, .int (iI w)), (2, .int (iI e)), (3, .int (iI i)), (4, .int (iI j))]) (st' := [.int (iI e), .int (iI w), .ref 511]) rfl ?_
        refine T_p xr_37_55 xn_37 (pc' := 56) (ls' := [(6, .int (iI (bI (gW G w e = gt G i)))), (5, .ref aw), (0, .ref 511), (1, .int (iI w)), (2, .int (iI e)), (3, .int (iI i)), (4, .int (iI j))]) (st' := [.int (iI 1), .int (iI e), .int (iI w), .ref 511]) rfl ?_
        refine T_ziadd xr_37_56 (z := e + 1) rfl (pc' := 57) rfl ?_
        refine T_p xr_37_57 xn_37 (pc' := 58) (ls' := [(6, .int (iI (bI (gW G w e = gt G i)))), (5, .ref aw), (0, .ref 511), (1, .int (iI w)), (2, .int (iI e)), (3, .int (iI i)), (4, .int (iI j))]) (st' := [.int (iI i), .int (iI (e + 1)), .int (iI w), .ref 511]) rfl ?_
        refine T_p xr_37_58 xn_37 (pc' := 59) (ls' := [(6, .int (iI (bI (gW G w e = gt G i)))), (5, .ref aw), (0, .ref 511), (1, .int (iI w)), (2, .int (iI e)), (3, .int (iI i)), (4, .int (iI j))]) (st' := [.int (iI 1), .int (iI i), .int (iI (e + 1)), .int (iI w), .ref 511]) rfl ?_
        refine T_ziadd xr_37_59 (z := i + 1) rfl (pc' := 60) rfl ?_
        refine T_p xr_37_60 xn_37 (pc' := 62) (ls' := [(6, .int (iI (bI (gW G w e = gt G i)))), (5, .ref aw), (0, .ref 511), (1, .int (iI w)), (2, .int (iI e)), (3, .int (iI i)), (4, .int (iI j))]) (st' := [.int (iI j), .int (iI (i + 1)), .int (iI (e + 1)), .int (iI w), .ref 511]) rfl ?_
        refine T_cv (S := S) (q := 511) xr_37_62 xf_38.1 xf_38.2.1 xn_38 (as := [.int (iI w), .int (iI (e + 1)), .int (iI (i + 1)), .int (iI j)]) (r := []) rfl hO511 (Nat.le_of_ble_eq_true rfl) (Nat.le_of_ble_eq_true rfl) (pc' := 65) rfl (ls' := [(0, .ref 511), (1, .int (iI w)), (2, .int (iI (e + 1))), (3, .int (iI (i + 1))), (4, .int (iI j))]) rfl ?_
        refine T_mono (c_tail sc S tl B rc rn kn G tn fl w (e + 1) (i + 1) j hO511 hA516 hB ⟨hb0, hb1, hb2, hb3, hb4, ⟨f, hb5, hf⟩, ⟨by omega, by omega⟩, ⟨by omega, by omega⟩, ⟨by omega, by omega⟩⟩ hs hG (by omega) (by omega) (by omega) (fun z1 z2 => ht _ (by omega) z1 _ (by omega) z2)) (fun v670 S671 h672 => ?_)
        rcases h672 with ⟨hv673, hf674⟩
        rw [hv673]
        rw [hf674]
        show X_T sc 37 (65, [(6, .int (iI (bI (gW G w e = gt G i)))), (5, .ref aw), (0, .ref 511), (1, .int (iI w)), (2, .int (iI e)), (3, .int (iI i)), (4, .int (iI j))], [.long (X_st (-2) (X_Ew G (X_T_ G) w (e + 1) (i + 1) j))], S) _
        refine T_p xr_37_65 xn_37 (pc' := 69) (ls' := [(6, .int (iI (bI (gW G w e = gt G i)))), (5, .ref aw), (0, .ref 511), (1, .int (iI w)), (2, .int (iI e)), (3, .int (iI i)), (4, .int (iI j))]) (st' := [.long (X_st (-2) (X_Ew G (X_T_ G) w (e + 1) (i + 1) j))]) rfl ?_
        refine T_lret xr_37_69 xf_37.2.2 rfl ?_
        refine hQ _ _ ?_
        exact ⟨by rw [X_Ew_p he.2 (fun z => absurd (show X_hl (gD G w) (gW G w) e from ⟨he.1, he.2, z⟩) (by assumption)), X_if_t ⟨hij.2.1, Eq.symm (by assumption)⟩], rfl⟩
    refine T_p xr_37_20 xn_37 (pc' := 22) (ls' := [(5, .ref aw), (0, .ref 511), (1, .int (iI w)), (2, .int (iI e)), (3, .int (iI i)), (4, .int (iI j))]) (st' := [.ref aw]) rfl ?_
    refine T_get xr_37_22 hwaw.1.1 rfl (v := .ref (aw + 1)) rfl (pc' := 25) rfl ?_
    refine T_p xr_37_25 xn_37 (pc' := 26) (ls' := [(5, .ref aw), (0, .ref 511), (1, .int (iI w)), (2, .int (iI e)), (3, .int (iI i)), (4, .int (iI j))]) (st' := [.int (iI e), .ref (aw + 1)]) rfl ?_
    refine T_zlald xr_37_26 hwaw.1.2.1 (pc' := 27) rfl ?_
    refine T_p xr_37_27 xn_37 (pc' := 28) (ls' := [(5, .ref aw), (0, .ref 511), (1, .int (iI w)), (2, .int (iI e)), (3, .int (iI i)), (4, .int (iI j))]) (st' := [.ref 511, .long ((gW G) w e)]) rfl ?_
    refine T_get xr_37_28 hO511 rfl (v := .ref 501) rfl (pc' := 31) rfl ?_
    refine T_get xr_37_31 hO501 rfl (v := .ref 502) rfl (pc' := 34) rfl ?_
    refine T_p xr_37_34 xn_37 (pc' := 35) (ls' := [(5, .ref aw), (0, .ref 511), (1, .int (iI w)), (2, .int (iI e)), (3, .int (iI i)), (4, .int (iI j))]) (st' := [.int (iI i), .ref 502, .long ((gW G) w e)]) rfl ?_
    refine T_zlald xr_37_35 hA502 (pc' := 36) rfl ?_
    refine T_lc_ne xr_37_36 xr_37_37 (t := 44) (pc' := 40) rfl rfl (fun c675 => ?_) (fun c675 => ?_)
    · skip
      have c675 : ¬ ((gW G) w e) = ((gt G) i) := c675
      refine T_p xr_37_44 xn_37 (pc' := 45) (ls' := [(5, .ref aw), (0, .ref 511), (1, .int (iI w)), (2, .int (iI e)), (3, .int (iI i)), (4, .int (iI j))]) (st' := [.int (iI 0)]) rfl ?_
      refine T_ie (y := iI (bI (gW G w e = gt G i))) (by rw [bI_f (by assumption)]) ?_
      exact J668
    · skip
      have c675 : ¬ (¬ ((gW G) w e) = ((gt G) i)) := c675
      refine T_p xr_37_40 xn_37 (pc' := 41) (ls' := [(5, .ref aw), (0, .ref 511), (1, .int (iI w)), (2, .int (iI e)), (3, .int (iI i)), (4, .int (iI j))]) (st' := [.int (iI 1)]) rfl ?_
      refine T_p xr_37_41 xn_37 (pc' := 45) (ls' := [(5, .ref aw), (0, .ref 511), (1, .int (iI w)), (2, .int (iI e)), (3, .int (iI i)), (4, .int (iI j))]) (st' := [.int (iI 1)]) rfl ?_
      refine T_ie (y := iI (bI (gW G w e = gt G i))) (by rw [bI_t (by first | assumption | exact Classical.not_not.mp (by assumption))]) ?_
      exact J668
theorem c_fillTails (sc : X_Sc) (S : X_S) (oH : Int → Int64) (tl : Int → Int64) (B : Nat) (rc : Int) (rn : Int → Int64) (kn : Int → Int64) (G : X_G) (tn : Int) (fl : Int) (w : Int) (p : Int) (j : Int) (hO501 : S.1 501 = .inr (6, [.int (iI tn), .ref 502, .ref 503])) (hO511 : S.1 511 = .inr (1, [.ref B, .ref 501, .int (iI fl), .ref 512, .ref 513, .ref 514, .ref 515, .ref 516])) (hA515 : S.1 515 = .inl (.long, 55800, .inr (.inl fun k : Nat => oH (k : Int)))) (hA516 : S.1 516 = .inl (.long, 7200, .inr (.inl fun k : Nat => tl (k : Int)))) (hB : B = 4 ∨ B = 250) (hb : C_bk S B rc (gk G) (gw G) rn (gl G) kn (ga G)) (hs : C_ws S B (gD G) (gW G)) (hG : X_Gok G) (hA502 : S.1 502 = .inl (.long, 30, .inr (.inl fun k : Nat => (gt G) (k : Int)))) (hw : 0 ≤ w ∧ w < gw G) (hpj : 0 ≤ p ∧ p < j ∧ j ≤ tn ∧ tn ≤ 30) (ht : ∀ q, p < q → q < j → X_tl G (-2) w q j tl) (hH : ∀ e, 0 ≤ e → e < gD G w 3 0 → gW G w e = 0 → ∀ m, p < m → m ≤ j → oH ((X_ro p m * 30 + w) * 4 + gD G w 8 e) = X_st (-2) (X_Hw G (X_T_ G) w e p m)) : X_T sc 35 (0, [(0, .ref 511), (1, .int (iI w)), (2, .int (iI p)), (3, .int (iI j))], [], S) (fun v S' => ∃ (tl1 : Int → Int64), v = none ∧ X_tl G (-2) w p j tl1 ∧ (∀ k, (∀ e, 1 ≤ e → e < gD G w 3 0 → ¬ k = (w * 8 + e) * 30 + p) → tl1 k = tl k) ∧ S'.1 516 = .inl (.long, 7200, .inr (.inl fun k : Nat => tl1 (k : Int))) ∧ X_Fr (fun q => q = 516) S S') := by
  obtain ⟨hb0, hb1, hb2, hb3, hb4, ⟨f, hb5, hf⟩, ⟨hrc, hrcb⟩, ⟨hkc, hkcb⟩, ⟨hwc, hwcb⟩⟩ := id hb
  have hgw := hG.2.2.2 w hw.1 hw.2
  have hsz := hgw.1
  refine X_QI (fun Q hQ => ?_)
  refine T_p xr_35_0 xn_35 (pc' := 1) (ls' := [(0, .ref 511), (1, .int (iI w)), (2, .int (iI p)), (3, .int (iI j))]) (st' := [.int (iI 1)]) rfl ?_
  refine T_p xr_35_1 xn_35 (pc' := 3) (ls' := [(4, .int (iI 1)), (0, .ref 511), (1, .int (iI w)), (2, .int (iI p)), (3, .int (iI j))]) (st' := []) rfl ?_
  have L676 : ∀ (m678 : Nat) (S681 : X_S) (el : Int) (tl1 : Int → Int64) (htl1 : S681.1 516 = .inl (.long, 7200, .inr (.inl fun k : Nat => tl1 (k : Int)))) (hF680 : X_Fr (fun q => q = 516) S S681) (hel : 1 ≤ el ∧ el ≤ gD G w 3 0) (hI : ∀ e, 1 ≤ e → e < el → tl1 ((w * 8 + e) * 30 + p) = X_st (-2) (X_Ew G (X_T_ G) w e p j)) (hOt : ∀ k, (∀ e, 1 ≤ e → e < gD G w 3 0 → ¬ k = (w * 8 + e) * 30 + p) → tl1 k = tl k) (hm679 : gD G w 3 0 - el < m678), X_T sc 35 (3, [(4, .int (iI el)), (0, .ref 511), (1, .int (iI w)), (2, .int (iI p)), (3, .int (iI j))], [], S681) Q := by
    intro m678
    induction m678 with
    | zero =>
      intro S681 el tl1 htl1 hF680 hel hI hOt hm679
      exact (show False by omega).elim
    | succ m678 ih677 =>
      intro S681 el tl1 htl1 hF680 hel hI hOt hm679
      refine T_p xr_35_3 xn_35 (pc' := 5) (ls' := [(4, .int (iI el)), (0, .ref 511), (1, .int (iI w)), (2, .int (iI p)), (3, .int (iI j))]) (st' := [.int (iI el)]) rfl ?_
      refine T_p xr_35_5 xn_35 (pc' := 6) (ls' := [(4, .int (iI el)), (0, .ref 511), (1, .int (iI w)), (2, .int (iI p)), (3, .int (iI j))]) (st' := [.ref 511, .int (iI el)]) rfl ?_
      have h682 := (hF680.1 511 (by omega)).trans (hO511)
      refine T_get xr_35_6 h682 rfl (v := .ref B) rfl (pc' := 9) rfl ?_
      have h683 := (hF680.1 B (by omega)).trans (hb0)
      refine T_get xr_35_9 h683 rfl (v := .ref (B + 5)) rfl (pc' := 12) rfl ?_
      refine T_p xr_35_12 xn_35 (pc' := 13) (ls' := [(4, .int (iI el)), (0, .ref 511), (1, .int (iI w)), (2, .int (iI p)), (3, .int (iI j))]) (st' := [.int (iI w), .ref (B + 5), .int (iI el)]) rfl ?_
      have h684 := (hF680.1 (B + 5) (by omega)).trans (hb5)
      have hs685 : C_ws S681 B (gD G) (gW G) := C_ws.fr (P := fun q => 501 ≤ q ∧ q ≤ 529) hs ((X_Fr.rf).tr (X_Fr.mono ⟨hF680.1, hF680.2⟩ (fun q hq => (by omega)))) (fun k h1 h2 => by omega)
      have hw686 := hs685 w (by omega) (by omega)
      obtain ⟨a687, ha688⟩ : ∃ z : Nat, z = B + 6 + 8 * (w : Int).toNat := ⟨_, rfl⟩
      rw [← ha688] at hw686
      obtain ⟨⟨_, _⟩, ⟨_, _⟩, ⟨_, _⟩, ⟨_, _⟩, ⟨_, _⟩, ⟨_, _⟩, ⟨_, _⟩, ⟨_, _⟩⟩ := id hw686.2
      refine T_zaald xr_35_13 h684 (w := a687) (by rw [ha688]; exact hf _ (by omega)) (pc' := 14) rfl ?_
      refine T_get xr_35_14 hw686.1.1 rfl (v := .int (iI ((gD G) w 3 0))) rfl (pc' := 17) rfl ?_
      refine T_zicmp_ge xr_35_17 (t := 47) (pc' := 20) rfl rfl (fun c689 => ?_) (fun c689 => ?_)
      · skip
        have c689 : ((gD G) w 3 0) ≤ el := c689
        refine T_vret xr_35_47 xf_35.2.2 ?_
        refine hQ _ _ ?_
        exact ⟨tl1, rfl, (fun e g1 g2 => hI e g1 (by omega)), hOt, htl1, (X_Fr.rf).tr (X_Fr.mono ⟨hF680.1, hF680.2⟩ (fun q hq => (by omega)))⟩
      · skip
        have c689 : ¬ (((gD G) w 3 0) ≤ el) := c689
        refine T_p xr_35_20 xn_35 (pc' := 21) (ls' := [(4, .int (iI el)), (0, .ref 511), (1, .int (iI w)), (2, .int (iI p)), (3, .int (iI j))]) (st' := [.ref 511]) rfl ?_
        refine T_get xr_35_21 h682 rfl (v := .ref 516) rfl (pc' := 24) rfl ?_
        refine T_p xr_35_24 xn_35 (pc' := 25) (ls' := [(4, .int (iI el)), (0, .ref 511), (1, .int (iI w)), (2, .int (iI p)), (3, .int (iI j))]) (st' := [.int (iI w), .ref 516]) rfl ?_
        refine T_p xr_35_25 xn_35 (pc' := 27) (ls' := [(4, .int (iI el)), (0, .ref 511), (1, .int (iI w)), (2, .int (iI p)), (3, .int (iI j))]) (st' := [.int (iI el), .int (iI w), .ref 516]) rfl ?_
        refine T_p xr_35_27 xn_35 (pc' := 28) (ls' := [(4, .int (iI el)), (0, .ref 511), (1, .int (iI w)), (2, .int (iI p)), (3, .int (iI j))]) (st' := [.int (iI p), .int (iI el), .int (iI w), .ref 516]) rfl ?_
        refine T_cs xr_35_28 (by decide) xf_25.1 xn_25 (as := [.int (iI w), .int (iI el), .int (iI p)]) (r := [.ref 516]) rfl (Nat.le_of_ble_eq_true rfl) (Nat.le_of_ble_eq_true rfl) (pc' := 31) rfl (ls' := [(0, .int (iI w)), (1, .int (iI el)), (2, .int (iI p))]) rfl ?_
        refine T_p xr_25_0 xn_25 (pc' := 1) (ls' := [(0, .int (iI w)), (1, .int (iI el)), (2, .int (iI p))]) (st' := [.int (iI w)]) rfl ?_
        refine T_p xr_25_1 xn_25 (pc' := 3) (ls' := [(0, .int (iI w)), (1, .int (iI el)), (2, .int (iI p))]) (st' := [.int (iI 8), .int (iI w)]) rfl ?_
        refine T_zimul xr_25_3 (z := w * 8) rfl (pc' := 4) rfl ?_
        refine T_p xr_25_4 xn_25 (pc' := 5) (ls' := [(0, .int (iI w)), (1, .int (iI el)), (2, .int (iI p))]) (st' := [.int (iI el), .int (iI (w * 8))]) rfl ?_
        refine T_ziadd xr_25_5 (z := (w * 8) + el) rfl (pc' := 6) rfl ?_
        refine T_p xr_25_6 xn_25 (pc' := 8) (ls' := [(0, .int (iI w)), (1, .int (iI el)), (2, .int (iI p))]) (st' := [.int (iI 30), .int (iI ((w * 8) + el))]) rfl ?_
        refine T_zimul xr_25_8 (z := ((w * 8) + el) * 30) rfl (pc' := 9) rfl ?_
        refine T_p xr_25_9 xn_25 (pc' := 10) (ls' := [(0, .int (iI w)), (1, .int (iI el)), (2, .int (iI p))]) (st' := [.int (iI p), .int (iI (((w * 8) + el) * 30))]) rfl ?_
        refine T_ziadd xr_25_10 (z := (((w * 8) + el) * 30) + p) rfl (pc' := 11) rfl ?_
        refine T_iret xr_25_11 xf_25.2.2 rfl ?_
        show X_T sc 35 (31, [(4, .int (iI el)), (0, .ref 511), (1, .int (iI w)), (2, .int (iI p)), (3, .int (iI j))], [.int (iI ((((w * 8) + el) * 30) + p)), .ref 516], S681) _
        refine T_p xr_35_31 xn_35 (pc' := 32) (ls' := [(4, .int (iI el)), (0, .ref 511), (1, .int (iI w)), (2, .int (iI p)), (3, .int (iI j))]) (st' := [.ref 511, .int (iI ((((w * 8) + el) * 30) + p)), .ref 516]) rfl ?_
        refine T_p xr_35_32 xn_35 (pc' := 33) (ls' := [(4, .int (iI el)), (0, .ref 511), (1, .int (iI w)), (2, .int (iI p)), (3, .int (iI j))]) (st' := [.int (iI w), .ref 511, .int (iI ((((w * 8) + el) * 30) + p)), .ref 516]) rfl ?_
        refine T_p xr_35_33 xn_35 (pc' := 35) (ls' := [(4, .int (iI el)), (0, .ref 511), (1, .int (iI w)), (2, .int (iI p)), (3, .int (iI j))]) (st' := [.int (iI el), .int (iI w), .ref 511, .int (iI ((((w * 8) + el) * 30) + p)), .ref 516]) rfl ?_
        refine T_p xr_35_35 xn_35 (pc' := 36) (ls' := [(4, .int (iI el)), (0, .ref 511), (1, .int (iI w)), (2, .int (iI p)), (3, .int (iI j))]) (st' := [.int (iI p), .int (iI el), .int (iI w), .ref 511, .int (iI ((((w * 8) + el) * 30) + p)), .ref 516]) rfl ?_
        refine T_p xr_35_36 xn_35 (pc' := 37) (ls' := [(4, .int (iI el)), (0, .ref 511), (1, .int (iI w)), (2, .int (iI p)), (3, .int (iI j))]) (st' := [.int (iI j), .int (iI p), .int (iI el), .int (iI w), .ref 511, .int (iI ((((w * 8) + el) * 30) + p)), .ref 516]) rfl ?_
        refine T_cv (S := S681) (q := 511) xr_35_37 xf_37.1 xf_37.2.1 xn_37 (as := [.int (iI w), .int (iI el), .int (iI p), .int (iI j)]) (r := [.int (iI ((((w * 8) + el) * 30) + p)), .ref 516]) rfl h682 (Nat.le_of_ble_eq_true rfl) (Nat.le_of_ble_eq_true rfl) (pc' := 40) rfl (ls' := [(0, .ref 511), (1, .int (iI w)), (2, .int (iI el)), (3, .int (iI p)), (4, .int (iI j))]) rfl ?_
        have h690 := (hF680.1 515 (by omega)).trans (hA515)
        have h691 := (hF680.1 501 (by omega)).trans (hO501)
        have h692 := (hF680.1 (B + 1) (by omega)).trans (hb1)
        have h693 := (hF680.1 (B + 2) (by omega)).trans (hb2)
        have h694 := (hF680.1 (B + 3) (by omega)).trans (hb3)
        have h695 := (hF680.1 (B + 4) (by omega)).trans (hb4)
        have h696 := (hF680.1 502 (by omega)).trans (hA502)
        refine T_mono (c_ways sc S681 oH tl1 B rc rn kn G tn fl w el p j h691 h682 h690 htl1 hB ⟨h683, h692, h693, h694, h695, ⟨f, h684, hf⟩, ⟨by omega, by omega⟩, ⟨by omega, by omega⟩, ⟨by omega, by omega⟩⟩ hs685 hG h696 (by omega) (by omega) (by omega) (fun q h1 h2 e g1 g2 => (hOt _ (fun e2 z1 z2 z3 => by omega)).trans (ht q h1 h2 e g1 g2)) (fun z m h1 h2 _ => hH _ (by omega) (by omega) z m h1 h2)) (fun v697 S698 h699 => ?_)
        rcases h699 with ⟨hv700, hf701⟩
        rw [hv700]
        rw [hf701]
        show X_T sc 35 (40, [(4, .int (iI el)), (0, .ref 511), (1, .int (iI w)), (2, .int (iI p)), (3, .int (iI j))], [.long (X_st (-2) (X_Ew G (X_T_ G) w el p j)), .int (iI ((((w * 8) + el) * 30) + p)), .ref 516], S681) _
        refine T_zlast xr_35_40 htl1 (pc' := 41) rfl (fun S702 h703 n704 e705 => ?_)
        refine T_ziinc xr_35_41 xn_35 (a := el) (z := el + 1) rfl (Nat.le_of_ble_eq_true rfl) (by omega) (ls' := [(4, .int (iI (el + 1))), (0, .ref 511), (1, .int (iI w)), (2, .int (iI p)), (3, .int (iI j))]) rfl (pc' := 44) rfl ?_
        refine T_p xr_35_44 xn_35 (pc' := 3) (ls' := [(4, .int (iI (el + 1))), (0, .ref 511), (1, .int (iI w)), (2, .int (iI p)), (3, .int (iI j))]) (st' := []) rfl ?_
        exact ih677 S702 (el + 1) (X_ug tl1 ((((w * 8) + el) * 30) + p) (X_st (-2) (X_Ew G (X_T_ G) w el p j))) h703 (hF680.tr ((X_Fr.rf).tr (X_Fr.of n704 e705 (by omega)))) (by omega) (fun e g1 g2 => by
              by_cases he : e = el
              · subst he; rw [X_ug_s]
              · rw [X_ug_n _ _ (by omega)]; exact hI e g1 (by omega)) (fun k hk => by rw [X_ug_n _ _ (hk el (by omega) (by omega))]; exact hOt k hk) (by omega)
  exact L676 ((gD G w 3 0) + 1).toNat S 1 tl hA516 ((X_Fr.rf)) (by omega) (fun e g1 g2 => absurd g2 (by omega)) (fun _ _ => rfl) (by omega)
theorem c_prepareTails (sc : X_Sc) (S : X_S) (oH : Int → Int64) (tl : Int → Int64) (B : Nat) (rc : Int) (rn : Int → Int64) (kn : Int → Int64) (G : X_G) (tn : Int) (fl : Int) (w : Int) (i : Int) (j : Int) (hO501 : S.1 501 = .inr (6, [.int (iI tn), .ref 502, .ref 503])) (hO511 : S.1 511 = .inr (1, [.ref B, .ref 501, .int (iI fl), .ref 512, .ref 513, .ref 514, .ref 515, .ref 516])) (hA515 : S.1 515 = .inl (.long, 55800, .inr (.inl fun k : Nat => oH (k : Int)))) (hA516 : S.1 516 = .inl (.long, 7200, .inr (.inl fun k : Nat => tl (k : Int)))) (hB : B = 4 ∨ B = 250) (hb : C_bk S B rc (gk G) (gw G) rn (gl G) kn (ga G)) (hs : C_ws S B (gD G) (gW G)) (hG : X_Gok G) (hA502 : S.1 502 = .inl (.long, 30, .inr (.inl fun k : Nat => (gt G) (k : Int)))) (hw : 0 ≤ w ∧ w < gw G) (hij : 0 ≤ i ∧ i < j ∧ j ≤ tn ∧ tn ≤ 30) (hH : ∀ p, i < p → p < j → ∀ e, 0 ≤ e → e < gD G w 3 0 → gW G w e = 0 → ∀ m, p < m → m ≤ j → oH ((X_ro p m * 30 + w) * 4 + gD G w 8 e) = X_st (-2) (X_Hw G (X_T_ G) w e p m)) : X_T sc 36 (0, [(0, .ref 511), (1, .int (iI w)), (2, .int (iI i)), (3, .int (iI j))], [], S) (fun v S' => ∃ (tl1 : Int → Int64), v = none ∧ (∀ p, i < p → p < j → X_tl G (-2) w p j tl1) ∧ S'.1 516 = .inl (.long, 7200, .inr (.inl fun k : Nat => tl1 (k : Int))) ∧ X_Fr (fun q => q = 516) S S') := by
  obtain ⟨hb0, hb1, hb2, hb3, hb4, ⟨f, hb5, hf⟩, ⟨hrc, hrcb⟩, ⟨hkc, hkcb⟩, ⟨hwc, hwcb⟩⟩ := id hb
  have hgw := hG.2.2.2 w hw.1 hw.2
  have hsz := hgw.1
  refine X_QI (fun Q hQ => ?_)
  refine T_p xr_36_0 xn_36 (pc' := 1) (ls' := [(0, .ref 511), (1, .int (iI w)), (2, .int (iI i)), (3, .int (iI j))]) (st' := [.int (iI j)]) rfl ?_
  refine T_p xr_36_1 xn_36 (pc' := 2) (ls' := [(0, .ref 511), (1, .int (iI w)), (2, .int (iI i)), (3, .int (iI j))]) (st' := [.int (iI 1), .int (iI j)]) rfl ?_
  refine T_zisub xr_36_2 (z := j - 1) rfl (pc' := 3) rfl ?_
  refine T_p xr_36_3 xn_36 (pc' := 5) (ls' := [(4, .int (iI (j - 1))), (0, .ref 511), (1, .int (iI w)), (2, .int (iI i)), (3, .int (iI j))]) (st' := []) rfl ?_
  have L706 : ∀ (m708 : Nat) (S711 : X_S) (p : Int) (tl1 : Int → Int64) (htl1 : S711.1 516 = .inl (.long, 7200, .inr (.inl fun k : Nat => tl1 (k : Int)))) (hF710 : X_Fr (fun q => q = 516) S S711) (hp : i ≤ p ∧ p < j) (hD1 : ∀ q, p < q → q < j → X_tl G (-2) w q j tl1) (hm709 : p - i < m708), X_T sc 36 (5, [(4, .int (iI p)), (0, .ref 511), (1, .int (iI w)), (2, .int (iI i)), (3, .int (iI j))], [], S711) Q := by
    intro m708
    induction m708 with
    | zero =>
      intro S711 p tl1 htl1 hF710 hp hD1 hm709
      exact (show False by omega).elim
    | succ m708 ih707 =>
      intro S711 p tl1 htl1 hF710 hp hD1 hm709
      refine T_p xr_36_5 xn_36 (pc' := 7) (ls' := [(4, .int (iI p)), (0, .ref 511), (1, .int (iI w)), (2, .int (iI i)), (3, .int (iI j))]) (st' := [.int (iI p)]) rfl ?_
      refine T_p xr_36_7 xn_36 (pc' := 8) (ls' := [(4, .int (iI p)), (0, .ref 511), (1, .int (iI w)), (2, .int (iI i)), (3, .int (iI j))]) (st' := [.int (iI i), .int (iI p)]) rfl ?_
      refine T_zicmp_le xr_36_8 (t := 66) (pc' := 11) rfl rfl (fun c712 => ?_) (fun c712 => ?_)
      · skip
        have c712 : p ≤ i := c712
        refine T_vret xr_36_66 xf_36.2.2 ?_
        refine hQ _ _ ?_
        exact ⟨tl1, rfl, (fun q h1 h2 => hD1 q (by omega) h2), htl1, (X_Fr.rf).tr (X_Fr.mono ⟨hF710.1, hF710.2⟩ (fun q hq => (by omega)))⟩
      · skip
        have c712 : ¬ (p ≤ i) := c712
        refine T_p xr_36_11 xn_36 (pc' := 12) (ls' := [(4, .int (iI p)), (0, .ref 511), (1, .int (iI w)), (2, .int (iI i)), (3, .int (iI j))]) (st' := [.int (iI 1)]) rfl ?_
        refine T_p xr_36_12 xn_36 (pc' := 14) (ls' := [(5, .int (iI 1)), (4, .int (iI p)), (0, .ref 511), (1, .int (iI w)), (2, .int (iI i)), (3, .int (iI j))]) (st' := []) rfl ?_
        have L713 : ∀ (m715 : Nat) (S718 : X_S) (el : Int) (tl2 : Int → Int64) (htl2 : S718.1 516 = .inl (.long, 7200, .inr (.inl fun k : Nat => tl2 (k : Int)))) (hF717 : X_Fr (fun q => q = 516) S711 S718) (hel : 1 ≤ el ∧ el ≤ gD G w 3 0) (hI : ∀ e, 1 ≤ e → e < el → tl2 ((w * 8 + e) * 30 + p) = X_st (-2) (X_Ew G (X_T_ G) w e p j)) (hD2 : ∀ q, p < q → q < j → X_tl G (-2) w q j tl2) (hm716 : gD G w 3 0 - el < m715), X_T sc 36 (14, [(5, .int (iI el)), (4, .int (iI p)), (0, .ref 511), (1, .int (iI w)), (2, .int (iI i)), (3, .int (iI j))], [], S718) Q := by
          intro m715
          induction m715 with
          | zero =>
            intro S718 el tl2 htl2 hF717 hel hI hD2 hm716
            exact (show False by omega).elim
          | succ m715 ih714 =>
            intro S718 el tl2 htl2 hF717 hel hI hD2 hm716
            refine T_p xr_36_14 xn_36 (pc' := 16) (ls' := [(5, .int (iI el)), (4, .int (iI p)), (0, .ref 511), (1, .int (iI w)), (2, .int (iI i)), (3, .int (iI j))]) (st' := [.int (iI el)]) rfl ?_
            refine T_p xr_36_16 xn_36 (pc' := 17) (ls' := [(5, .int (iI el)), (4, .int (iI p)), (0, .ref 511), (1, .int (iI w)), (2, .int (iI i)), (3, .int (iI j))]) (st' := [.ref 511, .int (iI el)]) rfl ?_
            have h719 := (hF717.1 511 (by omega)).trans ((hF710.1 511 (by omega)).trans (hO511))
            refine T_get xr_36_17 h719 rfl (v := .ref B) rfl (pc' := 20) rfl ?_
            have h720 := (hF717.1 B (by omega)).trans ((hF710.1 B (by omega)).trans (hb0))
            refine T_get xr_36_20 h720 rfl (v := .ref (B + 5)) rfl (pc' := 23) rfl ?_
            refine T_p xr_36_23 xn_36 (pc' := 24) (ls' := [(5, .int (iI el)), (4, .int (iI p)), (0, .ref 511), (1, .int (iI w)), (2, .int (iI i)), (3, .int (iI j))]) (st' := [.int (iI w), .ref (B + 5), .int (iI el)]) rfl ?_
            have h721 := (hF717.1 (B + 5) (by omega)).trans ((hF710.1 (B + 5) (by omega)).trans (hb5))
            have hs722 : C_ws S718 B (gD G) (gW G) := C_ws.fr (P := fun q => 501 ≤ q ∧ q ≤ 529) hs (((X_Fr.rf).tr (X_Fr.mono ⟨hF710.1, hF710.2⟩ (fun q hq => (by omega)))).tr (X_Fr.mono ⟨hF717.1, hF717.2⟩ (fun q hq => (by omega)))) (fun k h1 h2 => by omega)
            have hw723 := hs722 w (by omega) (by omega)
            obtain ⟨a724, ha725⟩ : ∃ z : Nat, z = B + 6 + 8 * (w : Int).toNat := ⟨_, rfl⟩
            rw [← ha725] at hw723
            obtain ⟨⟨_, _⟩, ⟨_, _⟩, ⟨_, _⟩, ⟨_, _⟩, ⟨_, _⟩, ⟨_, _⟩, ⟨_, _⟩, ⟨_, _⟩⟩ := id hw723.2
            refine T_zaald xr_36_24 h721 (w := a724) (by rw [ha725]; exact hf _ (by omega)) (pc' := 25) rfl ?_
            refine T_get xr_36_25 hw723.1.1 rfl (v := .int (iI ((gD G) w 3 0))) rfl (pc' := 28) rfl ?_
            refine T_zicmp_ge xr_36_28 (t := 60) (pc' := 31) rfl rfl (fun c726 => ?_) (fun c726 => ?_)
            · skip
              have c726 : ((gD G) w 3 0) ≤ el := c726
              refine T_ziinc xr_36_60 xn_36 (a := p) (z := p - 1) rfl (Nat.le_of_ble_eq_true rfl) (by omega) (ls' := [(4, .int (iI (p - 1))), (5, .int (iI el)), (0, .ref 511), (1, .int (iI w)), (2, .int (iI i)), (3, .int (iI j))]) rfl (pc' := 63) rfl ?_
              refine T_p xr_36_63 xn_36 (pc' := 5) (ls' := [(4, .int (iI (p - 1))), (5, .int (iI el)), (0, .ref 511), (1, .int (iI w)), (2, .int (iI i)), (3, .int (iI j))]) (st' := []) rfl ?_
              refine T_sub (ls := [(4, .int (iI (p - 1))), (0, .ref 511), (1, .int (iI w)), (2, .int (iI i)), (3, .int (iI j))]) ⟨rfl, rfl, rfl, rfl, rfl, trivial⟩ rfl rfl ?_
              exact ih707 S718 (p - 1) tl2 htl2 (hF710.tr ((X_Fr.rf).tr (X_Fr.mono ⟨hF717.1, hF717.2⟩ (fun q hq => (by omega))))) (by omega) (fun q h1 h2 => by
                    by_cases hq : q = p
                    · subst hq; exact fun e g1 g2 => hI e g1 (by omega)
                    · exact hD2 q (by omega) h2) (by omega)
            · skip
              have c726 : ¬ (((gD G) w 3 0) ≤ el) := c726
              refine T_p xr_36_31 xn_36 (pc' := 32) (ls' := [(5, .int (iI el)), (4, .int (iI p)), (0, .ref 511), (1, .int (iI w)), (2, .int (iI i)), (3, .int (iI j))]) (st' := [.ref 511]) rfl ?_
              refine T_get xr_36_32 h719 rfl (v := .ref 516) rfl (pc' := 35) rfl ?_
              refine T_p xr_36_35 xn_36 (pc' := 36) (ls' := [(5, .int (iI el)), (4, .int (iI p)), (0, .ref 511), (1, .int (iI w)), (2, .int (iI i)), (3, .int (iI j))]) (st' := [.int (iI w), .ref 516]) rfl ?_
              refine T_p xr_36_36 xn_36 (pc' := 38) (ls' := [(5, .int (iI el)), (4, .int (iI p)), (0, .ref 511), (1, .int (iI w)), (2, .int (iI i)), (3, .int (iI j))]) (st' := [.int (iI el), .int (iI w), .ref 516]) rfl ?_
              refine T_p xr_36_38 xn_36 (pc' := 40) (ls' := [(5, .int (iI el)), (4, .int (iI p)), (0, .ref 511), (1, .int (iI w)), (2, .int (iI i)), (3, .int (iI j))]) (st' := [.int (iI p), .int (iI el), .int (iI w), .ref 516]) rfl ?_
              refine T_cs xr_36_40 (by decide) xf_25.1 xn_25 (as := [.int (iI w), .int (iI el), .int (iI p)]) (r := [.ref 516]) rfl (Nat.le_of_ble_eq_true rfl) (Nat.le_of_ble_eq_true rfl) (pc' := 43) rfl (ls' := [(0, .int (iI w)), (1, .int (iI el)), (2, .int (iI p))]) rfl ?_
              refine T_p xr_25_0 xn_25 (pc' := 1) (ls' := [(0, .int (iI w)), (1, .int (iI el)), (2, .int (iI p))]) (st' := [.int (iI w)]) rfl ?_
              refine T_p xr_25_1 xn_25 (pc' := 3) (ls' := [(0, .int (iI w)), (1, .int (iI el)), (2, .int (iI p))]) (st' := [.int (iI 8), .int (iI w)]) rfl ?_
              refine T_zimul xr_25_3 (z := w * 8) rfl (pc' := 4) rfl ?_
              refine T_p xr_25_4 xn_25 (pc' := 5) (ls' := [(0, .int (iI w)), (1, .int (iI el)), (2, .int (iI p))]) (st' := [.int (iI el), .int (iI (w * 8))]) rfl ?_
              refine T_ziadd xr_25_5 (z := (w * 8) + el) rfl (pc' := 6) rfl ?_
              refine T_p xr_25_6 xn_25 (pc' := 8) (ls' := [(0, .int (iI w)), (1, .int (iI el)), (2, .int (iI p))]) (st' := [.int (iI 30), .int (iI ((w * 8) + el))]) rfl ?_
              refine T_zimul xr_25_8 (z := ((w * 8) + el) * 30) rfl (pc' := 9) rfl ?_
              refine T_p xr_25_9 xn_25 (pc' := 10) (ls' := [(0, .int (iI w)), (1, .int (iI el)), (2, .int (iI p))]) (st' := [.int (iI p), .int (iI (((w * 8) + el) * 30))]) rfl ?_
              refine T_ziadd xr_25_10 (z := (((w * 8) + el) * 30) + p) rfl (pc' := 11) rfl ?_
              refine T_iret xr_25_11 xf_25.2.2 rfl ?_
              show X_T sc 36 (43, [(5, .int (iI el)), (4, .int (iI p)), (0, .ref 511), (1, .int (iI w)), (2, .int (iI i)), (3, .int (iI j))], [.int (iI ((((w * 8) + el) * 30) + p)), .ref 516], S718) _
              refine T_p xr_36_43 xn_36 (pc' := 44) (ls' := [(5, .int (iI el)), (4, .int (iI p)), (0, .ref 511), (1, .int (iI w)), (2, .int (iI i)), (3, .int (iI j))]) (st' := [.ref 511, .int (iI ((((w * 8) + el) * 30) + p)), .ref 516]) rfl ?_
              refine T_p xr_36_44 xn_36 (pc' := 45) (ls' := [(5, .int (iI el)), (4, .int (iI p)), (0, .ref 511), (1, .int (iI w)), (2, .int (iI i)), (3, .int (iI j))]) (st' := [.int (iI w), .ref 511, .int (iI ((((w * 8) + el) * 30) + p)), .ref 516]) rfl ?_
              refine T_p xr_36_45 xn_36 (pc' := 47) (ls' := [(5, .int (iI el)), (4, .int (iI p)), (0, .ref 511), (1, .int (iI w)), (2, .int (iI i)), (3, .int (iI j))]) (st' := [.int (iI el), .int (iI w), .ref 511, .int (iI ((((w * 8) + el) * 30) + p)), .ref 516]) rfl ?_
              refine T_p xr_36_47 xn_36 (pc' := 49) (ls' := [(5, .int (iI el)), (4, .int (iI p)), (0, .ref 511), (1, .int (iI w)), (2, .int (iI i)), (3, .int (iI j))]) (st' := [.int (iI p), .int (iI el), .int (iI w), .ref 511, .int (iI ((((w * 8) + el) * 30) + p)), .ref 516]) rfl ?_
              refine T_p xr_36_49 xn_36 (pc' := 50) (ls' := [(5, .int (iI el)), (4, .int (iI p)), (0, .ref 511), (1, .int (iI w)), (2, .int (iI i)), (3, .int (iI j))]) (st' := [.int (iI j), .int (iI p), .int (iI el), .int (iI w), .ref 511, .int (iI ((((w * 8) + el) * 30) + p)), .ref 516]) rfl ?_
              refine T_cv (S := S718) (q := 511) xr_36_50 xf_37.1 xf_37.2.1 xn_37 (as := [.int (iI w), .int (iI el), .int (iI p), .int (iI j)]) (r := [.int (iI ((((w * 8) + el) * 30) + p)), .ref 516]) rfl h719 (Nat.le_of_ble_eq_true rfl) (Nat.le_of_ble_eq_true rfl) (pc' := 53) rfl (ls' := [(0, .ref 511), (1, .int (iI w)), (2, .int (iI el)), (3, .int (iI p)), (4, .int (iI j))]) rfl ?_
              have h727 := (hF717.1 515 (by omega)).trans ((hF710.1 515 (by omega)).trans (hA515))
              have h728 := (hF717.1 501 (by omega)).trans ((hF710.1 501 (by omega)).trans (hO501))
              have h729 := (hF717.1 (B + 1) (by omega)).trans ((hF710.1 (B + 1) (by omega)).trans (hb1))
              have h730 := (hF717.1 (B + 2) (by omega)).trans ((hF710.1 (B + 2) (by omega)).trans (hb2))
              have h731 := (hF717.1 (B + 3) (by omega)).trans ((hF710.1 (B + 3) (by omega)).trans (hb3))
              have h732 := (hF717.1 (B + 4) (by omega)).trans ((hF710.1 (B + 4) (by omega)).trans (hb4))
              have h733 := (hF717.1 502 (by omega)).trans ((hF710.1 502 (by omega)).trans (hA502))
              refine T_mono (c_ways sc S718 oH tl2 B rc rn kn G tn fl w el p j h728 h719 h727 htl2 hB ⟨h720, h729, h730, h731, h732, ⟨f, h721, hf⟩, ⟨by omega, by omega⟩, ⟨by omega, by omega⟩, ⟨by omega, by omega⟩⟩ hs722 hG h733 (by omega) (by omega) (by omega) hD2 (fun z m h1 h2 _ => hH p (by omega) (by omega) _ (by omega) (by omega) z m h1 h2)) (fun v734 S735 h736 => ?_)
              rcases h736 with ⟨hv737, hf738⟩
              rw [hv737]
              rw [hf738]
              show X_T sc 36 (53, [(5, .int (iI el)), (4, .int (iI p)), (0, .ref 511), (1, .int (iI w)), (2, .int (iI i)), (3, .int (iI j))], [.long (X_st (-2) (X_Ew G (X_T_ G) w el p j)), .int (iI ((((w * 8) + el) * 30) + p)), .ref 516], S718) _
              refine T_zlast xr_36_53 htl2 (pc' := 54) rfl (fun S739 h740 n741 e742 => ?_)
              refine T_ziinc xr_36_54 xn_36 (a := el) (z := el + 1) rfl (Nat.le_of_ble_eq_true rfl) (by omega) (ls' := [(5, .int (iI (el + 1))), (4, .int (iI p)), (0, .ref 511), (1, .int (iI w)), (2, .int (iI i)), (3, .int (iI j))]) rfl (pc' := 57) rfl ?_
              refine T_p xr_36_57 xn_36 (pc' := 14) (ls' := [(5, .int (iI (el + 1))), (4, .int (iI p)), (0, .ref 511), (1, .int (iI w)), (2, .int (iI i)), (3, .int (iI j))]) (st' := []) rfl ?_
              exact ih714 S739 (el + 1) (X_ug tl2 ((((w * 8) + el) * 30) + p) (X_st (-2) (X_Ew G (X_T_ G) w el p j))) h740 (hF717.tr ((X_Fr.rf).tr (X_Fr.of n741 e742 (by omega)))) (by omega) (fun e g1 g2 => by
                    by_cases he : e = el
                    · subst he; rw [X_ug_s]
                    · rw [X_ug_n _ _ (by omega)]; exact hI e g1 (by omega)) (fun q h1 h2 e g1 g2 => by rw [X_ug_n _ _ (by omega)]; exact hD2 q h1 h2 e g1 g2) (by omega)
        exact L713 ((gD G w 3 0) + 1).toNat S711 1 tl1 htl1 ((X_Fr.rf)) (by omega) (fun e g1 g2 => absurd g2 (by omega)) hD1 (by omega)
  exact L706 (j + 1).toNat S (j - 1) tl hA516 ((X_Fr.rf)) (by omega) (fun q h1 h2 => absurd h2 (by omega)) (by omega)
