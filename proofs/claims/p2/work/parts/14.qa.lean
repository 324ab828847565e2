theorem xr_192_0 : X_row 192 0 = some (0, (.iload_n 1, 1), (0, 0, 0)) := by decide +kernel
theorem xr_192_1 : X_row 192 1 = some (1, (.iconst 1, 1), (0, 0, 0)) := by decide +kernel
theorem xr_192_2 : X_row 192 2 = some (2, (.iadd, 1), (0, 0, 0)) := by decide +kernel
theorem xr_192_3 : X_row 192 3 = some (3, (.istore_n 2, 1), (0, 0, 0)) := by decide +kernel
theorem xr_192_4 : X_row 192 4 = some (4, (.iload_n 2, 1), (0, 0, 0)) := by decide +kernel
theorem xr_192_5 : X_row 192 5 = some (5, (.aload_n 0, 1), (0, 0, 0)) := by decide +kernel
theorem xr_192_6 : X_row 192 6 = some (6, (.getfield 317, 3), (11, 49, 98)) := by decide +kernel
theorem xr_192_9 : X_row 192 9 = some (9, (.if_icmp .ge 19, 3), (0, 0, 0)) := by decide +kernel
theorem xr_192_12 : X_row 192 12 = some (12, (.aload_n 0, 1), (0, 0, 0)) := by decide +kernel
theorem xr_192_13 : X_row 192 13 = some (13, (.getfield 231, 3), (11, 47, 94)) := by decide +kernel
theorem xr_192_16 : X_row 192 16 = some (16, (.iload_n 2, 1), (0, 0, 0)) := by decide +kernel
theorem xr_192_17 : X_row 192 17 = some (17, (.iaload, 1), (0, 0, 0)) := by decide +kernel
theorem xr_192_18 : X_row 192 18 = some (18, (.iload_n 1, 1), (0, 0, 0)) := by decide +kernel
theorem xr_192_19 : X_row 192 19 = some (19, (.if_icmp .lt 9, 3), (0, 0, 0)) := by decide +kernel
theorem xr_192_22 : X_row 192 22 = some (22, (.iinc 2 1, 3), (0, 0, 0)) := by decide +kernel
theorem xr_192_25 : X_row 192 25 = some (25, (.goto (-21), 3), (0, 0, 0)) := by decide +kernel
theorem xr_192_28 : X_row 192 28 = some (28, (.iload_n 2, 1), (0, 0, 0)) := by decide +kernel
theorem xr_192_29 : X_row 192 29 = some (29, (.ireturn, 1), (0, 0, 0)) := by decide +kernel
theorem xr_194_0 : X_row 194 0 = some (0, (.iload_n 1, 1), (0, 0, 0)) := by decide +kernel
theorem xr_194_1 : X_row 194 1 = some (1, (.iconst 1, 1), (0, 0, 0)) := by decide +kernel
theorem xr_194_2 : X_row 194 2 = some (2, (.iadd, 1), (0, 0, 0)) := by decide +kernel
theorem xr_194_3 : X_row 194 3 = some (3, (.istore_n 2, 1), (0, 0, 0)) := by decide +kernel
theorem xr_194_4 : X_row 194 4 = some (4, (.iload_n 2, 1), (0, 0, 0)) := by decide +kernel
theorem xr_194_5 : X_row 194 5 = some (5, (.aload_n 0, 1), (0, 0, 0)) := by decide +kernel
theorem xr_194_6 : X_row 194 6 = some (6, (.getfield 317, 3), (11, 49, 98)) := by decide +kernel
theorem xr_194_9 : X_row 194 9 = some (9, (.if_icmp .ge 30, 3), (0, 0, 0)) := by decide +kernel
theorem xr_194_12 : X_row 194 12 = some (12, (.aload_n 0, 1), (0, 0, 0)) := by decide +kernel
theorem xr_194_13 : X_row 194 13 = some (13, (.getfield 231, 3), (11, 47, 94)) := by decide +kernel
theorem xr_194_16 : X_row 194 16 = some (16, (.iload_n 2, 1), (0, 0, 0)) := by decide +kernel
theorem xr_194_17 : X_row 194 17 = some (17, (.iaload, 1), (0, 0, 0)) := by decide +kernel
theorem xr_194_18 : X_row 194 18 = some (18, (.iload_n 1, 1), (0, 0, 0)) := by decide +kernel
theorem xr_194_19 : X_row 194 19 = some (19, (.if_icmp .ne 14, 3), (0, 0, 0)) := by decide +kernel
theorem xr_194_22 : X_row 194 22 = some (22, (.aload_n 0, 1), (0, 0, 0)) := by decide +kernel
theorem xr_194_23 : X_row 194 23 = some (23, (.getfield 288, 3), (11, 71, 142)) := by decide +kernel
theorem xr_194_26 : X_row 194 26 = some (26, (.iload_n 2, 1), (0, 0, 0)) := by decide +kernel
theorem xr_194_27 : X_row 194 27 = some (27, (.baload, 1), (0, 0, 0)) := by decide +kernel
theorem xr_194_28 : X_row 194 28 = some (28, (.ifCond .ne 5, 3), (0, 0, 0)) := by decide +kernel
theorem xr_194_31 : X_row 194 31 = some (31, (.iload_n 2, 1), (0, 0, 0)) := by decide +kernel
theorem xr_194_32 : X_row 194 32 = some (32, (.ireturn, 1), (0, 0, 0)) := by decide +kernel
theorem xr_194_33 : X_row 194 33 = some (33, (.iinc 2 1, 3), (0, 0, 0)) := by decide +kernel
theorem xr_194_36 : X_row 194 36 = some (36, (.goto (-32), 3), (0, 0, 0)) := by decide +kernel
theorem xr_194_39 : X_row 194 39 = some (39, (.iconst (-1), 1), (0, 0, 0)) := by decide +kernel
theorem xr_194_40 : X_row 194 40 = some (40, (.ireturn, 1), (0, 0, 0)) := by decide +kernel
theorem xr_196_0 : X_row 196 0 = some (0, (.aload_n 0, 1), (0, 0, 0)) := by decide +kernel
theorem xr_196_1 : X_row 196 1 = some (1, (.getfield 222, 3), (11, 44, 88)) := by decide +kernel
theorem xr_196_4 : X_row 196 4 = some (4, (.iload_n 1, 1), (0, 0, 0)) := by decide +kernel
theorem xr_196_5 : X_row 196 5 = some (5, (.iaload, 1), (0, 0, 0)) := by decide +kernel
theorem xr_196_6 : X_row 196 6 = some (6, (.istore_n 2, 1), (0, 0, 0)) := by decide +kernel
theorem xr_196_7 : X_row 196 7 = some (7, (.iload_n 2, 1), (0, 0, 0)) := by decide +kernel
theorem xr_196_8 : X_row 196 8 = some (8, (.bipush (-2), 2), (0, 0, 0)) := by decide +kernel
theorem xr_196_10 : X_row 196 10 = some (10, (.if_icmp .ne 22, 3), (0, 0, 0)) := by decide +kernel
theorem xr_196_13 : X_row 196 13 = some (13, (.aload_n 0, 1), (0, 0, 0)) := by decide +kernel
theorem xr_196_14 : X_row 196 14 = some (14, (.getfield 279, 3), (11, 65, 130)) := by decide +kernel
theorem xr_196_17 : X_row 196 17 = some (17, (.iload_n 1, 1), (0, 0, 0)) := by decide +kernel
theorem xr_196_18 : X_row 196 18 = some (18, (.aload_n 0, 1), (0, 0, 0)) := by decide +kernel
theorem xr_196_19 : X_row 196 19 = some (19, (.getfield 200, 3), (11, 36, 72)) := by decide +kernel
theorem xr_196_22 : X_row 196 22 = some (22, (.aload_n 0, 1), (0, 0, 0)) := by decide +kernel
theorem xr_196_23 : X_row 196 23 = some (23, (.getfield 225, 3), (11, 45, 90)) := by decide +kernel
theorem xr_196_26 : X_row 196 26 = some (26, (.iload_n 1, 1), (0, 0, 0)) := by decide +kernel
theorem xr_196_27 : X_row 196 27 = some (27, (.iaload, 1), (0, 0, 0)) := by decide +kernel
theorem xr_196_28 : X_row 196 28 = some (28, (.iaload, 1), (0, 0, 0)) := by decide +kernel
theorem xr_196_29 : X_row 196 29 = some (29, (.iastore, 1), (0, 0, 0)) := by decide +kernel
theorem xr_196_30 : X_row 196 30 = some (30, (.iconst 0, 1), (0, 0, 0)) := by decide +kernel
theorem xr_196_31 : X_row 196 31 = some (31, (.ireturn, 1), (0, 0, 0)) := by decide +kernel
theorem xr_196_32 : X_row 196 32 = some (32, (.iload_n 2, 1), (0, 0, 0)) := by decide +kernel
theorem xr_196_33 : X_row 196 33 = some (33, (.bipush (-3), 2), (0, 0, 0)) := by decide +kernel
theorem xr_196_35 : X_row 196 35 = some (35, (.if_icmp .ne 19, 3), (0, 0, 0)) := by decide +kernel
theorem xr_196_38 : X_row 196 38 = some (38, (.aload_n 0, 1), (0, 0, 0)) := by decide +kernel
theorem xr_196_39 : X_row 196 39 = some (39, (.getfield 279, 3), (11, 65, 130)) := by decide +kernel
theorem xr_196_42 : X_row 196 42 = some (42, (.iload_n 1, 1), (0, 0, 0)) := by decide +kernel
theorem xr_196_43 : X_row 196 43 = some (43, (.aload_n 0, 1), (0, 0, 0)) := by decide +kernel
theorem xr_196_44 : X_row 196 44 = some (44, (.getfield 279, 3), (11, 65, 130)) := by decide +kernel
theorem xr_196_47 : X_row 196 47 = some (47, (.iload_n 1, 1), (0, 0, 0)) := by decide +kernel
theorem xr_196_48 : X_row 196 48 = some (48, (.iconst 1, 1), (0, 0, 0)) := by decide +kernel
theorem xr_196_49 : X_row 196 49 = some (49, (.iadd, 1), (0, 0, 0)) := by decide +kernel
theorem xr_196_50 : X_row 196 50 = some (50, (.iaload, 1), (0, 0, 0)) := by decide +kernel
theorem xr_196_51 : X_row 196 51 = some (51, (.iastore, 1), (0, 0, 0)) := by decide +kernel
theorem xr_196_52 : X_row 196 52 = some (52, (.iconst 0, 1), (0, 0, 0)) := by decide +kernel
theorem xr_196_53 : X_row 196 53 = some (53, (.ireturn, 1), (0, 0, 0)) := by decide +kernel
theorem xr_196_54 : X_row 196 54 = some (54, (.iload_n 1, 1), (0, 0, 0)) := by decide +kernel
theorem xr_196_55 : X_row 196 55 = some (55, (.iconst 1, 1), (0, 0, 0)) := by decide +kernel
theorem xr_196_56 : X_row 196 56 = some (56, (.iadd, 1), (0, 0, 0)) := by decide +kernel
theorem xr_196_57 : X_row 196 57 = some (57, (.istore_n 3, 1), (0, 0, 0)) := by decide +kernel
theorem xr_196_58 : X_row 196 58 = some (58, (.iload_n 3, 1), (0, 0, 0)) := by decide +kernel
theorem xr_196_59 : X_row 196 59 = some (59, (.aload_n 0, 1), (0, 0, 0)) := by decide +kernel
theorem xr_196_60 : X_row 196 60 = some (60, (.getfield 317, 3), (11, 49, 98)) := by decide +kernel
theorem xr_196_63 : X_row 196 63 = some (63, (.if_icmp .ge 36, 3), (0, 0, 0)) := by decide +kernel
theorem xr_196_66 : X_row 196 66 = some (66, (.aload_n 0, 1), (0, 0, 0)) := by decide +kernel
theorem xr_196_67 : X_row 196 67 = some (67, (.getfield 231, 3), (11, 47, 94)) := by decide +kernel
theorem xr_196_70 : X_row 196 70 = some (70, (.iload_n 3, 1), (0, 0, 0)) := by decide +kernel
theorem xr_196_71 : X_row 196 71 = some (71, (.iaload, 1), (0, 0, 0)) := by decide +kernel
theorem xr_196_72 : X_row 196 72 = some (72, (.iload_n 1, 1), (0, 0, 0)) := by decide +kernel
theorem xr_196_73 : X_row 196 73 = some (73, (.if_icmp .ne 20, 3), (0, 0, 0)) := by decide +kernel
theorem xr_196_76 : X_row 196 76 = some (76, (.aload_n 0, 1), (0, 0, 0)) := by decide +kernel
theorem xr_196_77 : X_row 196 77 = some (77, (.getfield 285, 3), (11, 67, 134)) := by decide +kernel
theorem xr_196_80 : X_row 196 80 = some (80, (.aload_n 0, 1), (0, 0, 0)) := by decide +kernel
theorem xr_196_81 : X_row 196 81 = some (81, (.getfield 234, 3), (11, 48, 96)) := by decide +kernel
theorem xr_196_84 : X_row 196 84 = some (84, (.iload_n 3, 1), (0, 0, 0)) := by decide +kernel
theorem xr_196_85 : X_row 196 85 = some (85, (.iaload, 1), (0, 0, 0)) := by decide +kernel
theorem xr_196_86 : X_row 196 86 = some (86, (.aload_n 0, 1), (0, 0, 0)) := by decide +kernel
theorem xr_196_87 : X_row 196 87 = some (87, (.getfield 279, 3), (11, 65, 130)) := by decide +kernel
theorem xr_196_90 : X_row 196 90 = some (90, (.iload_n 3, 1), (0, 0, 0)) := by decide +kernel
theorem xr_196_91 : X_row 196 91 = some (91, (.iaload, 1), (0, 0, 0)) := by decide +kernel
theorem xr_196_92 : X_row 196 92 = some (92, (.iastore, 1), (0, 0, 0)) := by decide +kernel
theorem xr_196_93 : X_row 196 93 = some (93, (.iinc 3 1, 3), (0, 0, 0)) := by decide +kernel
theorem xr_196_96 : X_row 196 96 = some (96, (.goto (-38), 3), (0, 0, 0)) := by decide +kernel
theorem xr_196_99 : X_row 196 99 = some (99, (.bipush 30, 2), (0, 0, 0)) := by decide +kernel
theorem xr_196_101 : X_row 196 101 = some (101, (.aload_n 0, 1), (0, 0, 0)) := by decide +kernel
theorem xr_196_102 : X_row 196 102 = some (102, (.getfield 91, 3), (11, 4, 8)) := by decide +kernel
theorem xr_196_105 : X_row 196 105 = some (105, (.imul, 1), (0, 0, 0)) := by decide +kernel
theorem xr_196_106 : X_row 196 106 = some (106, (.iload_n 2, 1), (0, 0, 0)) := by decide +kernel
theorem xr_196_107 : X_row 196 107 = some (107, (.iadd, 1), (0, 0, 0)) := by decide +kernel
theorem xr_196_108 : X_row 196 108 = some (108, (.istore_n 3, 1), (0, 0, 0)) := by decide +kernel
theorem xr_196_109 : X_row 196 109 = some (109, (.aload_n 0, 1), (0, 0, 0)) := by decide +kernel
theorem xr_196_110 : X_row 196 110 = some (110, (.getfield 156, 3), (11, 22, 44)) := by decide +kernel
theorem xr_196_113 : X_row 196 113 = some (113, (.iload_n 3, 1), (0, 0, 0)) := by decide +kernel
theorem xr_196_114 : X_row 196 114 = some (114, (.iaload, 1), (0, 0, 0)) := by decide +kernel
theorem xr_196_115 : X_row 196 115 = some (115, (.ifCond .lt 10, 3), (0, 0, 0)) := by decide +kernel
theorem xr_196_118 : X_row 196 118 = some (118, (.aload_n 0, 1), (0, 0, 0)) := by decide +kernel
theorem xr_196_119 : X_row 196 119 = some (119, (.iload_n 3, 1), (0, 0, 0)) := by decide +kernel
theorem xr_196_120 : X_row 196 120 = some (120, (.iload_n 1, 1), (0, 0, 0)) := by decide +kernel
theorem xr_196_121 : X_row 196 121 = some (121, (.invokevirtual 417, 3), (197, 94, 0)) := by decide +kernel
theorem xr_196_124 : X_row 196 124 = some (124, (.ireturn, 1), (0, 0, 0)) := by decide +kernel
theorem xr_196_125 : X_row 196 125 = some (125, (.aload_n 0, 1), (0, 0, 0)) := by decide +kernel
theorem xr_196_126 : X_row 196 126 = some (126, (.getfield 273, 3), (11, 63, 126)) := by decide +kernel
theorem xr_196_129 : X_row 196 129 = some (129, (.iload_n 2, 1), (0, 0, 0)) := by decide +kernel
theorem xr_196_130 : X_row 196 130 = some (130, (.baload, 1), (0, 0, 0)) := by decide +kernel
theorem xr_196_131 : X_row 196 131 = some (131, (.ifCond .ne 5, 3), (0, 0, 0)) := by decide +kernel
theorem xr_196_134 : X_row 196 134 = some (134, (.iconst 2, 1), (0, 0, 0)) := by decide +kernel
theorem xr_196_135 : X_row 196 135 = some (135, (.ireturn, 1), (0, 0, 0)) := by decide +kernel
theorem xr_196_136 : X_row 196 136 = some (136, (.aload_n 0, 1), (0, 0, 0)) := by decide +kernel
theorem xr_196_137 : X_row 196 137 = some (137, (.getfield 279, 3), (11, 65, 130)) := by decide +kernel
theorem xr_196_140 : X_row 196 140 = some (140, (.iload_n 1, 1), (0, 0, 0)) := by decide +kernel
theorem xr_196_141 : X_row 196 141 = some (141, (.aload_n 0, 1), (0, 0, 0)) := by decide +kernel
theorem xr_196_142 : X_row 196 142 = some (142, (.getfield 276, 3), (11, 64, 128)) := by decide +kernel
theorem xr_196_145 : X_row 196 145 = some (145, (.iload_n 2, 1), (0, 0, 0)) := by decide +kernel
theorem xr_196_146 : X_row 196 146 = some (146, (.iaload, 1), (0, 0, 0)) := by decide +kernel
theorem xr_196_147 : X_row 196 147 = some (147, (.iastore, 1), (0, 0, 0)) := by decide +kernel
theorem xr_196_148 : X_row 196 148 = some (148, (.iconst 0, 1), (0, 0, 0)) := by decide +kernel
theorem xr_196_149 : X_row 196 149 = some (149, (.ireturn, 1), (0, 0, 0)) := by decide +kernel
theorem xr_197_0 : X_row 197 0 = some (0, (.iconst 0, 1), (0, 0, 0)) := by decide +kernel
theorem xr_197_1 : X_row 197 1 = some (1, (.istore_n 3, 1), (0, 0, 0)) := by decide +kernel
theorem xr_197_2 : X_row 197 2 = some (2, (.iconst 0, 1), (0, 0, 0)) := by decide +kernel
theorem xr_197_3 : X_row 197 3 = some (3, (.istore 4, 2), (0, 0, 0)) := by decide +kernel
theorem xr_197_5 : X_row 197 5 = some (5, (.iload 4, 2), (0, 0, 0)) := by decide +kernel
theorem xr_197_7 : X_row 197 7 = some (7, (.aload_n 0, 1), (0, 0, 0)) := by decide +kernel
theorem xr_197_8 : X_row 197 8 = some (8, (.getfield 156, 3), (11, 22, 44)) := by decide +kernel
theorem xr_197_11 : X_row 197 11 = some (11, (.iload_n 1, 1), (0, 0, 0)) := by decide +kernel
theorem xr_197_12 : X_row 197 12 = some (12, (.iaload, 1), (0, 0, 0)) := by decide +kernel
theorem xr_197_13 : X_row 197 13 = some (13, (.if_icmp .ge 241, 3), (0, 0, 0)) := by decide +kernel
theorem xr_197_16 : X_row 197 16 = some (16, (.aload_n 0, 1), (0, 0, 0)) := by decide +kernel
theorem xr_197_17 : X_row 197 17 = some (17, (.getfield 177, 3), (11, 23, 46)) := by decide +kernel
theorem xr_197_20 : X_row 197 20 = some (20, (.bipush 30, 2), (0, 0, 0)) := by decide +kernel
theorem xr_197_22 : X_row 197 22 = some (22, (.iload_n 1, 1), (0, 0, 0)) := by decide +kernel
theorem xr_197_23 : X_row 197 23 = some (23, (.imul, 1), (0, 0, 0)) := by decide +kernel
theorem xr_197_24 : X_row 197 24 = some (24, (.iload 4, 2), (0, 0, 0)) := by decide +kernel
theorem xr_197_26 : X_row 197 26 = some (26, (.iadd, 1), (0, 0, 0)) := by decide +kernel
theorem xr_197_27 : X_row 197 27 = some (27, (.iaload, 1), (0, 0, 0)) := by decide +kernel
theorem xr_197_28 : X_row 197 28 = some (28, (.istore 5, 2), (0, 0, 0)) := by decide +kernel
theorem xr_197_30 : X_row 197 30 = some (30, (.aload_n 0, 1), (0, 0, 0)) := by decide +kernel
theorem xr_197_31 : X_row 197 31 = some (31, (.getfield 180, 3), (11, 24, 48)) := by decide +kernel
theorem xr_197_34 : X_row 197 34 = some (34, (.bipush 30, 2), (0, 0, 0)) := by decide +kernel
theorem xr_197_36 : X_row 197 36 = some (36, (.iload_n 1, 1), (0, 0, 0)) := by decide +kernel
theorem xr_197_37 : X_row 197 37 = some (37, (.imul, 1), (0, 0, 0)) := by decide +kernel
theorem xr_197_38 : X_row 197 38 = some (38, (.iload 4, 2), (0, 0, 0)) := by decide +kernel
theorem xr_197_40 : X_row 197 40 = some (40, (.iadd, 1), (0, 0, 0)) := by decide +kernel
theorem xr_197_41 : X_row 197 41 = some (41, (.iaload, 1), (0, 0, 0)) := by decide +kernel
theorem xr_197_42 : X_row 197 42 = some (42, (.istore 6, 2), (0, 0, 0)) := by decide +kernel
theorem xr_197_44 : X_row 197 44 = some (44, (.iload 5, 2), (0, 0, 0)) := by decide +kernel
theorem xr_197_46 : X_row 197 46 = some (46, (.bipush 110, 2), (0, 0, 0)) := by decide +kernel
theorem xr_197_48 : X_row 197 48 = some (48, (.if_icmp .eq 10, 3), (0, 0, 0)) := by decide +kernel
theorem xr_197_51 : X_row 197 51 = some (51, (.iload 5, 2), (0, 0, 0)) := by decide +kernel
theorem xr_197_53 : X_row 197 53 = some (53, (.bipush 64, 2), (0, 0, 0)) := by decide +kernel
theorem xr_197_55 : X_row 197 55 = some (55, (.if_icmp .ne 34, 3), (0, 0, 0)) := by decide +kernel
theorem xr_197_58 : X_row 197 58 = some (58, (.aload_n 0, 1), (0, 0, 0)) := by decide +kernel
theorem xr_197_59 : X_row 197 59 = some (59, (.getfield 282, 3), (11, 66, 132)) := by decide +kernel
theorem xr_197_62 : X_row 197 62 = some (62, (.iload_n 3, 1), (0, 0, 0)) := by decide +kernel
theorem xr_197_63 : X_row 197 63 = some (63, (.iload 5, 2), (0, 0, 0)) := by decide +kernel
theorem xr_197_65 : X_row 197 65 = some (65, (.bipush 110, 2), (0, 0, 0)) := by decide +kernel
theorem xr_197_67 : X_row 197 67 = some (67, (.if_icmp .ne 8, 3), (0, 0, 0)) := by decide +kernel
theorem xr_197_70 : X_row 197 70 = some (70, (.iload 6, 2), (0, 0, 0)) := by decide +kernel
theorem xr_197_72 : X_row 197 72 = some (72, (.goto 10, 3), (0, 0, 0)) := by decide +kernel
theorem xr_197_75 : X_row 197 75 = some (75, (.aload_n 0, 1), (0, 0, 0)) := by decide +kernel
theorem xr_197_76 : X_row 197 76 = some (76, (.getfield 285, 3), (11, 67, 134)) := by decide +kernel
theorem xr_197_79 : X_row 197 79 = some (79, (.iload 6, 2), (0, 0, 0)) := by decide +kernel
theorem xr_197_81 : X_row 197 81 = some (81, (.iaload, 1), (0, 0, 0)) := by decide +kernel
theorem xr_197_82 : X_row 197 82 = some (82, (.iastore, 1), (0, 0, 0)) := by decide +kernel
theorem xr_197_83 : X_row 197 83 = some (83, (.iinc 3 1, 3), (0, 0, 0)) := by decide +kernel
theorem xr_197_86 : X_row 197 86 = some (86, (.goto 162, 3), (0, 0, 0)) := by decide +kernel
theorem xr_197_89 : X_row 197 89 = some (89, (.iinc 3 (-1), 3), (0, 0, 0)) := by decide +kernel
theorem xr_197_92 : X_row 197 92 = some (92, (.aload_n 0, 1), (0, 0, 0)) := by decide +kernel
theorem xr_197_93 : X_row 197 93 = some (93, (.getfield 282, 3), (11, 66, 132)) := by decide +kernel
theorem xr_197_96 : X_row 197 96 = some (96, (.iload_n 3, 1), (0, 0, 0)) := by decide +kernel
theorem xr_197_97 : X_row 197 97 = some (97, (.iconst 1, 1), (0, 0, 0)) := by decide +kernel
theorem xr_197_98 : X_row 197 98 = some (98, (.isub, 1), (0, 0, 0)) := by decide +kernel
theorem xr_197_99 : X_row 197 99 = some (99, (.iaload, 1), (0, 0, 0)) := by decide +kernel
theorem xr_197_100 : X_row 197 100 = some (100, (.istore 7, 2), (0, 0, 0)) := by decide +kernel
theorem xr_197_102 : X_row 197 102 = some (102, (.aload_n 0, 1), (0, 0, 0)) := by decide +kernel
theorem xr_197_103 : X_row 197 103 = some (103, (.getfield 282, 3), (11, 66, 132)) := by decide +kernel
theorem xr_197_106 : X_row 197 106 = some (106, (.iload_n 3, 1), (0, 0, 0)) := by decide +kernel
theorem xr_197_107 : X_row 197 107 = some (107, (.iaload, 1), (0, 0, 0)) := by decide +kernel
theorem xr_197_108 : X_row 197 108 = some (108, (.istore 8, 2), (0, 0, 0)) := by decide +kernel
theorem xr_197_110 : X_row 197 110 = some (110, (.iload 5, 2), (0, 0, 0)) := by decide +kernel
theorem xr_197_112 : X_row 197 112 = some (112, (.bipush 47, 2), (0, 0, 0)) := by decide +kernel
theorem xr_197_114 : X_row 197 114 = some (114, (.if_icmp .eq 10, 3), (0, 0, 0)) := by decide +kernel
theorem xr_197_117 : X_row 197 117 = some (117, (.iload 5, 2), (0, 0, 0)) := by decide +kernel
theorem xr_197_119 : X_row 197 119 = some (119, (.bipush 37, 2), (0, 0, 0)) := by decide +kernel
theorem xr_197_121 : X_row 197 121 = some (121, (.if_icmp .ne 10, 3), (0, 0, 0)) := by decide +kernel
theorem xr_197_124 : X_row 197 124 = some (124, (.iload 8, 2), (0, 0, 0)) := by decide +kernel
theorem xr_197_126 : X_row 197 126 = some (126, (.ifCond .ne 5, 3), (0, 0, 0)) := by decide +kernel
theorem xr_197_129 : X_row 197 129 = some (129, (.iconst 1, 1), (0, 0, 0)) := by decide +kernel
theorem xr_197_130 : X_row 197 130 = some (130, (.ireturn, 1), (0, 0, 0)) := by decide +kernel
theorem xr_197_131 : X_row 197 131 = some (131, (.aload_n 0, 1), (0, 0, 0)) := by decide +kernel
theorem xr_197_132 : X_row 197 132 = some (132, (.getfield 282, 3), (11, 66, 132)) := by decide +kernel
theorem xr_197_135 : X_row 197 135 = some (135, (.iload_n 3, 1), (0, 0, 0)) := by decide +kernel
theorem xr_197_136 : X_row 197 136 = some (136, (.iconst 1, 1), (0, 0, 0)) := by decide +kernel
theorem xr_197_137 : X_row 197 137 = some (137, (.isub, 1), (0, 0, 0)) := by decide +kernel
theorem xr_197_138 : X_row 197 138 = some (138, (.iload 5, 2), (0, 0, 0)) := by decide +kernel
theorem xr_197_140 : X_row 197 140 = some (140, (.bipush 43, 2), (0, 0, 0)) := by decide +kernel
theorem xr_197_142 : X_row 197 142 = some (142, (.if_icmp .ne 11, 3), (0, 0, 0)) := by decide +kernel
theorem xr_197_145 : X_row 197 145 = some (145, (.iload 7, 2), (0, 0, 0)) := by decide +kernel
theorem xr_197_147 : X_row 197 147 = some (147, (.iload 8, 2), (0, 0, 0)) := by decide +kernel
theorem xr_197_149 : X_row 197 149 = some (149, (.iadd, 1), (0, 0, 0)) := by decide +kernel
theorem xr_197_150 : X_row 197 150 = some (150, (.goto 97, 3), (0, 0, 0)) := by decide +kernel
theorem xr_197_153 : X_row 197 153 = some (153, (.iload 5, 2), (0, 0, 0)) := by decide +kernel
theorem xr_197_155 : X_row 197 155 = some (155, (.bipush 45, 2), (0, 0, 0)) := by decide +kernel
theorem xr_197_157 : X_row 197 157 = some (157, (.if_icmp .ne 11, 3), (0, 0, 0)) := by decide +kernel
theorem xr_197_160 : X_row 197 160 = some (160, (.iload 7, 2), (0, 0, 0)) := by decide +kernel
theorem xr_197_162 : X_row 197 162 = some (162, (.iload 8, 2), (0, 0, 0)) := by decide +kernel
theorem xr_197_164 : X_row 197 164 = some (164, (.isub, 1), (0, 0, 0)) := by decide +kernel
theorem xr_197_165 : X_row 197 165 = some (165, (.goto 82, 3), (0, 0, 0)) := by decide +kernel
theorem xr_197_168 : X_row 197 168 = some (168, (.iload 5, 2), (0, 0, 0)) := by decide +kernel
theorem xr_197_170 : X_row 197 170 = some (170, (.bipush 42, 2), (0, 0, 0)) := by decide +kernel
theorem xr_197_172 : X_row 197 172 = some (172, (.if_icmp .ne 11, 3), (0, 0, 0)) := by decide +kernel
theorem xr_197_175 : X_row 197 175 = some (175, (.iload 7, 2), (0, 0, 0)) := by decide +kernel
theorem xr_197_177 : X_row 197 177 = some (177, (.iload 8, 2), (0, 0, 0)) := by decide +kernel
theorem xr_197_179 : X_row 197 179 = some (179, (.imul, 1), (0, 0, 0)) := by decide +kernel
theorem xr_197_180 : X_row 197 180 = some (180, (.goto 67, 3), (0, 0, 0)) := by decide +kernel
theorem xr_197_183 : X_row 197 183 = some (183, (.iload 5, 2), (0, 0, 0)) := by decide +kernel
theorem xr_197_185 : X_row 197 185 = some (185, (.bipush 47, 2), (0, 0, 0)) := by decide +kernel
theorem xr_197_187 : X_row 197 187 = some (187, (.if_icmp .ne 23, 3), (0, 0, 0)) := by decide +kernel
theorem xr_197_190 : X_row 197 190 = some (190, (.iload 8, 2), (0, 0, 0)) := by decide +kernel
theorem xr_197_192 : X_row 197 192 = some (192, (.iconst (-1), 1), (0, 0, 0)) := by decide +kernel
theorem xr_197_193 : X_row 197 193 = some (193, (.if_icmp .ne 9, 3), (0, 0, 0)) := by decide +kernel
theorem xr_197_196 : X_row 197 196 = some (196, (.iload 7, 2), (0, 0, 0)) := by decide +kernel
theorem xr_197_198 : X_row 197 198 = some (198, (.ineg, 1), (0, 0, 0)) := by decide +kernel
theorem xr_197_199 : X_row 197 199 = some (199, (.goto 48, 3), (0, 0, 0)) := by decide +kernel
theorem xr_197_202 : X_row 197 202 = some (202, (.iload 7, 2), (0, 0, 0)) := by decide +kernel
theorem xr_197_204 : X_row 197 204 = some (204, (.iload 8, 2), (0, 0, 0)) := by decide +kernel
theorem xr_197_206 : X_row 197 206 = some (206, (.idiv, 1), (0, 0, 0)) := by decide +kernel
theorem xr_197_207 : X_row 197 207 = some (207, (.goto 40, 3), (0, 0, 0)) := by decide +kernel
theorem xr_197_210 : X_row 197 210 = some (210, (.iload 5, 2), (0, 0, 0)) := by decide +kernel
theorem xr_197_212 : X_row 197 212 = some (212, (.bipush 37, 2), (0, 0, 0)) := by decide +kernel
theorem xr_197_214 : X_row 197 214 = some (214, (.if_icmp .ne 21, 3), (0, 0, 0)) := by decide +kernel
theorem xr_197_217 : X_row 197 217 = some (217, (.iload 8, 2), (0, 0, 0)) := by decide +kernel
theorem xr_197_219 : X_row 197 219 = some (219, (.iconst (-1), 1), (0, 0, 0)) := by decide +kernel
theorem xr_197_220 : X_row 197 220 = some (220, (.if_icmp .ne 7, 3), (0, 0, 0)) := by decide +kernel
theorem xr_197_223 : X_row 197 223 = some (223, (.iconst 0, 1), (0, 0, 0)) := by decide +kernel
theorem xr_197_224 : X_row 197 224 = some (224, (.goto 23, 3), (0, 0, 0)) := by decide +kernel
theorem xr_197_227 : X_row 197 227 = some (227, (.iload 7, 2), (0, 0, 0)) := by decide +kernel
theorem xr_197_229 : X_row 197 229 = some (229, (.iload 8, 2), (0, 0, 0)) := by decide +kernel
theorem xr_197_231 : X_row 197 231 = some (231, (.irem, 1), (0, 0, 0)) := by decide +kernel
theorem xr_197_232 : X_row 197 232 = some (232, (.goto 15, 3), (0, 0, 0)) := by decide +kernel
theorem xr_197_235 : X_row 197 235 = some (235, (.iload 7, 2), (0, 0, 0)) := by decide +kernel
theorem xr_197_237 : X_row 197 237 = some (237, (.iload 8, 2), (0, 0, 0)) := by decide +kernel
theorem xr_197_239 : X_row 197 239 = some (239, (.if_icmp .ge 7, 3), (0, 0, 0)) := by decide +kernel
theorem xr_197_242 : X_row 197 242 = some (242, (.iconst 1, 1), (0, 0, 0)) := by decide +kernel
theorem xr_197_243 : X_row 197 243 = some (243, (.goto 4, 3), (0, 0, 0)) := by decide +kernel
theorem xr_197_246 : X_row 197 246 = some (246, (.iconst 0, 1), (0, 0, 0)) := by decide +kernel
theorem xr_197_247 : X_row 197 247 = some (247, (.iastore, 1), (0, 0, 0)) := by decide +kernel
theorem xr_197_248 : X_row 197 248 = some (248, (.iinc 4 1, 3), (0, 0, 0)) := by decide +kernel
theorem xr_197_251 : X_row 197 251 = some (251, (.goto (-246), 3), (0, 0, 0)) := by decide +kernel
theorem xr_197_254 : X_row 197 254 = some (254, (.aload_n 0, 1), (0, 0, 0)) := by decide +kernel
theorem xr_197_255 : X_row 197 255 = some (255, (.getfield 279, 3), (11, 65, 130)) := by decide +kernel
theorem xr_197_258 : X_row 197 258 = some (258, (.iload_n 2, 1), (0, 0, 0)) := by decide +kernel
theorem xr_197_259 : X_row 197 259 = some (259, (.aload_n 0, 1), (0, 0, 0)) := by decide +kernel
theorem xr_197_260 : X_row 197 260 = some (260, (.getfield 282, 3), (11, 66, 132)) := by decide +kernel
theorem xr_197_263 : X_row 197 263 = some (263, (.iconst 0, 1), (0, 0, 0)) := by decide +kernel
theorem xr_197_264 : X_row 197 264 = some (264, (.iaload, 1), (0, 0, 0)) := by decide +kernel
theorem xr_197_265 : X_row 197 265 = some (265, (.iastore, 1), (0, 0, 0)) := by decide +kernel
theorem xr_197_266 : X_row 197 266 = some (266, (.iconst 0, 1), (0, 0, 0)) := by decide +kernel
theorem xr_197_267 : X_row 197 267 = some (267, (.ireturn, 1), (0, 0, 0)) := by decide +kernel
theorem xn_192 : X_nL 192 = 3 := by decide +kernel
theorem xf_192 : X_na 192 = 1 ∧ X_ci 192 = 11 ∧ X_rt 192 = (some .int) := by decide +kernel
theorem xn_194 : X_nL 194 = 3 := by decide +kernel
theorem xf_194 : X_na 194 = 1 ∧ X_ci 194 = 11 ∧ X_rt 194 = (some .int) := by decide +kernel
theorem xn_196 : X_nL 196 = 4 := by decide +kernel
theorem xf_196 : X_na 196 = 1 ∧ X_ci 196 = 11 ∧ X_rt 196 = (some .int) := by decide +kernel
theorem xn_197 : X_nL 197 = 9 := by decide +kernel
theorem xf_197 : X_na 197 = 2 ∧ X_ci 197 = 11 ∧ X_rt 197 = (some .int) := by decide +kernel
set_option maxHeartbeats 1600000 in
theorem r_steps (sc : X_Sc) (S : X_S) (wS : Int → Int) (sO : Int → Int) (sN : Int → Int) (vs : Int → Int) (pl : Int → Int) (hv : Int → Int) (o : Nat → Int) (nm : Int64) (b : Int) (rc : Int) (G : X_G) (tn : Int) (w : Int) (n : Int) (ch : Int → Int) (hO530 : S.1 530 = .inr (11, [.ref 531, .int (iI (o 1)), .ref 532, .int (iI (o 3)), .int (iI b), .int (iI (o 5)), .int (iI (o 6)), .int (iI (o 7)), .int (iI (o 8)), .int (iI (o 9)), .int (iI (o 10)), .int (iI (o 11)), .long nm, .ref 533, .ref 534, .ref 535, .ref 536, .ref 537, .ref 538, .ref 539, .ref 540, .ref 541, .ref 542, .ref 543, .ref 544, .ref 545, .ref 546, .ref 547, .int (iI rc), .int (iI (gk G)), .int (iI (gw G)), .int (iI (o 31)), .int (iI (o 32)), .int (iI (o 33)), .ref 548, .ref 549, .ref 550, .ref 551, .int (iI tn), .ref 552, .ref 553, .ref 554, .ref 555, .ref 556, .ref 557, .ref 558, .ref 559, .ref 560, .ref 561, .int (iI (o 49)), .ref 562, .ref 563, .ref 564, .ref 565, .ref 566, .ref 567, .ref 568, .ref 569, .int (iI (o 58)), .ref 570, .ref 571, .ref 572, .ref 573, .ref 574, .ref 575, .ref 576, .ref 577, .ref 578, .int (iI (o 68)), .int (iI (o 69)), .int (iI (o 70)), .ref 579])) (hA542 : S.1 542 = .inl (.int, 60, .inl fun k : Nat => iI (wS (k : Int)))) (hA543 : S.1 543 = .inl (.int, 1800, .inl fun k : Nat => iI (sO (k : Int)))) (hA544 : S.1 544 = .inl (.int, 1800, .inl fun k : Nat => iI (sN (k : Int)))) (hA576 : S.1 576 = .inl (.int, 40, .inl fun k : Nat => iI (vs (k : Int)))) (hA577 : S.1 577 = .inl (.int, 18, .inl fun k : Nat => iI (pl (k : Int)))) (hA578 : S.1 578 = .inl (.int, 4, .inl fun k : Nat => iI (hv (k : Int)))) (hbr : 0 ≤ b ∧ b ≤ 1) (hWS : ∀ w, 0 ≤ w → w < gw G → wS (30 * b + w) = gD G w 5 0) (hST : ∀ w, 0 ≤ w → w < gw G → ∀ k, 0 ≤ k → k < gD G w 5 0 → sO (30 * (30 * b + w) + k) = X_op (gD G w 12 k) ∧ (gD G w 12 k = 4 → sN (30 * (30 * b + w) + k) = gD G w 13 k) ∧ (gD G w 12 k = 64 → sN (30 * (30 * b + w) + k) = gD G w 13 k - 1)) (hw : (0 ≤ w ∧ w < gw G) ∧ gw G ≤ 30) (hsk : X_sok (gD G w) ∧ gD G w 5 0 ≤ 30 ∧ X_ph (gD G w 12) (gD G w 5 0).toNat = 1) (hn : 0 ≤ n ∧ n < 40) (hcv : ∀ h, 0 ≤ h → h < gD G w 4 0 → hv h = ch h) (h44 : 0 ≤ gD G w 4 0 ∧ gD G w 4 0 ≤ 4) : X_T sc 197 (0, [(0, .ref 530), (1, .int (iI (30 * b + w))), (2, .int (iI n))], [], S) (fun v S' => (∃ (pl1 : Int → Int), v = some (.int (iI 1)) ∧ X_wS (gD G w) ch (gD G w 5 0).toNat = none ∧ S'.1 577 = .inl (.int, 18, .inl fun k : Nat => iI (pl1 (k : Int))) ∧ X_Fr (fun q => q = 577) S S') ∨ (∃ (pl1 : Int → Int) (rr : Int × (Int → Int)), v = some (.int (iI 0)) ∧ X_wS (gD G w) ch (gD G w 5 0).toNat = some rr ∧ S'.1 576 = .inl (.int, 40, .inl fun k : Nat => iI ((X_ug vs n (rr.2 0)) (k : Int))) ∧ S'.1 577 = .inl (.int, 18, .inl fun k : Nat => iI (pl1 (k : Int))) ∧ (X_Fr (fun q => q = 576 ∨ q = 577) S S'))) := by
  have h50 := hsk.1.1
  refine X_QI (fun Q hQ => ?_)
  refine T_p xr_197_0 xn_197 (pc' := 1) (ls' := [(0, .ref 530), (1, .int (iI (30 * b + w))), (2, .int (iI n))]) (st' := [.int (iI 0)]) rfl ?_
  refine T_p xr_197_1 xn_197 (pc' := 2) (ls' := [(3, .int (iI 0)), (0, .ref 530), (1, .int (iI (30 * b + w))), (2, .int (iI n))]) (st' := []) rfl ?_
  refine T_p xr_197_2 xn_197 (pc' := 3) (ls' := [(3, .int (iI 0)), (0, .ref 530), (1, .int (iI (30 * b + w))), (2, .int (iI n))]) (st' := [.int (iI 0)]) rfl ?_
  refine T_p xr_197_3 xn_197 (pc' := 5) (ls' := [(4, .int (iI 0)), (3, .int (iI 0)), (0, .ref 530), (1, .int (iI (30 * b + w))), (2, .int (iI n))]) (st' := []) rfl ?_
  have L2410 : ∀ (m2412 : Nat) (S2415 : X_S) (k : Int) (hg : Int) (pl1 : Int → Int) (pr : Int → Int) (hpl1 : S2415.1 577 = .inl (.int, 18, .inl fun k : Nat => iI (pl1 (k : Int)))) (hF2414 : X_Fr (fun q => q = 577) S S2415) (hk : 0 ≤ k ∧ k ≤ gD G w 5 0) (hS : X_wS (gD G w) ch k.toNat = some (hg, pr)) (hpr : ∀ q, 0 ≤ q → q < hg → pl1 q = pr q) (hhg : 0 ≤ hg ∧ hg ≤ 16) (hm2413 : gD G w 5 0 - k < m2412), X_T sc 197 (5, [(4, .int (iI k)), (3, .int (iI hg)), (2, .int (iI n)), (1, .int (iI (30 * b + w))), (0, .ref 530)], [], S2415) Q := by
    intro m2412
    induction m2412 with
    | zero =>
      intro S2415 k hg pl1 pr hpl1 hF2414 hk hS hpr hhg hm2413
      exact (show False by omega).elim
    | succ m2412 ih2411 =>
      intro S2415 k hg pl1 pr hpl1 hF2414 hk hS hpr hhg hm2413
      refine T_p xr_197_5 xn_197 (pc' := 7) (ls' := [(4, .int (iI k)), (3, .int (iI hg)), (2, .int (iI n)), (1, .int (iI (30 * b + w))), (0, .ref 530)]) (st' := [.int (iI k)]) rfl ?_
      refine T_p xr_197_7 xn_197 (pc' := 8) (ls' := [(4, .int (iI k)), (3, .int (iI hg)), (2, .int (iI n)), (1, .int (iI (30 * b + w))), (0, .ref 530)]) (st' := [.ref 530, .int (iI k)]) rfl ?_
      have h2416 := (hF2414.1 530 (by omega)).trans (hO530)
      refine T_get xr_197_8 h2416 rfl (v := .ref 542) rfl (pc' := 11) rfl ?_
      refine T_p xr_197_11 xn_197 (pc' := 12) (ls' := [(4, .int (iI k)), (3, .int (iI hg)), (2, .int (iI n)), (1, .int (iI (30 * b + w))), (0, .ref 530)]) (st' := [.int (iI (30 * b + w)), .ref 542, .int (iI k)]) rfl ?_
      have h2417 := (hF2414.1 542 (by omega)).trans (hA542)
      refine T_ziald xr_197_12 h2417 (pc' := 13) rfl ?_
      refine T_ie (y := iI (gD G w 5 0)) (by rw [hWS w hw.1.1 hw.1.2]) ?_
      refine T_zicmp_ge xr_197_13 (t := 254) (pc' := 16) rfl rfl (fun c2418 => ?_) (fun c2418 => ?_)
      · skip
        have c2418 : (gD G w 5 0) ≤ k := c2418
        refine T_p xr_197_254 xn_197 (pc' := 255) (ls' := [(4, .int (iI k)), (3, .int (iI hg)), (2, .int (iI n)), (1, .int (iI (30 * b + w))), (0, .ref 530)]) (st' := [.ref 530]) rfl ?_
        refine T_get xr_197_255 h2416 rfl (v := .ref 576) rfl (pc' := 258) rfl ?_
        refine T_p xr_197_258 xn_197 (pc' := 259) (ls' := [(4, .int (iI k)), (3, .int (iI hg)), (2, .int (iI n)), (1, .int (iI (30 * b + w))), (0, .ref 530)]) (st' := [.int (iI n), .ref 576]) rfl ?_
        refine T_p xr_197_259 xn_197 (pc' := 260) (ls' := [(4, .int (iI k)), (3, .int (iI hg)), (2, .int (iI n)), (1, .int (iI (30 * b + w))), (0, .ref 530)]) (st' := [.ref 530, .int (iI n), .ref 576]) rfl ?_
        refine T_get xr_197_260 h2416 rfl (v := .ref 577) rfl (pc' := 263) rfl ?_
        refine T_p xr_197_263 xn_197 (pc' := 264) (ls' := [(4, .int (iI k)), (3, .int (iI hg)), (2, .int (iI n)), (1, .int (iI (30 * b + w))), (0, .ref 530)]) (st' := [.int (iI 0), .ref 577, .int (iI n), .ref 576]) rfl ?_
        refine T_ziald xr_197_264 hpl1 (pc' := 265) rfl ?_
        refine T_ie (y := iI (pr 0)) (by rw [hpr 0 (by omega) (by have := X_wS_h hsk.1 k.toNat (hg, pr) (by omega) hS; rw [show k = gD G w 5 0 by omega, hsk.2.2] at this; have : hg = 1 := this; omega)]) ?_
        have h2419 := (hF2414.1 576 (by omega)).trans (hA576)
        refine T_ziast xr_197_265 h2419 (pc' := 266) rfl (fun S2420 h2421 n2422 e2423 => ?_)
        refine T_p xr_197_266 xn_197 (pc' := 267) (ls' := [(4, .int (iI k)), (3, .int (iI hg)), (2, .int (iI n)), (1, .int (iI (30 * b + w))), (0, .ref 530)]) (st' := [.int (iI 0)]) rfl ?_
        refine T_iret xr_197_267 xf_197.2.2 rfl ?_
        refine hQ _ _ ?_
        have h2424 := (n2422 577 (by decide)).trans (hpl1)
        exact Or.inr ⟨pl1, (hg, pr), rfl, (by rw [show gD G w 5 0 = k by omega]; exact hS), h2421, h2424, ((X_Fr.rf).tr (X_Fr.mono ⟨hF2414.1, hF2414.2⟩ (fun q hq => (by omega)))).tr (X_Fr.of n2422 e2423 (by omega))⟩
      · skip
        have c2418 : ¬ ((gD G w 5 0) ≤ k) := c2418
        have hst := hsk.1.2.2 k (by omega) (by omega)
        have hph : hg = X_ph (gD G w 12) k.toNat := X_wS_h hsk.1 k.toNat (hg, pr) (by omega) hS
        have hrng := X_wS_r k.toNat (hg, pr) hS
        have hr1 : -2147483648 ≤ pr (hg - 1) ∧ pr (hg - 1) ≤ 2147483647 := hrng (hg - 1)
        have hr2 : -2147483648 ≤ pr (hg - 2) ∧ pr (hg - 2) ≤ 2147483647 := hrng (hg - 2)
        have hgo := X_wS_s (gD G w) ch (k := k) (by omega)
        rw [hS] at hgo
        simp only [Option.bind] at hgo
        unfold X_st1 at hst
        have hst2 : (X_isOp (gD G w 12 k) ∧ 2 ≤ hg ∧ hg ≤ 16) ∨ (¬ X_isOp (gD G w 12 k) ∧ (gD G w 12 k = 4 ∨ (gD G w 12 k = 64 ∧ 1 ≤ gD G w 13 k ∧ gD G w 13 k ≤ gD G w 4 0)) ∧ 0 ≤ hg ∧ hg < 16) := by rw [hph]; exact hst
        have hsr : (gD G w 12 k = 4 ∧ 0 ≤ hg ∧ hg < 16) ∨ (gD G w 12 k = 64 ∧ (1 ≤ gD G w 13 k ∧ gD G w 13 k ≤ gD G w 4 0) ∧ 0 ≤ hg ∧ hg < 16) ∨ ((gD G w 12 k = 43 ∨ gD G w 12 k = 45 ∨ gD G w 12 k = 42 ∨ gD G w 12 k = 47 ∨ gD G w 12 k = 37 ∨ gD G w 12 k = 60) ∧ 2 ≤ hg ∧ hg ≤ 16) := by
          rcases hst2 with ⟨z, z1⟩ | ⟨-, z, z2⟩
          · unfold X_isOp at z; omega
          · omega
        have hso := hST w hw.1.1 hw.1.2 k (by omega) (by omega)
        obtain ⟨s, hs0⟩ : ∃ s, s = X_op (gD G w 12 k) := ⟨_, rfl⟩
        have hs1 : (gD G w 12 k = 4 → s = 110) ∧ (¬ gD G w 12 k = 4 → s = gD G w 12 k) := ⟨fun z => by rw [hs0]; unfold X_op; rw [if_pos z], fun z => by rw [hs0]; unfold X_op; rw [if_neg z]⟩
        refine T_p xr_197_16 xn_197 (pc' := 17) (ls' := [(4, .int (iI k)), (3, .int (iI hg)), (2, .int (iI n)), (1, .int (iI (30 * b + w))), (0, .ref 530)]) (st' := [.ref 530]) rfl ?_
        refine T_get xr_197_17 h2416 rfl (v := .ref 543) rfl (pc' := 20) rfl ?_
        refine T_p xr_197_20 xn_197 (pc' := 22) (ls' := [(4, .int (iI k)), (3, .int (iI hg)), (2, .int (iI n)), (1, .int (iI (30 * b + w))), (0, .ref 530)]) (st' := [.int (iI 30), .ref 543]) rfl ?_
        refine T_p xr_197_22 xn_197 (pc' := 23) (ls' := [(4, .int (iI k)), (3, .int (iI hg)), (2, .int (iI n)), (1, .int (iI (30 * b + w))), (0, .ref 530)]) (st' := [.int (iI (30 * b + w)), .int (iI 30), .ref 543]) rfl ?_
        refine T_zimul xr_197_23 (z := 30 * (30 * b + w)) rfl (pc' := 24) rfl ?_
        refine T_p xr_197_24 xn_197 (pc' := 26) (ls' := [(4, .int (iI k)), (3, .int (iI hg)), (2, .int (iI n)), (1, .int (iI (30 * b + w))), (0, .ref 530)]) (st' := [.int (iI k), .int (iI (30 * (30 * b + w))), .ref 543]) rfl ?_
        refine T_ziadd xr_197_26 (z := (30 * (30 * b + w)) + k) rfl (pc' := 27) rfl ?_
        have h2425 := (hF2414.1 543 (by omega)).trans (hA543)
        refine T_ziald xr_197_27 h2425 (pc' := 28) rfl ?_
        refine T_ie (y := iI s) (by rw [hs0, hso.1]) ?_
        refine T_p xr_197_28 xn_197 (pc' := 30) (ls' := [(5, .int (iI s)), (4, .int (iI k)), (3, .int (iI hg)), (2, .int (iI n)), (1, .int (iI (30 * b + w))), (0, .ref 530)]) (st' := []) rfl ?_
        refine T_p xr_197_30 xn_197 (pc' := 31) (ls' := [(5, .int (iI s)), (4, .int (iI k)), (3, .int (iI hg)), (2, .int (iI n)), (1, .int (iI (30 * b + w))), (0, .ref 530)]) (st' := [.ref 530]) rfl ?_
        refine T_get xr_197_31 h2416 rfl (v := .ref 544) rfl (pc' := 34) rfl ?_
        refine T_p xr_197_34 xn_197 (pc' := 36) (ls' := [(5, .int (iI s)), (4, .int (iI k)), (3, .int (iI hg)), (2, .int (iI n)), (1, .int (iI (30 * b + w))), (0, .ref 530)]) (st' := [.int (iI 30), .ref 544]) rfl ?_
        refine T_p xr_197_36 xn_197 (pc' := 37) (ls' := [(5, .int (iI s)), (4, .int (iI k)), (3, .int (iI hg)), (2, .int (iI n)), (1, .int (iI (30 * b + w))), (0, .ref 530)]) (st' := [.int (iI (30 * b + w)), .int (iI 30), .ref 544]) rfl ?_
        refine T_zimul xr_197_37 (z := 30 * (30 * b + w)) rfl (pc' := 38) rfl ?_
        refine T_p xr_197_38 xn_197 (pc' := 40) (ls' := [(5, .int (iI s)), (4, .int (iI k)), (3, .int (iI hg)), (2, .int (iI n)), (1, .int (iI (30 * b + w))), (0, .ref 530)]) (st' := [.int (iI k), .int (iI (30 * (30 * b + w))), .ref 544]) rfl ?_
        refine T_ziadd xr_197_40 (z := (30 * (30 * b + w)) + k) rfl (pc' := 41) rfl ?_
        have h2426 := (hF2414.1 544 (by omega)).trans (hA544)
        refine T_ziald xr_197_41 h2426 (pc' := 42) rfl ?_
        refine T_p xr_197_42 xn_197 (pc' := 44) (ls' := [(6, .int (iI (sN ((30 * (30 * b + w)) + k)))), (5, .int (iI s)), (4, .int (iI k)), (3, .int (iI hg)), (2, .int (iI n)), (1, .int (iI (30 * b + w))), (0, .ref 530)]) (st' := []) rfl ?_
        refine T_p xr_197_44 xn_197 (pc' := 46) (ls' := [(6, .int (iI (sN ((30 * (30 * b + w)) + k)))), (5, .int (iI s)), (4, .int (iI k)), (3, .int (iI hg)), (2, .int (iI n)), (1, .int (iI (30 * b + w))), (0, .ref 530)]) (st' := [.int (iI s)]) rfl ?_
        refine T_p xr_197_46 xn_197 (pc' := 48) (ls' := [(6, .int (iI (sN ((30 * (30 * b + w)) + k)))), (5, .int (iI s)), (4, .int (iI k)), (3, .int (iI hg)), (2, .int (iI n)), (1, .int (iI (30 * b + w))), (0, .ref 530)]) (st' := [.int (iI 110), .int (iI s)]) rfl ?_
        refine T_zicmp_eq xr_197_48 (t := 58) (pc' := 51) rfl rfl (fun c2427 => ?_) (fun c2427 => ?_)
        · skip
          have c2427 : s = 110 := c2427
          refine T_p xr_197_58 xn_197 (pc' := 59) (ls' := [(6, .int (iI (sN ((30 * (30 * b + w)) + k)))), (5, .int (iI s)), (4, .int (iI k)), (3, .int (iI hg)), (2, .int (iI n)), (1, .int (iI (30 * b + w))), (0, .ref 530)]) (st' := [.ref 530]) rfl ?_
          refine T_get xr_197_59 h2416 rfl (v := .ref 577) rfl (pc' := 62) rfl ?_
          refine T_p xr_197_62 xn_197 (pc' := 63) (ls' := [(6, .int (iI (sN ((30 * (30 * b + w)) + k)))), (5, .int (iI s)), (4, .int (iI k)), (3, .int (iI hg)), (2, .int (iI n)), (1, .int (iI (30 * b + w))), (0, .ref 530)]) (st' := [.int (iI hg), .ref 577]) rfl ?_
          refine T_p xr_197_63 xn_197 (pc' := 65) (ls' := [(6, .int (iI (sN ((30 * (30 * b + w)) + k)))), (5, .int (iI s)), (4, .int (iI k)), (3, .int (iI hg)), (2, .int (iI n)), (1, .int (iI (30 * b + w))), (0, .ref 530)]) (st' := [.int (iI s), .int (iI hg), .ref 577]) rfl ?_
          refine T_p xr_197_65 xn_197 (pc' := 67) (ls' := [(6, .int (iI (sN ((30 * (30 * b + w)) + k)))), (5, .int (iI s)), (4, .int (iI k)), (3, .int (iI hg)), (2, .int (iI n)), (1, .int (iI (30 * b + w))), (0, .ref 530)]) (st' := [.int (iI 110), .int (iI s), .int (iI hg), .ref 577]) rfl ?_
          refine T_zicmp_ne xr_197_67 (t := 75) (pc' := 70) rfl rfl (fun c2428 => ?_) (fun c2428 => ?_)
          · skip
            have c2428 : ¬ s = 110 := c2428
            have hsn := hso.2.2 (by omega)
            rw [if_neg (show ¬ gD G w 12 k = 4 by omega), if_pos (show gD G w 12 k = 64 by omega)] at hgo
            refine T_p xr_197_75 xn_197 (pc' := 76) (ls' := [(6, .int (iI (sN ((30 * (30 * b + w)) + k)))), (5, .int (iI s)), (4, .int (iI k)), (3, .int (iI hg)), (2, .int (iI n)), (1, .int (iI (30 * b + w))), (0, .ref 530)]) (st' := [.ref 530, .int (iI hg), .ref 577]) rfl ?_
            refine T_get xr_197_76 h2416 rfl (v := .ref 578) rfl (pc' := 79) rfl ?_
            refine T_p xr_197_79 xn_197 (pc' := 81) (ls' := [(6, .int (iI (sN ((30 * (30 * b + w)) + k)))), (5, .int (iI s)), (4, .int (iI k)), (3, .int (iI hg)), (2, .int (iI n)), (1, .int (iI (30 * b + w))), (0, .ref 530)]) (st' := [.int (iI (sN ((30 * (30 * b + w)) + k))), .ref 578, .int (iI hg), .ref 577]) rfl ?_
            refine T_ie (y := iI (gD G w 13 k - 1)) (by rw [hsn]) ?_
            have h2429 := (hF2414.1 578 (by omega)).trans (hA578)
            refine T_ziald xr_197_81 h2429 (pc' := 82) rfl ?_
            refine T_ie (y := iI ((iI (ch (gD G w 13 k - 1))).toInt)) (by rw [hcv (gD G w 13 k - 1) (by omega) (by omega)]; exact iI_of _) ?_
            refine T_ziast xr_197_82 hpl1 (pc' := 83) rfl (fun S2430 h2431 n2432 e2433 => ?_)
            refine T_ziinc xr_197_83 xn_197 (a := hg) (z := hg + 1) rfl (Nat.le_of_ble_eq_true rfl) (by omega) (ls' := [(3, .int (iI (hg + 1))), (6, .int (iI (sN ((30 * (30 * b + w)) + k)))), (5, .int (iI s)), (4, .int (iI k)), (2, .int (iI n)), (1, .int (iI (30 * b + w))), (0, .ref 530)]) rfl (pc' := 86) rfl ?_
            refine T_p xr_197_86 xn_197 (pc' := 248) (ls' := [(3, .int (iI (hg + 1))), (6, .int (iI (sN ((30 * (30 * b + w)) + k)))), (5, .int (iI s)), (4, .int (iI k)), (2, .int (iI n)), (1, .int (iI (30 * b + w))), (0, .ref 530)]) (st' := []) rfl ?_
            refine T_ziinc xr_197_248 xn_197 (a := k) (z := k + 1) rfl (Nat.le_of_ble_eq_true rfl) (by omega) (ls' := [(4, .int (iI (k + 1))), (3, .int (iI (hg + 1))), (6, .int (iI (sN ((30 * (30 * b + w)) + k)))), (5, .int (iI s)), (2, .int (iI n)), (1, .int (iI (30 * b + w))), (0, .ref 530)]) rfl (pc' := 251) rfl ?_
            refine T_p xr_197_251 xn_197 (pc' := 5) (ls' := [(4, .int (iI (k + 1))), (3, .int (iI (hg + 1))), (6, .int (iI (sN ((30 * (30 * b + w)) + k)))), (5, .int (iI s)), (2, .int (iI n)), (1, .int (iI (30 * b + w))), (0, .ref 530)]) (st' := []) rfl ?_
            refine T_sub (ls := [(4, .int (iI (k + 1))), (3, .int (iI (hg + 1))), (2, .int (iI n)), (1, .int (iI (30 * b + w))), (0, .ref 530)]) ⟨rfl, rfl, rfl, rfl, rfl, trivial⟩ rfl rfl ?_
            exact ih2411 S2430 (k + 1) (hg + 1) (X_ug pl1 hg ((iI (ch (gD G w 13 k - 1))).toInt)) (X_ug pr hg ((iI (ch (gD G w 13 k - 1))).toInt)) h2431 (hF2414.tr ((X_Fr.rf).tr (X_Fr.of n2432 e2433 (by omega)))) (by omega) hgo (fun q h1 h2 => by
                  by_cases hq : q = hg
                  · rw [hq, X_ug_s, X_ug_s]
                  · rw [X_ug_n _ _ hq, X_ug_n _ _ hq]; exact hpr q h1 (by omega)) (by omega) (by omega)
          · skip
            have c2428 : ¬ (¬ s = 110) := c2428
            rw [if_pos (show gD G w 12 k = 4 by omega)] at hgo
            refine T_p xr_197_70 xn_197 (pc' := 72) (ls' := [(6, .int (iI (sN ((30 * (30 * b + w)) + k)))), (5, .int (iI s)), (4, .int (iI k)), (3, .int (iI hg)), (2, .int (iI n)), (1, .int (iI (30 * b + w))), (0, .ref 530)]) (st' := [.int (iI (sN ((30 * (30 * b + w)) + k))), .int (iI hg), .ref 577]) rfl ?_
            refine T_p xr_197_72 xn_197 (pc' := 82) (ls' := [(6, .int (iI (sN ((30 * (30 * b + w)) + k)))), (5, .int (iI s)), (4, .int (iI k)), (3, .int (iI hg)), (2, .int (iI n)), (1, .int (iI (30 * b + w))), (0, .ref 530)]) (st' := [.int (iI (sN ((30 * (30 * b + w)) + k))), .int (iI hg), .ref 577]) rfl ?_
            refine T_ie (y := iI ((iI (gD G w 13 k)).toInt)) (by rw [hso.2.1 (by omega)]; exact iI_of _) ?_
            refine T_ziast xr_197_82 hpl1 (pc' := 83) rfl (fun S2434 h2435 n2436 e2437 => ?_)
            refine T_ziinc xr_197_83 xn_197 (a := hg) (z := hg + 1) rfl (Nat.le_of_ble_eq_true rfl) (by omega) (ls' := [(3, .int (iI (hg + 1))), (6, .int (iI (sN ((30 * (30 * b + w)) + k)))), (5, .int (iI s)), (4, .int (iI k)), (2, .int (iI n)), (1, .int (iI (30 * b + w))), (0, .ref 530)]) rfl (pc' := 86) rfl ?_
            refine T_p xr_197_86 xn_197 (pc' := 248) (ls' := [(3, .int (iI (hg + 1))), (6, .int (iI (sN ((30 * (30 * b + w)) + k)))), (5, .int (iI s)), (4, .int (iI k)), (2, .int (iI n)), (1, .int (iI (30 * b + w))), (0, .ref 530)]) (st' := []) rfl ?_
            refine T_ziinc xr_197_248 xn_197 (a := k) (z := k + 1) rfl (Nat.le_of_ble_eq_true rfl) (by omega) (ls' := [(4, .int (iI (k + 1))), (3, .int (iI (hg + 1))), (6, .int (iI (sN ((30 * (30 * b + w)) + k)))), (5, .int (iI s)), (2, .int (iI n)), (1, .int (iI (30 * b + w))), (0, .ref 530)]) rfl (pc' := 251) rfl ?_
            refine T_p xr_197_251 xn_197 (pc' := 5) (ls' := [(4, .int (iI (k + 1))), (3, .int (iI (hg + 1))), (6, .int (iI (sN ((30 * (30 * b + w)) + k)))), (5, .int (iI s)), (2, .int (iI n)), (1, .int (iI (30 * b + w))), (0, .ref 530)]) (st' := []) rfl ?_
            refine T_sub (ls := [(4, .int (iI (k + 1))), (3, .int (iI (hg + 1))), (2, .int (iI n)), (1, .int (iI (30 * b + w))), (0, .ref 530)]) ⟨rfl, rfl, rfl, rfl, rfl, trivial⟩ rfl rfl ?_
            exact ih2411 S2434 (k + 1) (hg + 1) (X_ug pl1 hg ((iI (gD G w 13 k)).toInt)) (X_ug pr hg ((iI (gD G w 13 k)).toInt)) h2435 (hF2414.tr ((X_Fr.rf).tr (X_Fr.of n2436 e2437 (by omega)))) (by omega) hgo (fun q h1 h2 => by
                  by_cases hq : q = hg
                  · rw [hq, X_ug_s, X_ug_s]
                  · rw [X_ug_n _ _ hq, X_ug_n _ _ hq]; exact hpr q h1 (by omega)) (by omega) (by omega)
        · skip
          have c2427 : ¬ (s = 110) := c2427
          refine T_p xr_197_51 xn_197 (pc' := 53) (ls' := [(6, .int (iI (sN ((30 * (30 * b + w)) + k)))), (5, .int (iI s)), (4, .int (iI k)), (3, .int (iI hg)), (2, .int (iI n)), (1, .int (iI (30 * b + w))), (0, .ref 530)]) (st' := [.int (iI s)]) rfl ?_
          refine T_p xr_197_53 xn_197 (pc' := 55) (ls' := [(6, .int (iI (sN ((30 * (30 * b + w)) + k)))), (5, .int (iI s)), (4, .int (iI k)), (3, .int (iI hg)), (2, .int (iI n)), (1, .int (iI (30 * b + w))), (0, .ref 530)]) (st' := [.int (iI 64), .int (iI s)]) rfl ?_
          refine T_zicmp_ne xr_197_55 (t := 89) (pc' := 58) rfl rfl (fun c2438 => ?_) (fun c2438 => ?_)
          · skip
            have c2438 : ¬ s = 64 := c2438
            have hop : X_isOp (gD G w 12 k) := by unfold X_isOp; omega
            rw [if_neg (show ¬ gD G w 12 k = 4 by omega), if_neg (show ¬ gD G w 12 k = 64 by omega)] at hgo
            refine T_ziinc xr_197_89 xn_197 (a := hg) (z := hg - 1) rfl (Nat.le_of_ble_eq_true rfl) (by omega) (ls' := [(3, .int (iI (hg - 1))), (6, .int (iI (sN ((30 * (30 * b + w)) + k)))), (5, .int (iI s)), (4, .int (iI k)), (2, .int (iI n)), (1, .int (iI (30 * b + w))), (0, .ref 530)]) rfl (pc' := 92) rfl ?_
            refine T_p xr_197_92 xn_197 (pc' := 93) (ls' := [(3, .int (iI (hg - 1))), (6, .int (iI (sN ((30 * (30 * b + w)) + k)))), (5, .int (iI s)), (4, .int (iI k)), (2, .int (iI n)), (1, .int (iI (30 * b + w))), (0, .ref 530)]) (st' := [.ref 530]) rfl ?_
            refine T_get xr_197_93 h2416 rfl (v := .ref 577) rfl (pc' := 96) rfl ?_
            refine T_p xr_197_96 xn_197 (pc' := 97) (ls' := [(3, .int (iI (hg - 1))), (6, .int (iI (sN ((30 * (30 * b + w)) + k)))), (5, .int (iI s)), (4, .int (iI k)), (2, .int (iI n)), (1, .int (iI (30 * b + w))), (0, .ref 530)]) (st' := [.int (iI (hg - 1)), .ref 577]) rfl ?_
            refine T_p xr_197_97 xn_197 (pc' := 98) (ls' := [(3, .int (iI (hg - 1))), (6, .int (iI (sN ((30 * (30 * b + w)) + k)))), (5, .int (iI s)), (4, .int (iI k)), (2, .int (iI n)), (1, .int (iI (30 * b + w))), (0, .ref 530)]) (st' := [.int (iI 1), .int (iI (hg - 1)), .ref 577]) rfl ?_
            refine T_zisub xr_197_98 (z := hg - 2) (by omega) (pc' := 99) rfl ?_
            refine T_ziald xr_197_99 hpl1 (pc' := 100) rfl ?_
            refine T_ie (y := iI (pr (hg - 2))) (by rw [hpr (hg - 2) (by omega) (by omega)]) ?_
            refine T_p xr_197_100 xn_197 (pc' := 102) (ls' := [(7, .int (iI (pr (hg - 2)))), (3, .int (iI (hg - 1))), (6, .int (iI (sN ((30 * (30 * b + w)) + k)))), (5, .int (iI s)), (4, .int (iI k)), (2, .int (iI n)), (1, .int (iI (30 * b + w))), (0, .ref 530)]) (st' := []) rfl ?_
            refine T_p xr_197_102 xn_197 (pc' := 103) (ls' := [(7, .int (iI (pr (hg - 2)))), (3, .int (iI (hg - 1))), (6, .int (iI (sN ((30 * (30 * b + w)) + k)))), (5, .int (iI s)), (4, .int (iI k)), (2, .int (iI n)), (1, .int (iI (30 * b + w))), (0, .ref 530)]) (st' := [.ref 530]) rfl ?_
            refine T_get xr_197_103 h2416 rfl (v := .ref 577) rfl (pc' := 106) rfl ?_
            refine T_p xr_197_106 xn_197 (pc' := 107) (ls' := [(7, .int (iI (pr (hg - 2)))), (3, .int (iI (hg - 1))), (6, .int (iI (sN ((30 * (30 * b + w)) + k)))), (5, .int (iI s)), (4, .int (iI k)), (2, .int (iI n)), (1, .int (iI (30 * b + w))), (0, .ref 530)]) (st' := [.int (iI (hg - 1)), .ref 577]) rfl ?_
            refine T_ziald xr_197_107 hpl1 (pc' := 108) rfl ?_
            refine T_ie (y := iI (pr (hg - 1))) (by rw [hpr (hg - 1) (by omega) (by omega)]) ?_
            refine T_p xr_197_108 xn_197 (pc' := 110) (ls' := [(8, .int (iI (pr (hg - 1)))), (7, .int (iI (pr (hg - 2)))), (3, .int (iI (hg - 1))), (6, .int (iI (sN ((30 * (30 * b + w)) + k)))), (5, .int (iI s)), (4, .int (iI k)), (2, .int (iI n)), (1, .int (iI (30 * b + w))), (0, .ref 530)]) (st' := []) rfl ?_
            refine T_p xr_197_110 xn_197 (pc' := 112) (ls' := [(8, .int (iI (pr (hg - 1)))), (7, .int (iI (pr (hg - 2)))), (3, .int (iI (hg - 1))), (6, .int (iI (sN ((30 * (30 * b + w)) + k)))), (5, .int (iI s)), (4, .int (iI k)), (2, .int (iI n)), (1, .int (iI (30 * b + w))), (0, .ref 530)]) (st' := [.int (iI s)]) rfl ?_
            refine T_p xr_197_112 xn_197 (pc' := 114) (ls' := [(8, .int (iI (pr (hg - 1)))), (7, .int (iI (pr (hg - 2)))), (3, .int (iI (hg - 1))), (6, .int (iI (sN ((30 * (30 * b + w)) + k)))), (5, .int (iI s)), (4, .int (iI k)), (2, .int (iI n)), (1, .int (iI (30 * b + w))), (0, .ref 530)]) (st' := [.int (iI 47), .int (iI s)]) rfl ?_
            refine T_zicmp_eq xr_197_114 (t := 124) (pc' := 117) rfl rfl (fun c2439 => ?_) (fun c2439 => ?_)
            · skip
              have c2439 : s = 47 := c2439
              refine T_p xr_197_124 xn_197 (pc' := 126) (ls' := [(8, .int (iI (pr (hg - 1)))), (7, .int (iI (pr (hg - 2)))), (3, .int (iI (hg - 1))), (6, .int (iI (sN ((30 * (30 * b + w)) + k)))), (5, .int (iI s)), (4, .int (iI k)), (2, .int (iI n)), (1, .int (iI (30 * b + w))), (0, .ref 530)]) (st' := [.int (iI (pr (hg - 1)))]) rfl ?_
              refine T_zif_ne xr_197_126 (t := 131) (pc' := 129) rfl rfl (fun c2440 => ?_) (fun c2440 => ?_)
              · skip
                have c2440 : ¬ (pr (hg - 1)) = 0 := c2440
                refine T_p xr_197_131 xn_197 (pc' := 132) (ls' := [(8, .int (iI (pr (hg - 1)))), (7, .int (iI (pr (hg - 2)))), (3, .int (iI (hg - 1))), (6, .int (iI (sN ((30 * (30 * b + w)) + k)))), (5, .int (iI s)), (4, .int (iI k)), (2, .int (iI n)), (1, .int (iI (30 * b + w))), (0, .ref 530)]) (st' := [.ref 530]) rfl ?_
                refine T_get xr_197_132 h2416 rfl (v := .ref 577) rfl (pc' := 135) rfl ?_
                refine T_p xr_197_135 xn_197 (pc' := 136) (ls' := [(8, .int (iI (pr (hg - 1)))), (7, .int (iI (pr (hg - 2)))), (3, .int (iI (hg - 1))), (6, .int (iI (sN ((30 * (30 * b + w)) + k)))), (5, .int (iI s)), (4, .int (iI k)), (2, .int (iI n)), (1, .int (iI (30 * b + w))), (0, .ref 530)]) (st' := [.int (iI (hg - 1)), .ref 577]) rfl ?_
                refine T_p xr_197_136 xn_197 (pc' := 137) (ls' := [(8, .int (iI (pr (hg - 1)))), (7, .int (iI (pr (hg - 2)))), (3, .int (iI (hg - 1))), (6, .int (iI (sN ((30 * (30 * b + w)) + k)))), (5, .int (iI s)), (4, .int (iI k)), (2, .int (iI n)), (1, .int (iI (30 * b + w))), (0, .ref 530)]) (st' := [.int (iI 1), .int (iI (hg - 1)), .ref 577]) rfl ?_
                refine T_zisub xr_197_137 (z := hg - 2) (by omega) (pc' := 138) rfl ?_
                have J2441 : X_T sc 197 (247, [(8, .int (iI (pr (hg - 1)))), (7, .int (iI (pr (hg - 2)))), (3, .int (iI (hg - 1))), (6, .int (iI (sN ((30 * (30 * b + w)) + k)))), (5, .int (iI s)), (4, .int (iI k)), (2, .int (iI n)), (1, .int (iI (30 * b + w))), (0, .ref 530)], [.int (iI (X_out2 (gD G w 12 k) (pr (hg - 2)) (pr (hg - 1)))), .int (iI (hg - 2)), .ref 577], S2415) Q := by
                  refine T_ziast xr_197_247 hpl1 (pc' := 248) rfl (fun S2442 h2443 n2444 e2445 => ?_)
                  refine T_ziinc xr_197_248 xn_197 (a := k) (z := k + 1) rfl (Nat.le_of_ble_eq_true rfl) (by omega) (ls' := [(4, .int (iI (k + 1))), (8, .int (iI (pr (hg - 1)))), (7, .int (iI (pr (hg - 2)))), (3, .int (iI (hg - 1))), (6, .int (iI (sN ((30 * (30 * b + w)) + k)))), (5, .int (iI s)), (2, .int (iI n)), (1, .int (iI (30 * b + w))), (0, .ref 530)]) rfl (pc' := 251) rfl ?_
                  refine T_p xr_197_251 xn_197 (pc' := 5) (ls' := [(4, .int (iI (k + 1))), (8, .int (iI (pr (hg - 1)))), (7, .int (iI (pr (hg - 2)))), (3, .int (iI (hg - 1))), (6, .int (iI (sN ((30 * (30 * b + w)) + k)))), (5, .int (iI s)), (2, .int (iI n)), (1, .int (iI (30 * b + w))), (0, .ref 530)]) (st' := []) rfl ?_
                  refine T_sub (ls := [(4, .int (iI (k + 1))), (3, .int (iI (hg - 1))), (2, .int (iI n)), (1, .int (iI (30 * b + w))), (0, .ref 530)]) ⟨rfl, rfl, rfl, rfl, rfl, trivial⟩ rfl rfl ?_
                  exact ih2411 S2442 (k + 1) (hg - 1) (X_ug pl1 (hg - 2) (X_out2 (gD G w 12 k) (pr (hg - 2)) (pr (hg - 1)))) (X_ug pr (hg - 2) (X_out2 (gD G w 12 k) (pr (hg - 2)) (pr (hg - 1)))) h2443 (hF2414.tr ((X_Fr.rf).tr (X_Fr.of n2444 e2445 (by omega)))) (by omega) (by rw [hgo, if_neg (fun z => by have z1 := z.1; have z2 : pr (hg - 1) = 0 := z.2; omega)]) (fun q h1 h2 => by
                        by_cases hq : q = hg - 2
                        · rw [hq, X_ug_s, X_ug_s]
                        · rw [X_ug_n _ _ hq, X_ug_n _ _ hq]; exact hpr q h1 (by omega)) (by omega) (by omega)
                refine T_p xr_197_138 xn_197 (pc' := 140) (ls' := [(8, .int (iI (pr (hg - 1)))), (7, .int (iI (pr (hg - 2)))), (3, .int (iI (hg - 1))), (6, .int (iI (sN ((30 * (30 * b + w)) + k)))), (5, .int (iI s)), (4, .int (iI k)), (2, .int (iI n)), (1, .int (iI (30 * b + w))), (0, .ref 530)]) (st' := [.int (iI s), .int (iI (hg - 2)), .ref 577]) rfl ?_
                refine T_p xr_197_140 xn_197 (pc' := 142) (ls' := [(8, .int (iI (pr (hg - 1)))), (7, .int (iI (pr (hg - 2)))), (3, .int (iI (hg - 1))), (6, .int (iI (sN ((30 * (30 * b + w)) + k)))), (5, .int (iI s)), (4, .int (iI k)), (2, .int (iI n)), (1, .int (iI (30 * b + w))), (0, .ref 530)]) (st' := [.int (iI 43), .int (iI s), .int (iI (hg - 2)), .ref 577]) rfl ?_
                refine T_zicmp_ne xr_197_142 (t := 153) (pc' := 145) rfl rfl (fun c2446 => ?_) (fun c2446 => ?_)
                · skip
                  have c2446 : ¬ s = 43 := c2446
                  refine T_p xr_197_153 xn_197 (pc' := 155) (ls' := [(8, .int (iI (pr (hg - 1)))), (7, .int (iI (pr (hg - 2)))), (3, .int (iI (hg - 1))), (6, .int (iI (sN ((30 * (30 * b + w)) + k)))), (5, .int (iI s)), (4, .int (iI k)), (2, .int (iI n)), (1, .int (iI (30 * b + w))), (0, .ref 530)]) (st' := [.int (iI s), .int (iI (hg - 2)), .ref 577]) rfl ?_
                  refine T_p xr_197_155 xn_197 (pc' := 157) (ls' := [(8, .int (iI (pr (hg - 1)))), (7, .int (iI (pr (hg - 2)))), (3, .int (iI (hg - 1))), (6, .int (iI (sN ((30 * (30 * b + w)) + k)))), (5, .int (iI s)), (4, .int (iI k)), (2, .int (iI n)), (1, .int (iI (30 * b + w))), (0, .ref 530)]) (st' := [.int (iI 45), .int (iI s), .int (iI (hg - 2)), .ref 577]) rfl ?_
                  refine T_zicmp_ne xr_197_157 (t := 168) (pc' := 160) rfl rfl (fun c2447 => ?_) (fun c2447 => ?_)
                  · skip
                    have c2447 : ¬ s = 45 := c2447
                    refine T_p xr_197_168 xn_197 (pc' := 170) (ls' := [(8, .int (iI (pr (hg - 1)))), (7, .int (iI (pr (hg - 2)))), (3, .int (iI (hg - 1))), (6, .int (iI (sN ((30 * (30 * b + w)) + k)))), (5, .int (iI s)), (4, .int (iI k)), (2, .int (iI n)), (1, .int (iI (30 * b + w))), (0, .ref 530)]) (st' := [.int (iI s), .int (iI (hg - 2)), .ref 577]) rfl ?_
                    refine T_p xr_197_170 xn_197 (pc' := 172) (ls' := [(8, .int (iI (pr (hg - 1)))), (7, .int (iI (pr (hg - 2)))), (3, .int (iI (hg - 1))), (6, .int (iI (sN ((30 * (30 * b + w)) + k)))), (5, .int (iI s)), (4, .int (iI k)), (2, .int (iI n)), (1, .int (iI (30 * b + w))), (0, .ref 530)]) (st' := [.int (iI 42), .int (iI s), .int (iI (hg - 2)), .ref 577]) rfl ?_
                    refine T_zicmp_ne xr_197_172 (t := 183) (pc' := 175) rfl rfl (fun c2448 => ?_) (fun c2448 => ?_)
                    · skip
                      have c2448 : ¬ s = 42 := c2448
                      refine T_p xr_197_183 xn_197 (pc' := 185) (ls' := [(8, .int (iI (pr (hg - 1)))), (7, .int (iI (pr (hg - 2)))), (3, .int (iI (hg - 1))), (6, .int (iI (sN ((30 * (30 * b + w)) + k)))), (5, .int (iI s)), (4, .int (iI k)), (2, .int (iI n)), (1, .int (iI (30 * b + w))), (0, .ref 530)]) (st' := [.int (iI s), .int (iI (hg - 2)), .ref 577]) rfl ?_
                      refine T_p xr_197_185 xn_197 (pc' := 187) (ls' := [(8, .int (iI (pr (hg - 1)))), (7, .int (iI (pr (hg - 2)))), (3, .int (iI (hg - 1))), (6, .int (iI (sN ((30 * (30 * b + w)) + k)))), (5, .int (iI s)), (4, .int (iI k)), (2, .int (iI n)), (1, .int (iI (30 * b + w))), (0, .ref 530)]) (st' := [.int (iI 47), .int (iI s), .int (iI (hg - 2)), .ref 577]) rfl ?_
                      refine T_zicmp_ne xr_197_187 (t := 210) (pc' := 190) rfl rfl (fun c2449 => ?_) (fun c2449 => ?_)
                      · skip
                        have c2449 : ¬ s = 47 := c2449
                        refine T_p xr_197_210 xn_197 (pc' := 212) (ls' := [(8, .int (iI (pr (hg - 1)))), (7, .int (iI (pr (hg - 2)))), (3, .int (iI (hg - 1))), (6, .int (iI (sN ((30 * (30 * b + w)) + k)))), (5, .int (iI s)), (4, .int (iI k)), (2, .int (iI n)), (1, .int (iI (30 * b + w))), (0, .ref 530)]) (st' := [.int (iI s), .int (iI (hg - 2)), .ref 577]) rfl ?_
                        refine T_p xr_197_212 xn_197 (pc' := 214) (ls' := [(8, .int (iI (pr (hg - 1)))), (7, .int (iI (pr (hg - 2)))), (3, .int (iI (hg - 1))), (6, .int (iI (sN ((30 * (30 * b + w)) + k)))), (5, .int (iI s)), (4, .int (iI k)), (2, .int (iI n)), (1, .int (iI (30 * b + w))), (0, .ref 530)]) (st' := [.int (iI 37), .int (iI s), .int (iI (hg - 2)), .ref 577]) rfl ?_
                        refine T_zicmp_ne xr_197_214 (t := 235) (pc' := 217) rfl rfl (fun c2450 => ?_) (fun c2450 => ?_)
                        · skip
                          have c2450 : ¬ s = 37 := c2450
                          refine T_p xr_197_235 xn_197 (pc' := 237) (ls' := [(8, .int (iI (pr (hg - 1)))), (7, .int (iI (pr (hg - 2)))), (3, .int (iI (hg - 1))), (6, .int (iI (sN ((30 * (30 * b + w)) + k)))), (5, .int (iI s)), (4, .int (iI k)), (2, .int (iI n)), (1, .int (iI (30 * b + w))), (0, .ref 530)]) (st' := [.int (iI (pr (hg - 2))), .int (iI (hg - 2)), .ref 577]) rfl ?_
                          refine T_p xr_197_237 xn_197 (pc' := 239) (ls' := [(8, .int (iI (pr (hg - 1)))), (7, .int (iI (pr (hg - 2)))), (3, .int (iI (hg - 1))), (6, .int (iI (sN ((30 * (30 * b + w)) + k)))), (5, .int (iI s)), (4, .int (iI k)), (2, .int (iI n)), (1, .int (iI (30 * b + w))), (0, .ref 530)]) (st' := [.int (iI (pr (hg - 1))), .int (iI (pr (hg - 2))), .int (iI (hg - 2)), .ref 577]) rfl ?_
                          refine T_zicmp_ge xr_197_239 (t := 246) (pc' := 242) rfl rfl (fun c2451 => ?_) (fun c2451 => ?_)
                          · skip
                            have c2451 : (pr (hg - 1)) ≤ (pr (hg - 2)) := c2451
                            refine T_p xr_197_246 xn_197 (pc' := 247) (ls' := [(8, .int (iI (pr (hg - 1)))), (7, .int (iI (pr (hg - 2)))), (3, .int (iI (hg - 1))), (6, .int (iI (sN ((30 * (30 * b + w)) + k)))), (5, .int (iI s)), (4, .int (iI k)), (2, .int (iI n)), (1, .int (iI (30 * b + w))), (0, .ref 530)]) (st' := [.int (iI 0), .int (iI (hg - 2)), .ref 577]) rfl ?_
                            refine T_ie (y := iI (X_out2 (gD G w 12 k) (pr (hg - 2)) (pr (hg - 1)))) (X_out2_f hop (Or.inr (Or.inr (Or.inr (Or.inr (Or.inr (⟨by omega, (bI_f (by omega)).symm⟩))))))) ?_
                            exact J2441
                          · skip
                            have c2451 : ¬ ((pr (hg - 1)) ≤ (pr (hg - 2))) := c2451
                            refine T_p xr_197_242 xn_197 (pc' := 243) (ls' := [(8, .int (iI (pr (hg - 1)))), (7, .int (iI (pr (hg - 2)))), (3, .int (iI (hg - 1))), (6, .int (iI (sN ((30 * (30 * b + w)) + k)))), (5, .int (iI s)), (4, .int (iI k)), (2, .int (iI n)), (1, .int (iI (30 * b + w))), (0, .ref 530)]) (st' := [.int (iI 1), .int (iI (hg - 2)), .ref 577]) rfl ?_
                            refine T_p xr_197_243 xn_197 (pc' := 247) (ls' := [(8, .int (iI (pr (hg - 1)))), (7, .int (iI (pr (hg - 2)))), (3, .int (iI (hg - 1))), (6, .int (iI (sN ((30 * (30 * b + w)) + k)))), (5, .int (iI s)), (4, .int (iI k)), (2, .int (iI n)), (1, .int (iI (30 * b + w))), (0, .ref 530)]) (st' := [.int (iI 1), .int (iI (hg - 2)), .ref 577]) rfl ?_
                            refine T_ie (y := iI (X_out2 (gD G w 12 k) (pr (hg - 2)) (pr (hg - 1)))) (X_out2_f hop (Or.inr (Or.inr (Or.inr (Or.inr (Or.inr (⟨by omega, (bI_t (by omega)).symm⟩))))))) ?_
                            exact J2441
                        · skip
                          have c2450 : ¬ (¬ s = 37) := c2450
                          refine T_p xr_197_217 xn_197 (pc' := 219) (ls' := [(8, .int (iI (pr (hg - 1)))), (7, .int (iI (pr (hg - 2)))), (3, .int (iI (hg - 1))), (6, .int (iI (sN ((30 * (30 * b + w)) + k)))), (5, .int (iI s)), (4, .int (iI k)), (2, .int (iI n)), (1, .int (iI (30 * b + w))), (0, .ref 530)]) (st' := [.int (iI (pr (hg - 1))), .int (iI (hg - 2)), .ref 577]) rfl ?_
                          refine T_p xr_197_219 xn_197 (pc' := 220) (ls' := [(8, .int (iI (pr (hg - 1)))), (7, .int (iI (pr (hg - 2)))), (3, .int (iI (hg - 1))), (6, .int (iI (sN ((30 * (30 * b + w)) + k)))), (5, .int (iI s)), (4, .int (iI k)), (2, .int (iI n)), (1, .int (iI (30 * b + w))), (0, .ref 530)]) (st' := [.int (iI (-1)), .int (iI (pr (hg - 1))), .int (iI (hg - 2)), .ref 577]) rfl ?_
                          refine T_zicmp_ne xr_197_220 (t := 227) (pc' := 223) rfl rfl (fun c2452 => ?_) (fun c2452 => ?_)
                          · skip
                            have c2452 : ¬ (pr (hg - 1)) = (-1) := c2452
                            refine T_p xr_197_227 xn_197 (pc' := 229) (ls' := [(8, .int (iI (pr (hg - 1)))), (7, .int (iI (pr (hg - 2)))), (3, .int (iI (hg - 1))), (6, .int (iI (sN ((30 * (30 * b + w)) + k)))), (5, .int (iI s)), (4, .int (iI k)), (2, .int (iI n)), (1, .int (iI (30 * b + w))), (0, .ref 530)]) (st' := [.int (iI (pr (hg - 2))), .int (iI (hg - 2)), .ref 577]) rfl ?_
                            refine T_p xr_197_229 xn_197 (pc' := 231) (ls' := [(8, .int (iI (pr (hg - 1)))), (7, .int (iI (pr (hg - 2)))), (3, .int (iI (hg - 1))), (6, .int (iI (sN ((30 * (30 * b + w)) + k)))), (5, .int (iI s)), (4, .int (iI k)), (2, .int (iI n)), (1, .int (iI (30 * b + w))), (0, .ref 530)]) (st' := [.int (iI (pr (hg - 1))), .int (iI (pr (hg - 2))), .int (iI (hg - 2)), .ref 577]) rfl ?_
                            refine T_p xr_197_231 xn_197 (pc' := 232) (ls' := [(8, .int (iI (pr (hg - 1)))), (7, .int (iI (pr (hg - 2)))), (3, .int (iI (hg - 1))), (6, .int (iI (sN ((30 * (30 * b + w)) + k)))), (5, .int (iI s)), (4, .int (iI k)), (2, .int (iI n)), (1, .int (iI (30 * b + w))), (0, .ref 530)]) (st' := .int (iI (pr (hg - 2)) - iI (pr (hg - 2)) / iI (pr (hg - 1)) * iI (pr (hg - 1))) :: [.int (iI (hg - 2)), .ref 577]) (by simp only [X_pstep, X_i2]; rw [if_neg (by exact fun z => absurd ((iI_eq (b := 0) (by omega) (by omega) (by omega) (by omega)).mp z) (by omega))]) ?_
                            refine T_ie (y := iI ((iI (pr (hg - 2)) - iI (pr (hg - 2)) / iI (pr (hg - 1)) * iI (pr (hg - 1))).toInt)) (iI_of _) ?_
                            refine T_p xr_197_232 xn_197 (pc' := 247) (ls' := [(8, .int (iI (pr (hg - 1)))), (7, .int (iI (pr (hg - 2)))), (3, .int (iI (hg - 1))), (6, .int (iI (sN ((30 * (30 * b + w)) + k)))), (5, .int (iI s)), (4, .int (iI k)), (2, .int (iI n)), (1, .int (iI (30 * b + w))), (0, .ref 530)]) (st' := [.int (iI ((iI (pr (hg - 2)) - iI (pr (hg - 2)) / iI (pr (hg - 1)) * iI (pr (hg - 1))).toInt)), .int (iI (hg - 2)), .ref 577]) rfl ?_
                            refine T_ie (y := iI (X_out2 (gD G w 12 k) (pr (hg - 2)) (pr (hg - 1)))) (X_out2_f hop (Or.inr (Or.inr (Or.inr (Or.inr (Or.inl ⟨by omega, (iI_of _).symm⟩)))))) ?_
                            exact J2441
                          · skip
                            have c2452 : ¬ (¬ (pr (hg - 1)) = (-1)) := c2452
                            refine T_p xr_197_223 xn_197 (pc' := 224) (ls' := [(8, .int (iI (pr (hg - 1)))), (7, .int (iI (pr (hg - 2)))), (3, .int (iI (hg - 1))), (6, .int (iI (sN ((30 * (30 * b + w)) + k)))), (5, .int (iI s)), (4, .int (iI k)), (2, .int (iI n)), (1, .int (iI (30 * b + w))), (0, .ref 530)]) (st' := [.int (iI 0), .int (iI (hg - 2)), .ref 577]) rfl ?_
                            refine T_p xr_197_224 xn_197 (pc' := 247) (ls' := [(8, .int (iI (pr (hg - 1)))), (7, .int (iI (pr (hg - 2)))), (3, .int (iI (hg - 1))), (6, .int (iI (sN ((30 * (30 * b + w)) + k)))), (5, .int (iI s)), (4, .int (iI k)), (2, .int (iI n)), (1, .int (iI (30 * b + w))), (0, .ref 530)]) (st' := [.int (iI 0), .int (iI (hg - 2)), .ref 577]) rfl ?_
                            refine T_ie (y := iI (X_out2 (gD G w 12 k) (pr (hg - 2)) (pr (hg - 1)))) (X_out2_f hop (Or.inr (Or.inr (Or.inr (Or.inr (Or.inl ⟨by omega, (by rw [show pr (hg - 1) = -1 by omega]; exact iI_nmod)⟩)))))) ?_
                            exact J2441
                      · skip
                        have c2449 : ¬ (¬ s = 47) := c2449
                        refine T_p xr_197_190 xn_197 (pc' := 192) (ls' := [(8, .int (iI (pr (hg - 1)))), (7, .int (iI (pr (hg - 2)))), (3, .int (iI (hg - 1))), (6, .int (iI (sN ((30 * (30 * b + w)) + k)))), (5, .int (iI s)), (4, .int (iI k)), (2, .int (iI n)), (1, .int (iI (30 * b + w))), (0, .ref 530)]) (st' := [.int (iI (pr (hg - 1))), .int (iI (hg - 2)), .ref 577]) rfl ?_
                        refine T_p xr_197_192 xn_197 (pc' := 193) (ls' := [(8, .int (iI (pr (hg - 1)))), (7, .int (iI (pr (hg - 2)))), (3, .int (iI (hg - 1))), (6, .int (iI (sN ((30 * (30 * b + w)) + k)))), (5, .int (iI s)), (4, .int (iI k)), (2, .int (iI n)), (1, .int (iI (30 * b + w))), (0, .ref 530)]) (st' := [.int (iI (-1)), .int (iI (pr (hg - 1))), .int (iI (hg - 2)), .ref 577]) rfl ?_
                        refine T_zicmp_ne xr_197_193 (t := 202) (pc' := 196) rfl rfl (fun c2453 => ?_) (fun c2453 => ?_)
                        · skip
                          have c2453 : ¬ (pr (hg - 1)) = (-1) := c2453
                          refine T_p xr_197_202 xn_197 (pc' := 204) (ls' := [(8, .int (iI (pr (hg - 1)))), (7, .int (iI (pr (hg - 2)))), (3, .int (iI (hg - 1))), (6, .int (iI (sN ((30 * (30 * b + w)) + k)))), (5, .int (iI s)), (4, .int (iI k)), (2, .int (iI n)), (1, .int (iI (30 * b + w))), (0, .ref 530)]) (st' := [.int (iI (pr (hg - 2))), .int (iI (hg - 2)), .ref 577]) rfl ?_
                          refine T_p xr_197_204 xn_197 (pc' := 206) (ls' := [(8, .int (iI (pr (hg - 1)))), (7, .int (iI (pr (hg - 2)))), (3, .int (iI (hg - 1))), (6, .int (iI (sN ((30 * (30 * b + w)) + k)))), (5, .int (iI s)), (4, .int (iI k)), (2, .int (iI n)), (1, .int (iI (30 * b + w))), (0, .ref 530)]) (st' := [.int (iI (pr (hg - 1))), .int (iI (pr (hg - 2))), .int (iI (hg - 2)), .ref 577]) rfl ?_
                          refine T_p xr_197_206 xn_197 (pc' := 207) (ls' := [(8, .int (iI (pr (hg - 1)))), (7, .int (iI (pr (hg - 2)))), (3, .int (iI (hg - 1))), (6, .int (iI (sN ((30 * (30 * b + w)) + k)))), (5, .int (iI s)), (4, .int (iI k)), (2, .int (iI n)), (1, .int (iI (30 * b + w))), (0, .ref 530)]) (st' := .int (iI (pr (hg - 2)) / iI (pr (hg - 1))) :: [.int (iI (hg - 2)), .ref 577]) (by simp only [X_pstep, X_i2]; rw [if_neg (by exact fun z => absurd ((iI_eq (b := 0) (by omega) (by omega) (by omega) (by omega)).mp z) (by omega))]) ?_
                          refine T_ie (y := iI ((iI (pr (hg - 2)) / iI (pr (hg - 1))).toInt)) (iI_of _) ?_
                          refine T_p xr_197_207 xn_197 (pc' := 247) (ls' := [(8, .int (iI (pr (hg - 1)))), (7, .int (iI (pr (hg - 2)))), (3, .int (iI (hg - 1))), (6, .int (iI (sN ((30 * (30 * b + w)) + k)))), (5, .int (iI s)), (4, .int (iI k)), (2, .int (iI n)), (1, .int (iI (30 * b + w))), (0, .ref 530)]) (st' := [.int (iI ((iI (pr (hg - 2)) / iI (pr (hg - 1))).toInt)), .int (iI (hg - 2)), .ref 577]) rfl ?_
                          refine T_ie (y := iI (X_out2 (gD G w 12 k) (pr (hg - 2)) (pr (hg - 1)))) (X_out2_f hop (Or.inr (Or.inr (Or.inr (Or.inl ⟨by omega, (iI_of _).symm⟩))))) ?_
                          exact J2441
                        · skip
                          have c2453 : ¬ (¬ (pr (hg - 1)) = (-1)) := c2453
                          refine T_p xr_197_196 xn_197 (pc' := 198) (ls' := [(8, .int (iI (pr (hg - 1)))), (7, .int (iI (pr (hg - 2)))), (3, .int (iI (hg - 1))), (6, .int (iI (sN ((30 * (30 * b + w)) + k)))), (5, .int (iI s)), (4, .int (iI k)), (2, .int (iI n)), (1, .int (iI (30 * b + w))), (0, .ref 530)]) (st' := [.int (iI (pr (hg - 2))), .int (iI (hg - 2)), .ref 577]) rfl ?_
                          refine T_zineg xr_197_198 (z := -(pr (hg - 2))) rfl (pc' := 199) rfl ?_
                          refine T_p xr_197_199 xn_197 (pc' := 247) (ls' := [(8, .int (iI (pr (hg - 1)))), (7, .int (iI (pr (hg - 2)))), (3, .int (iI (hg - 1))), (6, .int (iI (sN ((30 * (30 * b + w)) + k)))), (5, .int (iI s)), (4, .int (iI k)), (2, .int (iI n)), (1, .int (iI (30 * b + w))), (0, .ref 530)]) (st' := [.int (iI (-(pr (hg - 2)))), .int (iI (hg - 2)), .ref 577]) rfl ?_
                          refine T_ie (y := iI (X_out2 (gD G w 12 k) (pr (hg - 2)) (pr (hg - 1)))) (X_out2_f hop (Or.inr (Or.inr (Or.inr (Or.inl ⟨by omega, (by rw [show pr (hg - 1) = -1 by omega]; exact iI_ndiv.symm)⟩))))) ?_
                          exact J2441
                    · skip
                      have c2448 : ¬ (¬ s = 42) := c2448
                      refine T_p xr_197_175 xn_197 (pc' := 177) (ls' := [(8, .int (iI (pr (hg - 1)))), (7, .int (iI (pr (hg - 2)))), (3, .int (iI (hg - 1))), (6, .int (iI (sN ((30 * (30 * b + w)) + k)))), (5, .int (iI s)), (4, .int (iI k)), (2, .int (iI n)), (1, .int (iI (30 * b + w))), (0, .ref 530)]) (st' := [.int (iI (pr (hg - 2))), .int (iI (hg - 2)), .ref 577]) rfl ?_
                      refine T_p xr_197_177 xn_197 (pc' := 179) (ls' := [(8, .int (iI (pr (hg - 1)))), (7, .int (iI (pr (hg - 2)))), (3, .int (iI (hg - 1))), (6, .int (iI (sN ((30 * (30 * b + w)) + k)))), (5, .int (iI s)), (4, .int (iI k)), (2, .int (iI n)), (1, .int (iI (30 * b + w))), (0, .ref 530)]) (st' := [.int (iI (pr (hg - 1))), .int (iI (pr (hg - 2))), .int (iI (hg - 2)), .ref 577]) rfl ?_
                      refine T_zimul xr_197_179 (z := (pr (hg - 2)) * (pr (hg - 1))) rfl (pc' := 180) rfl ?_
                      refine T_p xr_197_180 xn_197 (pc' := 247) (ls' := [(8, .int (iI (pr (hg - 1)))), (7, .int (iI (pr (hg - 2)))), (3, .int (iI (hg - 1))), (6, .int (iI (sN ((30 * (30 * b + w)) + k)))), (5, .int (iI s)), (4, .int (iI k)), (2, .int (iI n)), (1, .int (iI (30 * b + w))), (0, .ref 530)]) (st' := [.int (iI ((pr (hg - 2)) * (pr (hg - 1)))), .int (iI (hg - 2)), .ref 577]) rfl ?_
                      refine T_ie (y := iI (X_out2 (gD G w 12 k) (pr (hg - 2)) (pr (hg - 1)))) (X_out2_f hop (Or.inr (Or.inr (Or.inl ⟨by omega, (Int32.ofInt_mul _ _)⟩)))) ?_
                      exact J2441
                  · skip
                    have c2447 : ¬ (¬ s = 45) := c2447
                    refine T_p xr_197_160 xn_197 (pc' := 162) (ls' := [(8, .int (iI (pr (hg - 1)))), (7, .int (iI (pr (hg - 2)))), (3, .int (iI (hg - 1))), (6, .int (iI (sN ((30 * (30 * b + w)) + k)))), (5, .int (iI s)), (4, .int (iI k)), (2, .int (iI n)), (1, .int (iI (30 * b + w))), (0, .ref 530)]) (st' := [.int (iI (pr (hg - 2))), .int (iI (hg - 2)), .ref 577]) rfl ?_
                    refine T_p xr_197_162 xn_197 (pc' := 164) (ls' := [(8, .int (iI (pr (hg - 1)))), (7, .int (iI (pr (hg - 2)))), (3, .int (iI (hg - 1))), (6, .int (iI (sN ((30 * (30 * b + w)) + k)))), (5, .int (iI s)), (4, .int (iI k)), (2, .int (iI n)), (1, .int (iI (30 * b + w))), (0, .ref 530)]) (st' := [.int (iI (pr (hg - 1))), .int (iI (pr (hg - 2))), .int (iI (hg - 2)), .ref 577]) rfl ?_
                    refine T_zisub xr_197_164 (z := (pr (hg - 2)) - (pr (hg - 1))) rfl (pc' := 165) rfl ?_
                    refine T_p xr_197_165 xn_197 (pc' := 247) (ls' := [(8, .int (iI (pr (hg - 1)))), (7, .int (iI (pr (hg - 2)))), (3, .int (iI (hg - 1))), (6, .int (iI (sN ((30 * (30 * b + w)) + k)))), (5, .int (iI s)), (4, .int (iI k)), (2, .int (iI n)), (1, .int (iI (30 * b + w))), (0, .ref 530)]) (st' := [.int (iI ((pr (hg - 2)) - (pr (hg - 1)))), .int (iI (hg - 2)), .ref 577]) rfl ?_
                    refine T_ie (y := iI (X_out2 (gD G w 12 k) (pr (hg - 2)) (pr (hg - 1)))) (X_out2_f hop (Or.inr (Or.inl ⟨by omega, (Int32.ofInt_sub _ _)⟩))) ?_
                    exact J2441
                · skip
                  have c2446 : ¬ (¬ s = 43) := c2446
                  refine T_p xr_197_145 xn_197 (pc' := 147) (ls' := [(8, .int (iI (pr (hg - 1)))), (7, .int (iI (pr (hg - 2)))), (3, .int (iI (hg - 1))), (6, .int (iI (sN ((30 * (30 * b + w)) + k)))), (5, .int (iI s)), (4, .int (iI k)), (2, .int (iI n)), (1, .int (iI (30 * b + w))), (0, .ref 530)]) (st' := [.int (iI (pr (hg - 2))), .int (iI (hg - 2)), .ref 577]) rfl ?_
                  refine T_p xr_197_147 xn_197 (pc' := 149) (ls' := [(8, .int (iI (pr (hg - 1)))), (7, .int (iI (pr (hg - 2)))), (3, .int (iI (hg - 1))), (6, .int (iI (sN ((30 * (30 * b + w)) + k)))), (5, .int (iI s)), (4, .int (iI k)), (2, .int (iI n)), (1, .int (iI (30 * b + w))), (0, .ref 530)]) (st' := [.int (iI (pr (hg - 1))), .int (iI (pr (hg - 2))), .int (iI (hg - 2)), .ref 577]) rfl ?_
                  refine T_ziadd xr_197_149 (z := (pr (hg - 2)) + (pr (hg - 1))) rfl (pc' := 150) rfl ?_
                  refine T_p xr_197_150 xn_197 (pc' := 247) (ls' := [(8, .int (iI (pr (hg - 1)))), (7, .int (iI (pr (hg - 2)))), (3, .int (iI (hg - 1))), (6, .int (iI (sN ((30 * (30 * b + w)) + k)))), (5, .int (iI s)), (4, .int (iI k)), (2, .int (iI n)), (1, .int (iI (30 * b + w))), (0, .ref 530)]) (st' := [.int (iI ((pr (hg - 2)) + (pr (hg - 1)))), .int (iI (hg - 2)), .ref 577]) rfl ?_
                  refine T_ie (y := iI (X_out2 (gD G w 12 k) (pr (hg - 2)) (pr (hg - 1)))) (X_out2_f hop (Or.inl ⟨by omega, (Int32.ofInt_add _ _)⟩)) ?_
                  exact J2441
              · skip
                have c2440 : ¬ (¬ (pr (hg - 1)) = 0) := c2440
                refine T_p xr_197_129 xn_197 (pc' := 130) (ls' := [(8, .int (iI (pr (hg - 1)))), (7, .int (iI (pr (hg - 2)))), (3, .int (iI (hg - 1))), (6, .int (iI (sN ((30 * (30 * b + w)) + k)))), (5, .int (iI s)), (4, .int (iI k)), (2, .int (iI n)), (1, .int (iI (30 * b + w))), (0, .ref 530)]) (st' := [.int (iI 1)]) rfl ?_
                refine T_iret xr_197_130 xf_197.2.2 rfl ?_
                refine hQ _ _ ?_
                rw [if_pos ⟨by omega, show pr (hg - 1) = 0 by omega⟩] at hgo
                have hz := X_wS_none (d := gD G w) (ch := ch) (k := k + 1) (by omega) hgo ((gD G w 5 0).toNat - (k + 1).toNat)
                rw [show (k + 1).toNat + ((gD G w 5 0).toNat - (k + 1).toNat) = (gD G w 5 0).toNat by omega] at hz
                exact Or.inl ⟨pl1, rfl, hz, hpl1, (X_Fr.rf).tr (X_Fr.mono ⟨hF2414.1, hF2414.2⟩ (fun q hq => (by omega)))⟩
            · skip
              have c2439 : ¬ (s = 47) := c2439
              refine T_p xr_197_117 xn_197 (pc' := 119) (ls' := [(8, .int (iI (pr (hg - 1)))), (7, .int (iI (pr (hg - 2)))), (3, .int (iI (hg - 1))), (6, .int (iI (sN ((30 * (30 * b + w)) + k)))), (5, .int (iI s)), (4, .int (iI k)), (2, .int (iI n)), (1, .int (iI (30 * b + w))), (0, .ref 530)]) (st' := [.int (iI s)]) rfl ?_
              refine T_p xr_197_119 xn_197 (pc' := 121) (ls' := [(8, .int (iI (pr (hg - 1)))), (7, .int (iI (pr (hg - 2)))), (3, .int (iI (hg - 1))), (6, .int (iI (sN ((30 * (30 * b + w)) + k)))), (5, .int (iI s)), (4, .int (iI k)), (2, .int (iI n)), (1, .int (iI (30 * b + w))), (0, .ref 530)]) (st' := [.int (iI 37), .int (iI s)]) rfl ?_
              refine T_zicmp_ne xr_197_121 (t := 131) (pc' := 124) rfl rfl (fun c2454 => ?_) (fun c2454 => ?_)
              · skip
                have c2454 : ¬ s = 37 := c2454
                refine T_p xr_197_131 xn_197 (pc' := 132) (ls' := [(8, .int (iI (pr (hg - 1)))), (7, .int (iI (pr (hg - 2)))), (3, .int (iI (hg - 1))), (6, .int (iI (sN ((30 * (30 * b + w)) + k)))), (5, .int (iI s)), (4, .int (iI k)), (2, .int (iI n)), (1, .int (iI (30 * b + w))), (0, .ref 530)]) (st' := [.ref 530]) rfl ?_
                refine T_get xr_197_132 h2416 rfl (v := .ref 577) rfl (pc' := 135) rfl ?_
                refine T_p xr_197_135 xn_197 (pc' := 136) (ls' := [(8, .int (iI (pr (hg - 1)))), (7, .int (iI (pr (hg - 2)))), (3, .int (iI (hg - 1))), (6, .int (iI (sN ((30 * (30 * b + w)) + k)))), (5, .int (iI s)), (4, .int (iI k)), (2, .int (iI n)), (1, .int (iI (30 * b + w))), (0, .ref 530)]) (st' := [.int (iI (hg - 1)), .ref 577]) rfl ?_
                refine T_p xr_197_136 xn_197 (pc' := 137) (ls' := [(8, .int (iI (pr (hg - 1)))), (7, .int (iI (pr (hg - 2)))), (3, .int (iI (hg - 1))), (6, .int (iI (sN ((30 * (30 * b + w)) + k)))), (5, .int (iI s)), (4, .int (iI k)), (2, .int (iI n)), (1, .int (iI (30 * b + w))), (0, .ref 530)]) (st' := [.int (iI 1), .int (iI (hg - 1)), .ref 577]) rfl ?_
                refine T_zisub xr_197_137 (z := hg - 2) (by omega) (pc' := 138) rfl ?_
                have J2455 : X_T sc 197 (247, [(8, .int (iI (pr (hg - 1)))), (7, .int (iI (pr (hg - 2)))), (3, .int (iI (hg - 1))), (6, .int (iI (sN ((30 * (30 * b + w)) + k)))), (5, .int (iI s)), (4, .int (iI k)), (2, .int (iI n)), (1, .int (iI (30 * b + w))), (0, .ref 530)], [.int (iI (X_out2 (gD G w 12 k) (pr (hg - 2)) (pr (hg - 1)))), .int (iI (hg - 2)), .ref 577], S2415) Q := by
                  refine T_ziast xr_197_247 hpl1 (pc' := 248) rfl (fun S2456 h2457 n2458 e2459 => ?_)
                  refine T_ziinc xr_197_248 xn_197 (a := k) (z := k + 1) rfl (Nat.le_of_ble_eq_true rfl) (by omega) (ls' := [(4, .int (iI (k + 1))), (8, .int (iI (pr (hg - 1)))), (7, .int (iI (pr (hg - 2)))), (3, .int (iI (hg - 1))), (6, .int (iI (sN ((30 * (30 * b + w)) + k)))), (5, .int (iI s)), (2, .int (iI n)), (1, .int (iI (30 * b + w))), (0, .ref 530)]) rfl (pc' := 251) rfl ?_
                  refine T_p xr_197_251 xn_197 (pc' := 5) (ls' := [(4, .int (iI (k + 1))), (8, .int (iI (pr (hg - 1)))), (7, .int (iI (pr (hg - 2)))), (3, .int (iI (hg - 1))), (6, .int (iI (sN ((30 * (30 * b + w)) + k)))), (5, .int (iI s)), (2, .int (iI n)), (1, .int (iI (30 * b + w))), (0, .ref 530)]) (st' := []) rfl ?_
                  refine T_sub (ls := [(4, .int (iI (k + 1))), (3, .int (iI (hg - 1))), (2, .int (iI n)), (1, .int (iI (30 * b + w))), (0, .ref 530)]) ⟨rfl, rfl, rfl, rfl, rfl, trivial⟩ rfl rfl ?_
                  exact ih2411 S2456 (k + 1) (hg - 1) (X_ug pl1 (hg - 2) (X_out2 (gD G w 12 k) (pr (hg - 2)) (pr (hg - 1)))) (X_ug pr (hg - 2) (X_out2 (gD G w 12 k) (pr (hg - 2)) (pr (hg - 1)))) h2457 (hF2414.tr ((X_Fr.rf).tr (X_Fr.of n2458 e2459 (by omega)))) (by omega) (by rw [hgo, if_neg (fun z => by have z1 := z.1; have z2 : pr (hg - 1) = 0 := z.2; omega)]) (fun q h1 h2 => by
                        by_cases hq : q = hg - 2
                        · rw [hq, X_ug_s, X_ug_s]
                        · rw [X_ug_n _ _ hq, X_ug_n _ _ hq]; exact hpr q h1 (by omega)) (by omega) (by omega)
                refine T_p xr_197_138 xn_197 (pc' := 140) (ls' := [(8, .int (iI (pr (hg - 1)))), (7, .int (iI (pr (hg - 2)))), (3, .int (iI (hg - 1))), (6, .int (iI (sN ((30 * (30 * b + w)) + k)))), (5, .int (iI s)), (4, .int (iI k)), (2, .int (iI n)), (1, .int (iI (30 * b + w))), (0, .ref 530)]) (st' := [.int (iI s), .int (iI (hg - 2)), .ref 577]) rfl ?_
                refine T_p xr_197_140 xn_197 (pc' := 142) (ls' := [(8, .int (iI (pr (hg - 1)))), (7, .int (iI (pr (hg - 2)))), (3, .int (iI (hg - 1))), (6, .int (iI (sN ((30 * (30 * b + w)) + k)))), (5, .int (iI s)), (4, .int (iI k)), (2, .int (iI n)), (1, .int (iI (30 * b + w))), (0, .ref 530)]) (st' := [.int (iI 43), .int (iI s), .int (iI (hg - 2)), .ref 577]) rfl ?_
                refine T_zicmp_ne xr_197_142 (t := 153) (pc' := 145) rfl rfl (fun c2460 => ?_) (fun c2460 => ?_)
                · skip
                  have c2460 : ¬ s = 43 := c2460
                  refine T_p xr_197_153 xn_197 (pc' := 155) (ls' := [(8, .int (iI (pr (hg - 1)))), (7, .int (iI (pr (hg - 2)))), (3, .int (iI (hg - 1))), (6, .int (iI (sN ((30 * (30 * b + w)) + k)))), (5, .int (iI s)), (4, .int (iI k)), (2, .int (iI n)), (1, .int (iI (30 * b + w))), (0, .ref 530)]) (st' := [.int (iI s), .int (iI (hg - 2)), .ref 577]) rfl ?_
                  refine T_p xr_197_155 xn_197 (pc' := 157) (ls' := [(8, .int (iI (pr (hg - 1)))), (7, .int (iI (pr (hg - 2)))), (3, .int (iI (hg - 1))), (6, .int (iI (sN ((30 * (30 * b + w)) + k)))), (5, .int (iI s)), (4, .int (iI k)), (2, .int (iI n)), (1, .int (iI (30 * b + w))), (0, .ref 530)]) (st' := [.int (iI 45), .int (iI s), .int (iI (hg - 2)), .ref 577]) rfl ?_
                  refine T_zicmp_ne xr_197_157 (t := 168) (pc' := 160) rfl rfl (fun c2461 => ?_) (fun c2461 => ?_)
                  · skip
                    have c2461 : ¬ s = 45 := c2461
                    refine T_p xr_197_168 xn_197 (pc' := 170) (ls' := [(8, .int (iI (pr (hg - 1)))), (7, .int (iI (pr (hg - 2)))), (3, .int (iI (hg - 1))), (6, .int (iI (sN ((30 * (30 * b + w)) + k)))), (5, .int (iI s)), (4, .int (iI k)), (2, .int (iI n)), (1, .int (iI (30 * b + w))), (0, .ref 530)]) (st' := [.int (iI s), .int (iI (hg - 2)), .ref 577]) rfl ?_
                    refine T_p xr_197_170 xn_197 (pc' := 172) (ls' := [(8, .int (iI (pr (hg - 1)))), (7, .int (iI (pr (hg - 2)))), (3, .int (iI (hg - 1))), (6, .int (iI (sN ((30 * (30 * b + w)) + k)))), (5, .int (iI s)), (4, .int (iI k)), (2, .int (iI n)), (1, .int (iI (30 * b + w))), (0, .ref 530)]) (st' := [.int (iI 42), .int (iI s), .int (iI (hg - 2)), .ref 577]) rfl ?_
                    refine T_zicmp_ne xr_197_172 (t := 183) (pc' := 175) rfl rfl (fun c2462 => ?_) (fun c2462 => ?_)
                    · skip
                      have c2462 : ¬ s = 42 := c2462
                      refine T_p xr_197_183 xn_197 (pc' := 185) (ls' := [(8, .int (iI (pr (hg - 1)))), (7, .int (iI (pr (hg - 2)))), (3, .int (iI (hg - 1))), (6, .int (iI (sN ((30 * (30 * b + w)) + k)))), (5, .int (iI s)), (4, .int (iI k)), (2, .int (iI n)), (1, .int (iI (30 * b + w))), (0, .ref 530)]) (st' := [.int (iI s), .int (iI (hg - 2)), .ref 577]) rfl ?_
                      refine T_p xr_197_185 xn_197 (pc' := 187) (ls' := [(8, .int (iI (pr (hg - 1)))), (7, .int (iI (pr (hg - 2)))), (3, .int (iI (hg - 1))), (6, .int (iI (sN ((30 * (30 * b + w)) + k)))), (5, .int (iI s)), (4, .int (iI k)), (2, .int (iI n)), (1, .int (iI (30 * b + w))), (0, .ref 530)]) (st' := [.int (iI 47), .int (iI s), .int (iI (hg - 2)), .ref 577]) rfl ?_
                      refine T_zicmp_ne xr_197_187 (t := 210) (pc' := 190) rfl rfl (fun c2463 => ?_) (fun c2463 => ?_)
                      · skip
                        have c2463 : ¬ s = 47 := c2463
                        refine T_p xr_197_210 xn_197 (pc' := 212) (ls' := [(8, .int (iI (pr (hg - 1)))), (7, .int (iI (pr (hg - 2)))), (3, .int (iI (hg - 1))), (6, .int (iI (sN ((30 * (30 * b + w)) + k)))), (5, .int (iI s)), (4, .int (iI k)), (2, .int (iI n)), (1, .int (iI (30 * b + w))), (0, .ref 530)]) (st' := [.int (iI s), .int (iI (hg - 2)), .ref 577]) rfl ?_
                        refine T_p xr_197_212 xn_197 (pc' := 214) (ls' := [(8, .int (iI (pr (hg - 1)))), (7, .int (iI (pr (hg - 2)))), (3, .int (iI (hg - 1))), (6, .int (iI (sN ((30 * (30 * b + w)) + k)))), (5, .int (iI s)), (4, .int (iI k)), (2, .int (iI n)), (1, .int (iI (30 * b + w))), (0, .ref 530)]) (st' := [.int (iI 37), .int (iI s), .int (iI (hg - 2)), .ref 577]) rfl ?_
                        refine T_zicmp_ne xr_197_214 (t := 235) (pc' := 217) rfl rfl (fun c2464 => ?_) (fun c2464 => ?_)
                        · skip
                          have c2464 : ¬ s = 37 := c2464
                          refine T_p xr_197_235 xn_197 (pc' := 237) (ls' := [(8, .int (iI (pr (hg - 1)))), (7, .int (iI (pr (hg - 2)))), (3, .int (iI (hg - 1))), (6, .int (iI (sN ((30 * (30 * b + w)) + k)))), (5, .int (iI s)), (4, .int (iI k)), (2, .int (iI n)), (1, .int (iI (30 * b + w))), (0, .ref 530)]) (st' := [.int (iI (pr (hg - 2))), .int (iI (hg - 2)), .ref 577]) rfl ?_
                          refine T_p xr_197_237 xn_197 (pc' := 239) (ls' := [(8, .int (iI (pr (hg - 1)))), (7, .int (iI (pr (hg - 2)))), (3, .int (iI (hg - 1))), (6, .int (iI (sN ((30 * (30 * b + w)) + k)))), (5, .int (iI s)), (4, .int (iI k)), (2, .int (iI n)), (1, .int (iI (30 * b + w))), (0, .ref 530)]) (st' := [.int (iI (pr (hg - 1))), .int (iI (pr (hg - 2))), .int (iI (hg - 2)), .ref 577]) rfl ?_
                          refine T_zicmp_ge xr_197_239 (t := 246) (pc' := 242) rfl rfl (fun c2465 => ?_) (fun c2465 => ?_)
                          · skip
                            have c2465 : (pr (hg - 1)) ≤ (pr (hg - 2)) := c2465
                            refine T_p xr_197_246 xn_197 (pc' := 247) (ls' := [(8, .int (iI (pr (hg - 1)))), (7, .int (iI (pr (hg - 2)))), (3, .int (iI (hg - 1))), (6, .int (iI (sN ((30 * (30 * b + w)) + k)))), (5, .int (iI s)), (4, .int (iI k)), (2, .int (iI n)), (1, .int (iI (30 * b + w))), (0, .ref 530)]) (st' := [.int (iI 0), .int (iI (hg - 2)), .ref 577]) rfl ?_
                            refine T_ie (y := iI (X_out2 (gD G w 12 k) (pr (hg - 2)) (pr (hg - 1)))) (X_out2_f hop (Or.inr (Or.inr (Or.inr (Or.inr (Or.inr (⟨by omega, (bI_f (by omega)).symm⟩))))))) ?_
                            exact J2455
                          · skip
                            have c2465 : ¬ ((pr (hg - 1)) ≤ (pr (hg - 2))) := c2465
                            refine T_p xr_197_242 xn_197 (pc' := 243) (ls' := [(8, .int (iI (pr (hg - 1)))), (7, .int (iI (pr (hg - 2)))), (3, .int (iI (hg - 1))), (6, .int (iI (sN ((30 * (30 * b + w)) + k)))), (5, .int (iI s)), (4, .int (iI k)), (2, .int (iI n)), (1, .int (iI (30 * b + w))), (0, .ref 530)]) (st' := [.int (iI 1), .int (iI (hg - 2)), .ref 577]) rfl ?_
                            refine T_p xr_197_243 xn_197 (pc' := 247) (ls' := [(8, .int (iI (pr (hg - 1)))), (7, .int (iI (pr (hg - 2)))), (3, .int (iI (hg - 1))), (6, .int (iI (sN ((30 * (30 * b + w)) + k)))), (5, .int (iI s)), (4, .int (iI k)), (2, .int (iI n)), (1, .int (iI (30 * b + w))), (0, .ref 530)]) (st' := [.int (iI 1), .int (iI (hg - 2)), .ref 577]) rfl ?_
                            refine T_ie (y := iI (X_out2 (gD G w 12 k) (pr (hg - 2)) (pr (hg - 1)))) (X_out2_f hop (Or.inr (Or.inr (Or.inr (Or.inr (Or.inr (⟨by omega, (bI_t (by omega)).symm⟩))))))) ?_
                            exact J2455
                        · skip
                          have c2464 : ¬ (¬ s = 37) := c2464
                          exact (show False by first | contradiction | omega).elim
                      · skip
                        have c2463 : ¬ (¬ s = 47) := c2463
                        refine T_p xr_197_190 xn_197 (pc' := 192) (ls' := [(8, .int (iI (pr (hg - 1)))), (7, .int (iI (pr (hg - 2)))), (3, .int (iI (hg - 1))), (6, .int (iI (sN ((30 * (30 * b + w)) + k)))), (5, .int (iI s)), (4, .int (iI k)), (2, .int (iI n)), (1, .int (iI (30 * b + w))), (0, .ref 530)]) (st' := [.int (iI (pr (hg - 1))), .int (iI (hg - 2)), .ref 577]) rfl ?_
                        refine T_p xr_197_192 xn_197 (pc' := 193) (ls' := [(8, .int (iI (pr (hg - 1)))), (7, .int (iI (pr (hg - 2)))), (3, .int (iI (hg - 1))), (6, .int (iI (sN ((30 * (30 * b + w)) + k)))), (5, .int (iI s)), (4, .int (iI k)), (2, .int (iI n)), (1, .int (iI (30 * b + w))), (0, .ref 530)]) (st' := [.int (iI (-1)), .int (iI (pr (hg - 1))), .int (iI (hg - 2)), .ref 577]) rfl ?_
                        refine T_zicmp_ne xr_197_193 (t := 202) (pc' := 196) rfl rfl (fun c2466 => ?_) (fun c2466 => ?_)
                        · skip
                          have c2466 : ¬ (pr (hg - 1)) = (-1) := c2466
                          refine T_p xr_197_202 xn_197 (pc' := 204) (ls' := [(8, .int (iI (pr (hg - 1)))), (7, .int (iI (pr (hg - 2)))), (3, .int (iI (hg - 1))), (6, .int (iI (sN ((30 * (30 * b + w)) + k)))), (5, .int (iI s)), (4, .int (iI k)), (2, .int (iI n)), (1, .int (iI (30 * b + w))), (0, .ref 530)]) (st' := [.int (iI (pr (hg - 2))), .int (iI (hg - 2)), .ref 577]) rfl ?_
                          refine T_p xr_197_204 xn_197 (pc' := 206) (ls' := [(8, .int (iI (pr (hg - 1)))), (7, .int (iI (pr (hg - 2)))), (3, .int (iI (hg - 1))), (6, .int (iI (sN ((30 * (30 * b + w)) + k)))), (5, .int (iI s)), (4, .int (iI k)), (2, .int (iI n)), (1, .int (iI (30 * b + w))), (0, .ref 530)]) (st' := [.int (iI (pr (hg - 1))), .int (iI (pr (hg - 2))), .int (iI (hg - 2)), .ref 577]) rfl ?_
                          refine T_p xr_197_206 xn_197 (pc' := 207) (ls' := [(8, .int (iI (pr (hg - 1)))), (7, .int (iI (pr (hg - 2)))), (3, .int (iI (hg - 1))), (6, .int (iI (sN ((30 * (30 * b + w)) + k)))), (5, .int (iI s)), (4, .int (iI k)), (2, .int (iI n)), (1, .int (iI (30 * b + w))), (0, .ref 530)]) (st' := .int (iI (pr (hg - 2)) / iI (pr (hg - 1))) :: [.int (iI (hg - 2)), .ref 577]) (by simp only [X_pstep, X_i2]; rw [if_neg (by exact fun z => absurd ((iI_eq (b := 0) (by omega) (by omega) (by omega) (by omega)).mp z) (by omega))]) ?_
                          refine T_ie (y := iI ((iI (pr (hg - 2)) / iI (pr (hg - 1))).toInt)) (iI_of _) ?_
                          refine T_p xr_197_207 xn_197 (pc' := 247) (ls' := [(8, .int (iI (pr (hg - 1)))), (7, .int (iI (pr (hg - 2)))), (3, .int (iI (hg - 1))), (6, .int (iI (sN ((30 * (30 * b + w)) + k)))), (5, .int (iI s)), (4, .int (iI k)), (2, .int (iI n)), (1, .int (iI (30 * b + w))), (0, .ref 530)]) (st' := [.int (iI ((iI (pr (hg - 2)) / iI (pr (hg - 1))).toInt)), .int (iI (hg - 2)), .ref 577]) rfl ?_
                          refine T_ie (y := iI (X_out2 (gD G w 12 k) (pr (hg - 2)) (pr (hg - 1)))) (X_out2_f hop (Or.inr (Or.inr (Or.inr (Or.inl ⟨by omega, (iI_of _).symm⟩))))) ?_
                          exact J2455
                        · skip
                          have c2466 : ¬ (¬ (pr (hg - 1)) = (-1)) := c2466
                          refine T_p xr_197_196 xn_197 (pc' := 198) (ls' := [(8, .int (iI (pr (hg - 1)))), (7, .int (iI (pr (hg - 2)))), (3, .int (iI (hg - 1))), (6, .int (iI (sN ((30 * (30 * b + w)) + k)))), (5, .int (iI s)), (4, .int (iI k)), (2, .int (iI n)), (1, .int (iI (30 * b + w))), (0, .ref 530)]) (st' := [.int (iI (pr (hg - 2))), .int (iI (hg - 2)), .ref 577]) rfl ?_
                          refine T_zineg xr_197_198 (z := -(pr (hg - 2))) rfl (pc' := 199) rfl ?_
                          refine T_p xr_197_199 xn_197 (pc' := 247) (ls' := [(8, .int (iI (pr (hg - 1)))), (7, .int (iI (pr (hg - 2)))), (3, .int (iI (hg - 1))), (6, .int (iI (sN ((30 * (30 * b + w)) + k)))), (5, .int (iI s)), (4, .int (iI k)), (2, .int (iI n)), (1, .int (iI (30 * b + w))), (0, .ref 530)]) (st' := [.int (iI (-(pr (hg - 2)))), .int (iI (hg - 2)), .ref 577]) rfl ?_
                          refine T_ie (y := iI (X_out2 (gD G w 12 k) (pr (hg - 2)) (pr (hg - 1)))) (X_out2_f hop (Or.inr (Or.inr (Or.inr (Or.inl ⟨by omega, (by rw [show pr (hg - 1) = -1 by omega]; exact iI_ndiv.symm)⟩))))) ?_
                          exact J2455
                    · skip
                      have c2462 : ¬ (¬ s = 42) := c2462
                      refine T_p xr_197_175 xn_197 (pc' := 177) (ls' := [(8, .int (iI (pr (hg - 1)))), (7, .int (iI (pr (hg - 2)))), (3, .int (iI (hg - 1))), (6, .int (iI (sN ((30 * (30 * b + w)) + k)))), (5, .int (iI s)), (4, .int (iI k)), (2, .int (iI n)), (1, .int (iI (30 * b + w))), (0, .ref 530)]) (st' := [.int (iI (pr (hg - 2))), .int (iI (hg - 2)), .ref 577]) rfl ?_
                      refine T_p xr_197_177 xn_197 (pc' := 179) (ls' := [(8, .int (iI (pr (hg - 1)))), (7, .int (iI (pr (hg - 2)))), (3, .int (iI (hg - 1))), (6, .int (iI (sN ((30 * (30 * b + w)) + k)))), (5, .int (iI s)), (4, .int (iI k)), (2, .int (iI n)), (1, .int (iI (30 * b + w))), (0, .ref 530)]) (st' := [.int (iI (pr (hg - 1))), .int (iI (pr (hg - 2))), .int (iI (hg - 2)), .ref 577]) rfl ?_
                      refine T_zimul xr_197_179 (z := (pr (hg - 2)) * (pr (hg - 1))) rfl (pc' := 180) rfl ?_
                      refine T_p xr_197_180 xn_197 (pc' := 247) (ls' := [(8, .int (iI (pr (hg - 1)))), (7, .int (iI (pr (hg - 2)))), (3, .int (iI (hg - 1))), (6, .int (iI (sN ((30 * (30 * b + w)) + k)))), (5, .int (iI s)), (4, .int (iI k)), (2, .int (iI n)), (1, .int (iI (30 * b + w))), (0, .ref 530)]) (st' := [.int (iI ((pr (hg - 2)) * (pr (hg - 1)))), .int (iI (hg - 2)), .ref 577]) rfl ?_
                      refine T_ie (y := iI (X_out2 (gD G w 12 k) (pr (hg - 2)) (pr (hg - 1)))) (X_out2_f hop (Or.inr (Or.inr (Or.inl ⟨by omega, (Int32.ofInt_mul _ _)⟩)))) ?_
                      exact J2455
                  · skip
                    have c2461 : ¬ (¬ s = 45) := c2461
                    refine T_p xr_197_160 xn_197 (pc' := 162) (ls' := [(8, .int (iI (pr (hg - 1)))), (7, .int (iI (pr (hg - 2)))), (3, .int (iI (hg - 1))), (6, .int (iI (sN ((30 * (30 * b + w)) + k)))), (5, .int (iI s)), (4, .int (iI k)), (2, .int (iI n)), (1, .int (iI (30 * b + w))), (0, .ref 530)]) (st' := [.int (iI (pr (hg - 2))), .int (iI (hg - 2)), .ref 577]) rfl ?_
                    refine T_p xr_197_162 xn_197 (pc' := 164) (ls' := [(8, .int (iI (pr (hg - 1)))), (7, .int (iI (pr (hg - 2)))), (3, .int (iI (hg - 1))), (6, .int (iI (sN ((30 * (30 * b + w)) + k)))), (5, .int (iI s)), (4, .int (iI k)), (2, .int (iI n)), (1, .int (iI (30 * b + w))), (0, .ref 530)]) (st' := [.int (iI (pr (hg - 1))), .int (iI (pr (hg - 2))), .int (iI (hg - 2)), .ref 577]) rfl ?_
                    refine T_zisub xr_197_164 (z := (pr (hg - 2)) - (pr (hg - 1))) rfl (pc' := 165) rfl ?_
                    refine T_p xr_197_165 xn_197 (pc' := 247) (ls' := [(8, .int (iI (pr (hg - 1)))), (7, .int (iI (pr (hg - 2)))), (3, .int (iI (hg - 1))), (6, .int (iI (sN ((30 * (30 * b + w)) + k)))), (5, .int (iI s)), (4, .int (iI k)), (2, .int (iI n)), (1, .int (iI (30 * b + w))), (0, .ref 530)]) (st' := [.int (iI ((pr (hg - 2)) - (pr (hg - 1)))), .int (iI (hg - 2)), .ref 577]) rfl ?_
                    refine T_ie (y := iI (X_out2 (gD G w 12 k) (pr (hg - 2)) (pr (hg - 1)))) (X_out2_f hop (Or.inr (Or.inl ⟨by omega, (Int32.ofInt_sub _ _)⟩))) ?_
                    exact J2455
                · skip
                  have c2460 : ¬ (¬ s = 43) := c2460
                  refine T_p xr_197_145 xn_197 (pc' := 147) (ls' := [(8, .int (iI (pr (hg - 1)))), (7, .int (iI (pr (hg - 2)))), (3, .int (iI (hg - 1))), (6, .int (iI (sN ((30 * (30 * b + w)) + k)))), (5, .int (iI s)), (4, .int (iI k)), (2, .int (iI n)), (1, .int (iI (30 * b + w))), (0, .ref 530)]) (st' := [.int (iI (pr (hg - 2))), .int (iI (hg - 2)), .ref 577]) rfl ?_
                  refine T_p xr_197_147 xn_197 (pc' := 149) (ls' := [(8, .int (iI (pr (hg - 1)))), (7, .int (iI (pr (hg - 2)))), (3, .int (iI (hg - 1))), (6, .int (iI (sN ((30 * (30 * b + w)) + k)))), (5, .int (iI s)), (4, .int (iI k)), (2, .int (iI n)), (1, .int (iI (30 * b + w))), (0, .ref 530)]) (st' := [.int (iI (pr (hg - 1))), .int (iI (pr (hg - 2))), .int (iI (hg - 2)), .ref 577]) rfl ?_
                  refine T_ziadd xr_197_149 (z := (pr (hg - 2)) + (pr (hg - 1))) rfl (pc' := 150) rfl ?_
                  refine T_p xr_197_150 xn_197 (pc' := 247) (ls' := [(8, .int (iI (pr (hg - 1)))), (7, .int (iI (pr (hg - 2)))), (3, .int (iI (hg - 1))), (6, .int (iI (sN ((30 * (30 * b + w)) + k)))), (5, .int (iI s)), (4, .int (iI k)), (2, .int (iI n)), (1, .int (iI (30 * b + w))), (0, .ref 530)]) (st' := [.int (iI ((pr (hg - 2)) + (pr (hg - 1)))), .int (iI (hg - 2)), .ref 577]) rfl ?_
                  refine T_ie (y := iI (X_out2 (gD G w 12 k) (pr (hg - 2)) (pr (hg - 1)))) (X_out2_f hop (Or.inl ⟨by omega, (Int32.ofInt_add _ _)⟩)) ?_
                  exact J2455
              · skip
                have c2454 : ¬ (¬ s = 37) := c2454
                refine T_p xr_197_124 xn_197 (pc' := 126) (ls' := [(8, .int (iI (pr (hg - 1)))), (7, .int (iI (pr (hg - 2)))), (3, .int (iI (hg - 1))), (6, .int (iI (sN ((30 * (30 * b + w)) + k)))), (5, .int (iI s)), (4, .int (iI k)), (2, .int (iI n)), (1, .int (iI (30 * b + w))), (0, .ref 530)]) (st' := [.int (iI (pr (hg - 1)))]) rfl ?_
                refine T_zif_ne xr_197_126 (t := 131) (pc' := 129) rfl rfl (fun c2467 => ?_) (fun c2467 => ?_)
                · skip
                  have c2467 : ¬ (pr (hg - 1)) = 0 := c2467
                  refine T_p xr_197_131 xn_197 (pc' := 132) (ls' := [(8, .int (iI (pr (hg - 1)))), (7, .int (iI (pr (hg - 2)))), (3, .int (iI (hg - 1))), (6, .int (iI (sN ((30 * (30 * b + w)) + k)))), (5, .int (iI s)), (4, .int (iI k)), (2, .int (iI n)), (1, .int (iI (30 * b + w))), (0, .ref 530)]) (st' := [.ref 530]) rfl ?_
                  refine T_get xr_197_132 h2416 rfl (v := .ref 577) rfl (pc' := 135) rfl ?_
                  refine T_p xr_197_135 xn_197 (pc' := 136) (ls' := [(8, .int (iI (pr (hg - 1)))), (7, .int (iI (pr (hg - 2)))), (3, .int (iI (hg - 1))), (6, .int (iI (sN ((30 * (30 * b + w)) + k)))), (5, .int (iI s)), (4, .int (iI k)), (2, .int (iI n)), (1, .int (iI (30 * b + w))), (0, .ref 530)]) (st' := [.int (iI (hg - 1)), .ref 577]) rfl ?_
                  refine T_p xr_197_136 xn_197 (pc' := 137) (ls' := [(8, .int (iI (pr (hg - 1)))), (7, .int (iI (pr (hg - 2)))), (3, .int (iI (hg - 1))), (6, .int (iI (sN ((30 * (30 * b + w)) + k)))), (5, .int (iI s)), (4, .int (iI k)), (2, .int (iI n)), (1, .int (iI (30 * b + w))), (0, .ref 530)]) (st' := [.int (iI 1), .int (iI (hg - 1)), .ref 577]) rfl ?_
                  refine T_zisub xr_197_137 (z := hg - 2) (by omega) (pc' := 138) rfl ?_
                  have J2468 : X_T sc 197 (247, [(8, .int (iI (pr (hg - 1)))), (7, .int (iI (pr (hg - 2)))), (3, .int (iI (hg - 1))), (6, .int (iI (sN ((30 * (30 * b + w)) + k)))), (5, .int (iI s)), (4, .int (iI k)), (2, .int (iI n)), (1, .int (iI (30 * b + w))), (0, .ref 530)], [.int (iI (X_out2 (gD G w 12 k) (pr (hg - 2)) (pr (hg - 1)))), .int (iI (hg - 2)), .ref 577], S2415) Q := by
                    refine T_ziast xr_197_247 hpl1 (pc' := 248) rfl (fun S2469 h2470 n2471 e2472 => ?_)
                    refine T_ziinc xr_197_248 xn_197 (a := k) (z := k + 1) rfl (Nat.le_of_ble_eq_true rfl) (by omega) (ls' := [(4, .int (iI (k + 1))), (8, .int (iI (pr (hg - 1)))), (7, .int (iI (pr (hg - 2)))), (3, .int (iI (hg - 1))), (6, .int (iI (sN ((30 * (30 * b + w)) + k)))), (5, .int (iI s)), (2, .int (iI n)), (1, .int (iI (30 * b + w))), (0, .ref 530)]) rfl (pc' := 251) rfl ?_
                    refine T_p xr_197_251 xn_197 (pc' := 5) (ls' := [(4, .int (iI (k + 1))), (8, .int (iI (pr (hg - 1)))), (7, .int (iI (pr (hg - 2)))), (3, .int (iI (hg - 1))), (6, .int (iI (sN ((30 * (30 * b + w)) + k)))), (5, .int (iI s)), (2, .int (iI n)), (1, .int (iI (30 * b + w))), (0, .ref 530)]) (st' := []) rfl ?_
                    refine T_sub (ls := [(4, .int (iI (k + 1))), (3, .int (iI (hg - 1))), (2, .int (iI n)), (1, .int (iI (30 * b + w))), (0, .ref 530)]) ⟨rfl, rfl, rfl, rfl, rfl, trivial⟩ rfl rfl ?_
                    exact ih2411 S2469 (k + 1) (hg - 1) (X_ug pl1 (hg - 2) (X_out2 (gD G w 12 k) (pr (hg - 2)) (pr (hg - 1)))) (X_ug pr (hg - 2) (X_out2 (gD G w 12 k) (pr (hg - 2)) (pr (hg - 1)))) h2470 (hF2414.tr ((X_Fr.rf).tr (X_Fr.of n2471 e2472 (by omega)))) (by omega) (by rw [hgo, if_neg (fun z => by have z1 := z.1; have z2 : pr (hg - 1) = 0 := z.2; omega)]) (fun q h1 h2 => by
                          by_cases hq : q = hg - 2
                          · rw [hq, X_ug_s, X_ug_s]
                          · rw [X_ug_n _ _ hq, X_ug_n _ _ hq]; exact hpr q h1 (by omega)) (by omega) (by omega)
                  refine T_p xr_197_138 xn_197 (pc' := 140) (ls' := [(8, .int (iI (pr (hg - 1)))), (7, .int (iI (pr (hg - 2)))), (3, .int (iI (hg - 1))), (6, .int (iI (sN ((30 * (30 * b + w)) + k)))), (5, .int (iI s)), (4, .int (iI k)), (2, .int (iI n)), (1, .int (iI (30 * b + w))), (0, .ref 530)]) (st' := [.int (iI s), .int (iI (hg - 2)), .ref 577]) rfl ?_
                  refine T_p xr_197_140 xn_197 (pc' := 142) (ls' := [(8, .int (iI (pr (hg - 1)))), (7, .int (iI (pr (hg - 2)))), (3, .int (iI (hg - 1))), (6, .int (iI (sN ((30 * (30 * b + w)) + k)))), (5, .int (iI s)), (4, .int (iI k)), (2, .int (iI n)), (1, .int (iI (30 * b + w))), (0, .ref 530)]) (st' := [.int (iI 43), .int (iI s), .int (iI (hg - 2)), .ref 577]) rfl ?_
                  refine T_zicmp_ne xr_197_142 (t := 153) (pc' := 145) rfl rfl (fun c2473 => ?_) (fun c2473 => ?_)
                  · skip
                    have c2473 : ¬ s = 43 := c2473
                    refine T_p xr_197_153 xn_197 (pc' := 155) (ls' := [(8, .int (iI (pr (hg - 1)))), (7, .int (iI (pr (hg - 2)))), (3, .int (iI (hg - 1))), (6, .int (iI (sN ((30 * (30 * b + w)) + k)))), (5, .int (iI s)), (4, .int (iI k)), (2, .int (iI n)), (1, .int (iI (30 * b + w))), (0, .ref 530)]) (st' := [.int (iI s), .int (iI (hg - 2)), .ref 577]) rfl ?_
                    refine T_p xr_197_155 xn_197 (pc' := 157) (ls' := [(8, .int (iI (pr (hg - 1)))), (7, .int (iI (pr (hg - 2)))), (3, .int (iI (hg - 1))), (6, .int (iI (sN ((30 * (30 * b + w)) + k)))), (5, .int (iI s)), (4, .int (iI k)), (2, .int (iI n)), (1, .int (iI (30 * b + w))), (0, .ref 530)]) (st' := [.int (iI 45), .int (iI s), .int (iI (hg - 2)), .ref 577]) rfl ?_
                    refine T_zicmp_ne xr_197_157 (t := 168) (pc' := 160) rfl rfl (fun c2474 => ?_) (fun c2474 => ?_)
                    · skip
                      have c2474 : ¬ s = 45 := c2474
                      refine T_p xr_197_168 xn_197 (pc' := 170) (ls' := [(8, .int (iI (pr (hg - 1)))), (7, .int (iI (pr (hg - 2)))), (3, .int (iI (hg - 1))), (6, .int (iI (sN ((30 * (30 * b + w)) + k)))), (5, .int (iI s)), (4, .int (iI k)), (2, .int (iI n)), (1, .int (iI (30 * b + w))), (0, .ref 530)]) (st' := [.int (iI s), .int (iI (hg - 2)), .ref 577]) rfl ?_
                      refine T_p xr_197_170 xn_197 (pc' := 172) (ls' := [(8, .int (iI (pr (hg - 1)))), (7, .int (iI (pr (hg - 2)))), (3, .int (iI (hg - 1))), (6, .int (iI (sN ((30 * (30 * b + w)) + k)))), (5, .int (iI s)), (4, .int (iI k)), (2, .int (iI n)), (1, .int (iI (30 * b + w))), (0, .ref 530)]) (st' := [.int (iI 42), .int (iI s), .int (iI (hg - 2)), .ref 577]) rfl ?_
                      refine T_zicmp_ne xr_197_172 (t := 183) (pc' := 175) rfl rfl (fun c2475 => ?_) (fun c2475 => ?_)
                      · skip
                        have c2475 : ¬ s = 42 := c2475
                        refine T_p xr_197_183 xn_197 (pc' := 185) (ls' := [(8, .int (iI (pr (hg - 1)))), (7, .int (iI (pr (hg - 2)))), (3, .int (iI (hg - 1))), (6, .int (iI (sN ((30 * (30 * b + w)) + k)))), (5, .int (iI s)), (4, .int (iI k)), (2, .int (iI n)), (1, .int (iI (30 * b + w))), (0, .ref 530)]) (st' := [.int (iI s), .int (iI (hg - 2)), .ref 577]) rfl ?_
                        refine T_p xr_197_185 xn_197 (pc' := 187) (ls' := [(8, .int (iI (pr (hg - 1)))), (7, .int (iI (pr (hg - 2)))), (3, .int (iI (hg - 1))), (6, .int (iI (sN ((30 * (30 * b + w)) + k)))), (5, .int (iI s)), (4, .int (iI k)), (2, .int (iI n)), (1, .int (iI (30 * b + w))), (0, .ref 530)]) (st' := [.int (iI 47), .int (iI s), .int (iI (hg - 2)), .ref 577]) rfl ?_
                        refine T_zicmp_ne xr_197_187 (t := 210) (pc' := 190) rfl rfl (fun c2476 => ?_) (fun c2476 => ?_)
                        · skip
                          have c2476 : ¬ s = 47 := c2476
                          refine T_p xr_197_210 xn_197 (pc' := 212) (ls' := [(8, .int (iI (pr (hg - 1)))), (7, .int (iI (pr (hg - 2)))), (3, .int (iI (hg - 1))), (6, .int (iI (sN ((30 * (30 * b + w)) + k)))), (5, .int (iI s)), (4, .int (iI k)), (2, .int (iI n)), (1, .int (iI (30 * b + w))), (0, .ref 530)]) (st' := [.int (iI s), .int (iI (hg - 2)), .ref 577]) rfl ?_
                          refine T_p xr_197_212 xn_197 (pc' := 214) (ls' := [(8, .int (iI (pr (hg - 1)))), (7, .int (iI (pr (hg - 2)))), (3, .int (iI (hg - 1))), (6, .int (iI (sN ((30 * (30 * b + w)) + k)))), (5, .int (iI s)), (4, .int (iI k)), (2, .int (iI n)), (1, .int (iI (30 * b + w))), (0, .ref 530)]) (st' := [.int (iI 37), .int (iI s), .int (iI (hg - 2)), .ref 577]) rfl ?_
                          refine T_zicmp_ne xr_197_214 (t := 235) (pc' := 217) rfl rfl (fun c2477 => ?_) (fun c2477 => ?_)
                          · skip
                            have c2477 : ¬ s = 37 := c2477
                            exact (show False by first | contradiction | omega).elim
                          · skip
                            have c2477 : ¬ (¬ s = 37) := c2477
                            refine T_p xr_197_217 xn_197 (pc' := 219) (ls' := [(8, .int (iI (pr (hg - 1)))), (7, .int (iI (pr (hg - 2)))), (3, .int (iI (hg - 1))), (6, .int (iI (sN ((30 * (30 * b + w)) + k)))), (5, .int (iI s)), (4, .int (iI k)), (2, .int (iI n)), (1, .int (iI (30 * b + w))), (0, .ref 530)]) (st' := [.int (iI (pr (hg - 1))), .int (iI (hg - 2)), .ref 577]) rfl ?_
                            refine T_p xr_197_219 xn_197 (pc' := 220) (ls' := [(8, .int (iI (pr (hg - 1)))), (7, .int (iI (pr (hg - 2)))), (3, .int (iI (hg - 1))), (6, .int (iI (sN ((30 * (30 * b + w)) + k)))), (5, .int (iI s)), (4, .int (iI k)), (2, .int (iI n)), (1, .int (iI (30 * b + w))), (0, .ref 530)]) (st' := [.int (iI (-1)), .int (iI (pr (hg - 1))), .int (iI (hg - 2)), .ref 577]) rfl ?_
                            refine T_zicmp_ne xr_197_220 (t := 227) (pc' := 223) rfl rfl (fun c2478 => ?_) (fun c2478 => ?_)
                            · skip
                              have c2478 : ¬ (pr (hg - 1)) = (-1) := c2478
                              refine T_p xr_197_227 xn_197 (pc' := 229) (ls' := [(8, .int (iI (pr (hg - 1)))), (7, .int (iI (pr (hg - 2)))), (3, .int (iI (hg - 1))), (6, .int (iI (sN ((30 * (30 * b + w)) + k)))), (5, .int (iI s)), (4, .int (iI k)), (2, .int (iI n)), (1, .int (iI (30 * b + w))), (0, .ref 530)]) (st' := [.int (iI (pr (hg - 2))), .int (iI (hg - 2)), .ref 577]) rfl ?_
                              refine T_p xr_197_229 xn_197 (pc' := 231) (ls' := [(8, .int (iI (pr (hg - 1)))), (7, .int (iI (pr (hg - 2)))), (3, .int (iI (hg - 1))), (6, .int (iI (sN ((30 * (30 * b + w)) + k)))), (5, .int (iI s)), (4, .int (iI k)), (2, .int (iI n)), (1, .int (iI (30 * b + w))), (0, .ref 530)]) (st' := [.int (iI (pr (hg - 1))), .int (iI (pr (hg - 2))), .int (iI (hg - 2)), .ref 577]) rfl ?_
                              refine T_p xr_197_231 xn_197 (pc' := 232) (ls' := [(8, .int (iI (pr (hg - 1)))), (7, .int (iI (pr (hg - 2)))), (3, .int (iI (hg - 1))), (6, .int (iI (sN ((30 * (30 * b + w)) + k)))), (5, .int (iI s)), (4, .int (iI k)), (2, .int (iI n)), (1, .int (iI (30 * b + w))), (0, .ref 530)]) (st' := .int (iI (pr (hg - 2)) - iI (pr (hg - 2)) / iI (pr (hg - 1)) * iI (pr (hg - 1))) :: [.int (iI (hg - 2)), .ref 577]) (by simp only [X_pstep, X_i2]; rw [if_neg (by exact fun z => absurd ((iI_eq (b := 0) (by omega) (by omega) (by omega) (by omega)).mp z) (by omega))]) ?_
                              refine T_ie (y := iI ((iI (pr (hg - 2)) - iI (pr (hg - 2)) / iI (pr (hg - 1)) * iI (pr (hg - 1))).toInt)) (iI_of _) ?_
                              refine T_p xr_197_232 xn_197 (pc' := 247) (ls' := [(8, .int (iI (pr (hg - 1)))), (7, .int (iI (pr (hg - 2)))), (3, .int (iI (hg - 1))), (6, .int (iI (sN ((30 * (30 * b + w)) + k)))), (5, .int (iI s)), (4, .int (iI k)), (2, .int (iI n)), (1, .int (iI (30 * b + w))), (0, .ref 530)]) (st' := [.int (iI ((iI (pr (hg - 2)) - iI (pr (hg - 2)) / iI (pr (hg - 1)) * iI (pr (hg - 1))).toInt)), .int (iI (hg - 2)), .ref 577]) rfl ?_
                              refine T_ie (y := iI (X_out2 (gD G w 12 k) (pr (hg - 2)) (pr (hg - 1)))) (X_out2_f hop (Or.inr (Or.inr (Or.inr (Or.inr (Or.inl ⟨by omega, (iI_of _).symm⟩)))))) ?_
                              exact J2468
                            · skip
                              have c2478 : ¬ (¬ (pr (hg - 1)) = (-1)) := c2478
                              refine T_p xr_197_223 xn_197 (pc' := 224) (ls' := [(8, .int (iI (pr (hg - 1)))), (7, .int (iI (pr (hg - 2)))), (3, .int (iI (hg - 1))), (6, .int (iI (sN ((30 * (30 * b + w)) + k)))), (5, .int (iI s)), (4, .int (iI k)), (2, .int (iI n)), (1, .int (iI (30 * b + w))), (0, .ref 530)]) (st' := [.int (iI 0), .int (iI (hg - 2)), .ref 577]) rfl ?_
                              refine T_p xr_197_224 xn_197 (pc' := 247) (ls' := [(8, .int (iI (pr (hg - 1)))), (7, .int (iI (pr (hg - 2)))), (3, .int (iI (hg - 1))), (6, .int (iI (sN ((30 * (30 * b + w)) + k)))), (5, .int (iI s)), (4, .int (iI k)), (2, .int (iI n)), (1, .int (iI (30 * b + w))), (0, .ref 530)]) (st' := [.int (iI 0), .int (iI (hg - 2)), .ref 577]) rfl ?_
                              refine T_ie (y := iI (X_out2 (gD G w 12 k) (pr (hg - 2)) (pr (hg - 1)))) (X_out2_f hop (Or.inr (Or.inr (Or.inr (Or.inr (Or.inl ⟨by omega, (by rw [show pr (hg - 1) = -1 by omega]; exact iI_nmod)⟩)))))) ?_
                              exact J2468
                        · skip
                          have c2476 : ¬ (¬ s = 47) := c2476
                          refine T_p xr_197_190 xn_197 (pc' := 192) (ls' := [(8, .int (iI (pr (hg - 1)))), (7, .int (iI (pr (hg - 2)))), (3, .int (iI (hg - 1))), (6, .int (iI (sN ((30 * (30 * b + w)) + k)))), (5, .int (iI s)), (4, .int (iI k)), (2, .int (iI n)), (1, .int (iI (30 * b + w))), (0, .ref 530)]) (st' := [.int (iI (pr (hg - 1))), .int (iI (hg - 2)), .ref 577]) rfl ?_
                          refine T_p xr_197_192 xn_197 (pc' := 193) (ls' := [(8, .int (iI (pr (hg - 1)))), (7, .int (iI (pr (hg - 2)))), (3, .int (iI (hg - 1))), (6, .int (iI (sN ((30 * (30 * b + w)) + k)))), (5, .int (iI s)), (4, .int (iI k)), (2, .int (iI n)), (1, .int (iI (30 * b + w))), (0, .ref 530)]) (st' := [.int (iI (-1)), .int (iI (pr (hg - 1))), .int (iI (hg - 2)), .ref 577]) rfl ?_
                          refine T_zicmp_ne xr_197_193 (t := 202) (pc' := 196) rfl rfl (fun c2479 => ?_) (fun c2479 => ?_)
                          · skip
                            have c2479 : ¬ (pr (hg - 1)) = (-1) := c2479
                            refine T_p xr_197_202 xn_197 (pc' := 204) (ls' := [(8, .int (iI (pr (hg - 1)))), (7, .int (iI (pr (hg - 2)))), (3, .int (iI (hg - 1))), (6, .int (iI (sN ((30 * (30 * b + w)) + k)))), (5, .int (iI s)), (4, .int (iI k)), (2, .int (iI n)), (1, .int (iI (30 * b + w))), (0, .ref 530)]) (st' := [.int (iI (pr (hg - 2))), .int (iI (hg - 2)), .ref 577]) rfl ?_
                            refine T_p xr_197_204 xn_197 (pc' := 206) (ls' := [(8, .int (iI (pr (hg - 1)))), (7, .int (iI (pr (hg - 2)))), (3, .int (iI (hg - 1))), (6, .int (iI (sN ((30 * (30 * b + w)) + k)))), (5, .int (iI s)), (4, .int (iI k)), (2, .int (iI n)), (1, .int (iI (30 * b + w))), (0, .ref 530)]) (st' := [.int (iI (pr (hg - 1))), .int (iI (pr (hg - 2))), .int (iI (hg - 2)), .ref 577]) rfl ?_
                            refine T_p xr_197_206 xn_197 (pc' := 207) (ls' := [(8, .int (iI (pr (hg - 1)))), (7, .int (iI (pr (hg - 2)))), (3, .int (iI (hg - 1))), (6, .int (iI (sN ((30 * (30 * b + w)) + k)))), (5, .int (iI s)), (4, .int (iI k)), (2, .int (iI n)), (1, .int (iI (30 * b + w))), (0, .ref 530)]) (st' := .int (iI (pr (hg - 2)) / iI (pr (hg - 1))) :: [.int (iI (hg - 2)), .ref 577]) (by simp only [X_pstep, X_i2]; rw [if_neg (by exact fun z => absurd ((iI_eq (b := 0) (by omega) (by omega) (by omega) (by omega)).mp z) (by omega))]) ?_
                            refine T_ie (y := iI ((iI (pr (hg - 2)) / iI (pr (hg - 1))).toInt)) (iI_of _) ?_
                            refine T_p xr_197_207 xn_197 (pc' := 247) (ls' := [(8, .int (iI (pr (hg - 1)))), (7, .int (iI (pr (hg - 2)))), (3, .int (iI (hg - 1))), (6, .int (iI (sN ((30 * (30 * b + w)) + k)))), (5, .int (iI s)), (4, .int (iI k)), (2, .int (iI n)), (1, .int (iI (30 * b + w))), (0, .ref 530)]) (st' := [.int (iI ((iI (pr (hg - 2)) / iI (pr (hg - 1))).toInt)), .int (iI (hg - 2)), .ref 577]) rfl ?_
                            refine T_ie (y := iI (X_out2 (gD G w 12 k) (pr (hg - 2)) (pr (hg - 1)))) (X_out2_f hop (Or.inr (Or.inr (Or.inr (Or.inl ⟨by omega, (iI_of _).symm⟩))))) ?_
                            exact J2468
                          · skip
                            have c2479 : ¬ (¬ (pr (hg - 1)) = (-1)) := c2479
                            refine T_p xr_197_196 xn_197 (pc' := 198) (ls' := [(8, .int (iI (pr (hg - 1)))), (7, .int (iI (pr (hg - 2)))), (3, .int (iI (hg - 1))), (6, .int (iI (sN ((30 * (30 * b + w)) + k)))), (5, .int (iI s)), (4, .int (iI k)), (2, .int (iI n)), (1, .int (iI (30 * b + w))), (0, .ref 530)]) (st' := [.int (iI (pr (hg - 2))), .int (iI (hg - 2)), .ref 577]) rfl ?_
                            refine T_zineg xr_197_198 (z := -(pr (hg - 2))) rfl (pc' := 199) rfl ?_
                            refine T_p xr_197_199 xn_197 (pc' := 247) (ls' := [(8, .int (iI (pr (hg - 1)))), (7, .int (iI (pr (hg - 2)))), (3, .int (iI (hg - 1))), (6, .int (iI (sN ((30 * (30 * b + w)) + k)))), (5, .int (iI s)), (4, .int (iI k)), (2, .int (iI n)), (1, .int (iI (30 * b + w))), (0, .ref 530)]) (st' := [.int (iI (-(pr (hg - 2)))), .int (iI (hg - 2)), .ref 577]) rfl ?_
                            refine T_ie (y := iI (X_out2 (gD G w 12 k) (pr (hg - 2)) (pr (hg - 1)))) (X_out2_f hop (Or.inr (Or.inr (Or.inr (Or.inl ⟨by omega, (by rw [show pr (hg - 1) = -1 by omega]; exact iI_ndiv.symm)⟩))))) ?_
                            exact J2468
                      · skip
                        have c2475 : ¬ (¬ s = 42) := c2475
                        refine T_p xr_197_175 xn_197 (pc' := 177) (ls' := [(8, .int (iI (pr (hg - 1)))), (7, .int (iI (pr (hg - 2)))), (3, .int (iI (hg - 1))), (6, .int (iI (sN ((30 * (30 * b + w)) + k)))), (5, .int (iI s)), (4, .int (iI k)), (2, .int (iI n)), (1, .int (iI (30 * b + w))), (0, .ref 530)]) (st' := [.int (iI (pr (hg - 2))), .int (iI (hg - 2)), .ref 577]) rfl ?_
                        refine T_p xr_197_177 xn_197 (pc' := 179) (ls' := [(8, .int (iI (pr (hg - 1)))), (7, .int (iI (pr (hg - 2)))), (3, .int (iI (hg - 1))), (6, .int (iI (sN ((30 * (30 * b + w)) + k)))), (5, .int (iI s)), (4, .int (iI k)), (2, .int (iI n)), (1, .int (iI (30 * b + w))), (0, .ref 530)]) (st' := [.int (iI (pr (hg - 1))), .int (iI (pr (hg - 2))), .int (iI (hg - 2)), .ref 577]) rfl ?_
                        refine T_zimul xr_197_179 (z := (pr (hg - 2)) * (pr (hg - 1))) rfl (pc' := 180) rfl ?_
                        refine T_p xr_197_180 xn_197 (pc' := 247) (ls' := [(8, .int (iI (pr (hg - 1)))), (7, .int (iI (pr (hg - 2)))), (3, .int (iI (hg - 1))), (6, .int (iI (sN ((30 * (30 * b + w)) + k)))), (5, .int (iI s)), (4, .int (iI k)), (2, .int (iI n)), (1, .int (iI (30 * b + w))), (0, .ref 530)]) (st' := [.int (iI ((pr (hg - 2)) * (pr (hg - 1)))), .int (iI (hg - 2)), .ref 577]) rfl ?_
                        refine T_ie (y := iI (X_out2 (gD G w 12 k) (pr (hg - 2)) (pr (hg - 1)))) (X_out2_f hop (Or.inr (Or.inr (Or.inl ⟨by omega, (Int32.ofInt_mul _ _)⟩)))) ?_
                        exact J2468
                    · skip
                      have c2474 : ¬ (¬ s = 45) := c2474
                      refine T_p xr_197_160 xn_197 (pc' := 162) (ls' := [(8, .int (iI (pr (hg - 1)))), (7, .int (iI (pr (hg - 2)))), (3, .int (iI (hg - 1))), (6, .int (iI (sN ((30 * (30 * b + w)) + k)))), (5, .int (iI s)), (4, .int (iI k)), (2, .int (iI n)), (1, .int (iI (30 * b + w))), (0, .ref 530)]) (st' := [.int (iI (pr (hg - 2))), .int (iI (hg - 2)), .ref 577]) rfl ?_
                      refine T_p xr_197_162 xn_197 (pc' := 164) (ls' := [(8, .int (iI (pr (hg - 1)))), (7, .int (iI (pr (hg - 2)))), (3, .int (iI (hg - 1))), (6, .int (iI (sN ((30 * (30 * b + w)) + k)))), (5, .int (iI s)), (4, .int (iI k)), (2, .int (iI n)), (1, .int (iI (30 * b + w))), (0, .ref 530)]) (st' := [.int (iI (pr (hg - 1))), .int (iI (pr (hg - 2))), .int (iI (hg - 2)), .ref 577]) rfl ?_
                      refine T_zisub xr_197_164 (z := (pr (hg - 2)) - (pr (hg - 1))) rfl (pc' := 165) rfl ?_
                      refine T_p xr_197_165 xn_197 (pc' := 247) (ls' := [(8, .int (iI (pr (hg - 1)))), (7, .int (iI (pr (hg - 2)))), (3, .int (iI (hg - 1))), (6, .int (iI (sN ((30 * (30 * b + w)) + k)))), (5, .int (iI s)), (4, .int (iI k)), (2, .int (iI n)), (1, .int (iI (30 * b + w))), (0, .ref 530)]) (st' := [.int (iI ((pr (hg - 2)) - (pr (hg - 1)))), .int (iI (hg - 2)), .ref 577]) rfl ?_
                      refine T_ie (y := iI (X_out2 (gD G w 12 k) (pr (hg - 2)) (pr (hg - 1)))) (X_out2_f hop (Or.inr (Or.inl ⟨by omega, (Int32.ofInt_sub _ _)⟩))) ?_
                      exact J2468
                  · skip
                    have c2473 : ¬ (¬ s = 43) := c2473
                    refine T_p xr_197_145 xn_197 (pc' := 147) (ls' := [(8, .int (iI (pr (hg - 1)))), (7, .int (iI (pr (hg - 2)))), (3, .int (iI (hg - 1))), (6, .int (iI (sN ((30 * (30 * b + w)) + k)))), (5, .int (iI s)), (4, .int (iI k)), (2, .int (iI n)), (1, .int (iI (30 * b + w))), (0, .ref 530)]) (st' := [.int (iI (pr (hg - 2))), .int (iI (hg - 2)), .ref 577]) rfl ?_
                    refine T_p xr_197_147 xn_197 (pc' := 149) (ls' := [(8, .int (iI (pr (hg - 1)))), (7, .int (iI (pr (hg - 2)))), (3, .int (iI (hg - 1))), (6, .int (iI (sN ((30 * (30 * b + w)) + k)))), (5, .int (iI s)), (4, .int (iI k)), (2, .int (iI n)), (1, .int (iI (30 * b + w))), (0, .ref 530)]) (st' := [.int (iI (pr (hg - 1))), .int (iI (pr (hg - 2))), .int (iI (hg - 2)), .ref 577]) rfl ?_
                    refine T_ziadd xr_197_149 (z := (pr (hg - 2)) + (pr (hg - 1))) rfl (pc' := 150) rfl ?_
                    refine T_p xr_197_150 xn_197 (pc' := 247) (ls' := [(8, .int (iI (pr (hg - 1)))), (7, .int (iI (pr (hg - 2)))), (3, .int (iI (hg - 1))), (6, .int (iI (sN ((30 * (30 * b + w)) + k)))), (5, .int (iI s)), (4, .int (iI k)), (2, .int (iI n)), (1, .int (iI (30 * b + w))), (0, .ref 530)]) (st' := [.int (iI ((pr (hg - 2)) + (pr (hg - 1)))), .int (iI (hg - 2)), .ref 577]) rfl ?_
                    refine T_ie (y := iI (X_out2 (gD G w 12 k) (pr (hg - 2)) (pr (hg - 1)))) (X_out2_f hop (Or.inl ⟨by omega, (Int32.ofInt_add _ _)⟩)) ?_
                    exact J2468
                · skip
                  have c2467 : ¬ (¬ (pr (hg - 1)) = 0) := c2467
                  refine T_p xr_197_129 xn_197 (pc' := 130) (ls' := [(8, .int (iI (pr (hg - 1)))), (7, .int (iI (pr (hg - 2)))), (3, .int (iI (hg - 1))), (6, .int (iI (sN ((30 * (30 * b + w)) + k)))), (5, .int (iI s)), (4, .int (iI k)), (2, .int (iI n)), (1, .int (iI (30 * b + w))), (0, .ref 530)]) (st' := [.int (iI 1)]) rfl ?_
                  refine T_iret xr_197_130 xf_197.2.2 rfl ?_
                  refine hQ _ _ ?_
                  rw [if_pos ⟨by omega, show pr (hg - 1) = 0 by omega⟩] at hgo
                  have hz := X_wS_none (d := gD G w) (ch := ch) (k := k + 1) (by omega) hgo ((gD G w 5 0).toNat - (k + 1).toNat)
                  rw [show (k + 1).toNat + ((gD G w 5 0).toNat - (k + 1).toNat) = (gD G w 5 0).toNat by omega] at hz
                  exact Or.inl ⟨pl1, rfl, hz, hpl1, (X_Fr.rf).tr (X_Fr.mono ⟨hF2414.1, hF2414.2⟩ (fun q hq => (by omega)))⟩
          · skip
            have c2438 : ¬ (¬ s = 64) := c2438
            refine T_p xr_197_58 xn_197 (pc' := 59) (ls' := [(6, .int (iI (sN ((30 * (30 * b + w)) + k)))), (5, .int (iI s)), (4, .int (iI k)), (3, .int (iI hg)), (2, .int (iI n)), (1, .int (iI (30 * b + w))), (0, .ref 530)]) (st' := [.ref 530]) rfl ?_
            refine T_get xr_197_59 h2416 rfl (v := .ref 577) rfl (pc' := 62) rfl ?_
            refine T_p xr_197_62 xn_197 (pc' := 63) (ls' := [(6, .int (iI (sN ((30 * (30 * b + w)) + k)))), (5, .int (iI s)), (4, .int (iI k)), (3, .int (iI hg)), (2, .int (iI n)), (1, .int (iI (30 * b + w))), (0, .ref 530)]) (st' := [.int (iI hg), .ref 577]) rfl ?_
            refine T_p xr_197_63 xn_197 (pc' := 65) (ls' := [(6, .int (iI (sN ((30 * (30 * b + w)) + k)))), (5, .int (iI s)), (4, .int (iI k)), (3, .int (iI hg)), (2, .int (iI n)), (1, .int (iI (30 * b + w))), (0, .ref 530)]) (st' := [.int (iI s), .int (iI hg), .ref 577]) rfl ?_
            refine T_p xr_197_65 xn_197 (pc' := 67) (ls' := [(6, .int (iI (sN ((30 * (30 * b + w)) + k)))), (5, .int (iI s)), (4, .int (iI k)), (3, .int (iI hg)), (2, .int (iI n)), (1, .int (iI (30 * b + w))), (0, .ref 530)]) (st' := [.int (iI 110), .int (iI s), .int (iI hg), .ref 577]) rfl ?_
            refine T_zicmp_ne xr_197_67 (t := 75) (pc' := 70) rfl rfl (fun c2480 => ?_) (fun c2480 => ?_)
            · skip
              have c2480 : ¬ s = 110 := c2480
              have hsn := hso.2.2 (by omega)
              rw [if_neg (show ¬ gD G w 12 k = 4 by omega), if_pos (show gD G w 12 k = 64 by omega)] at hgo
              refine T_p xr_197_75 xn_197 (pc' := 76) (ls' := [(6, .int (iI (sN ((30 * (30 * b + w)) + k)))), (5, .int (iI s)), (4, .int (iI k)), (3, .int (iI hg)), (2, .int (iI n)), (1, .int (iI (30 * b + w))), (0, .ref 530)]) (st' := [.ref 530, .int (iI hg), .ref 577]) rfl ?_
              refine T_get xr_197_76 h2416 rfl (v := .ref 578) rfl (pc' := 79) rfl ?_
              refine T_p xr_197_79 xn_197 (pc' := 81) (ls' := [(6, .int (iI (sN ((30 * (30 * b + w)) + k)))), (5, .int (iI s)), (4, .int (iI k)), (3, .int (iI hg)), (2, .int (iI n)), (1, .int (iI (30 * b + w))), (0, .ref 530)]) (st' := [.int (iI (sN ((30 * (30 * b + w)) + k))), .ref 578, .int (iI hg), .ref 577]) rfl ?_
              refine T_ie (y := iI (gD G w 13 k - 1)) (by rw [hsn]) ?_
              have h2481 := (hF2414.1 578 (by omega)).trans (hA578)
              refine T_ziald xr_197_81 h2481 (pc' := 82) rfl ?_
              refine T_ie (y := iI ((iI (ch (gD G w 13 k - 1))).toInt)) (by rw [hcv (gD G w 13 k - 1) (by omega) (by omega)]; exact iI_of _) ?_
              refine T_ziast xr_197_82 hpl1 (pc' := 83) rfl (fun S2482 h2483 n2484 e2485 => ?_)
              refine T_ziinc xr_197_83 xn_197 (a := hg) (z := hg + 1) rfl (Nat.le_of_ble_eq_true rfl) (by omega) (ls' := [(3, .int (iI (hg + 1))), (6, .int (iI (sN ((30 * (30 * b + w)) + k)))), (5, .int (iI s)), (4, .int (iI k)), (2, .int (iI n)), (1, .int (iI (30 * b + w))), (0, .ref 530)]) rfl (pc' := 86) rfl ?_
              refine T_p xr_197_86 xn_197 (pc' := 248) (ls' := [(3, .int (iI (hg + 1))), (6, .int (iI (sN ((30 * (30 * b + w)) + k)))), (5, .int (iI s)), (4, .int (iI k)), (2, .int (iI n)), (1, .int (iI (30 * b + w))), (0, .ref 530)]) (st' := []) rfl ?_
              refine T_ziinc xr_197_248 xn_197 (a := k) (z := k + 1) rfl (Nat.le_of_ble_eq_true rfl) (by omega) (ls' := [(4, .int (iI (k + 1))), (3, .int (iI (hg + 1))), (6, .int (iI (sN ((30 * (30 * b + w)) + k)))), (5, .int (iI s)), (2, .int (iI n)), (1, .int (iI (30 * b + w))), (0, .ref 530)]) rfl (pc' := 251) rfl ?_
              refine T_p xr_197_251 xn_197 (pc' := 5) (ls' := [(4, .int (iI (k + 1))), (3, .int (iI (hg + 1))), (6, .int (iI (sN ((30 * (30 * b + w)) + k)))), (5, .int (iI s)), (2, .int (iI n)), (1, .int (iI (30 * b + w))), (0, .ref 530)]) (st' := []) rfl ?_
              refine T_sub (ls := [(4, .int (iI (k + 1))), (3, .int (iI (hg + 1))), (2, .int (iI n)), (1, .int (iI (30 * b + w))), (0, .ref 530)]) ⟨rfl, rfl, rfl, rfl, rfl, trivial⟩ rfl rfl ?_
              exact ih2411 S2482 (k + 1) (hg + 1) (X_ug pl1 hg ((iI (ch (gD G w 13 k - 1))).toInt)) (X_ug pr hg ((iI (ch (gD G w 13 k - 1))).toInt)) h2483 (hF2414.tr ((X_Fr.rf).tr (X_Fr.of n2484 e2485 (by omega)))) (by omega) hgo (fun q h1 h2 => by
                    by_cases hq : q = hg
                    · rw [hq, X_ug_s, X_ug_s]
                    · rw [X_ug_n _ _ hq, X_ug_n _ _ hq]; exact hpr q h1 (by omega)) (by omega) (by omega)
            · skip
              have c2480 : ¬ (¬ s = 110) := c2480
              rw [if_pos (show gD G w 12 k = 4 by omega)] at hgo
              refine T_p xr_197_70 xn_197 (pc' := 72) (ls' := [(6, .int (iI (sN ((30 * (30 * b + w)) + k)))), (5, .int (iI s)), (4, .int (iI k)), (3, .int (iI hg)), (2, .int (iI n)), (1, .int (iI (30 * b + w))), (0, .ref 530)]) (st' := [.int (iI (sN ((30 * (30 * b + w)) + k))), .int (iI hg), .ref 577]) rfl ?_
              refine T_p xr_197_72 xn_197 (pc' := 82) (ls' := [(6, .int (iI (sN ((30 * (30 * b + w)) + k)))), (5, .int (iI s)), (4, .int (iI k)), (3, .int (iI hg)), (2, .int (iI n)), (1, .int (iI (30 * b + w))), (0, .ref 530)]) (st' := [.int (iI (sN ((30 * (30 * b + w)) + k))), .int (iI hg), .ref 577]) rfl ?_
              refine T_ie (y := iI ((iI (gD G w 13 k)).toInt)) (by rw [hso.2.1 (by omega)]; exact iI_of _) ?_
              refine T_ziast xr_197_82 hpl1 (pc' := 83) rfl (fun S2486 h2487 n2488 e2489 => ?_)
              refine T_ziinc xr_197_83 xn_197 (a := hg) (z := hg + 1) rfl (Nat.le_of_ble_eq_true rfl) (by omega) (ls' := [(3, .int (iI (hg + 1))), (6, .int (iI (sN ((30 * (30 * b + w)) + k)))), (5, .int (iI s)), (4, .int (iI k)), (2, .int (iI n)), (1, .int (iI (30 * b + w))), (0, .ref 530)]) rfl (pc' := 86) rfl ?_
              refine T_p xr_197_86 xn_197 (pc' := 248) (ls' := [(3, .int (iI (hg + 1))), (6, .int (iI (sN ((30 * (30 * b + w)) + k)))), (5, .int (iI s)), (4, .int (iI k)), (2, .int (iI n)), (1, .int (iI (30 * b + w))), (0, .ref 530)]) (st' := []) rfl ?_
              refine T_ziinc xr_197_248 xn_197 (a := k) (z := k + 1) rfl (Nat.le_of_ble_eq_true rfl) (by omega) (ls' := [(4, .int (iI (k + 1))), (3, .int (iI (hg + 1))), (6, .int (iI (sN ((30 * (30 * b + w)) + k)))), (5, .int (iI s)), (2, .int (iI n)), (1, .int (iI (30 * b + w))), (0, .ref 530)]) rfl (pc' := 251) rfl ?_
              refine T_p xr_197_251 xn_197 (pc' := 5) (ls' := [(4, .int (iI (k + 1))), (3, .int (iI (hg + 1))), (6, .int (iI (sN ((30 * (30 * b + w)) + k)))), (5, .int (iI s)), (2, .int (iI n)), (1, .int (iI (30 * b + w))), (0, .ref 530)]) (st' := []) rfl ?_
              refine T_sub (ls := [(4, .int (iI (k + 1))), (3, .int (iI (hg + 1))), (2, .int (iI n)), (1, .int (iI (30 * b + w))), (0, .ref 530)]) ⟨rfl, rfl, rfl, rfl, rfl, trivial⟩ rfl rfl ?_
              exact ih2411 S2486 (k + 1) (hg + 1) (X_ug pl1 hg ((iI (gD G w 13 k)).toInt)) (X_ug pr hg ((iI (gD G w 13 k)).toInt)) h2487 (hF2414.tr ((X_Fr.rf).tr (X_Fr.of n2488 e2489 (by omega)))) (by omega) hgo (fun q h1 h2 => by
                    by_cases hq : q = hg
                    · rw [hq, X_ug_s, X_ug_s]
                    · rw [X_ug_n _ _ hq, X_ug_n _ _ hq]; exact hpr q h1 (by omega)) (by omega) (by omega)
  refine T_sub (ls := [(4, .int (iI 0)), (3, .int (iI 0)), (2, .int (iI n)), (1, .int (iI (30 * b + w))), (0, .ref 530)]) ⟨rfl, rfl, rfl, rfl, rfl, trivial⟩ rfl rfl ?_
  exact L2410 ((gD G w 5 0) + 1).toNat S 0 0 pl (fun _ => 0) hA577 ((X_Fr.rf)) (by omega) rfl (fun q h1 h2 => absurd h2 (by omega)) (by omega) (by omega)
theorem r_behind (sc : X_Sc) (S : X_S) (nW : Int → Int) (nF : Int → Int) (nL : Int → Int) (nP : Int → Int) (nH : Int → Int) (o : Nat → Int) (nm : Int64) (b : Int) (rc : Int) (G : X_G) (tn : Int) (nc : Int) (N : Int → Int → Int) (n : Int) (hO530 : S.1 530 = .inr (11, [.ref 531, .int (iI (o 1)), .ref 532, .int (iI (o 3)), .int (iI b), .int (iI (o 5)), .int (iI (o 6)), .int (iI (o 7)), .int (iI (o 8)), .int (iI (o 9)), .int (iI (o 10)), .int (iI (o 11)), .long nm, .ref 533, .ref 534, .ref 535, .ref 536, .ref 537, .ref 538, .ref 539, .ref 540, .ref 541, .ref 542, .ref 543, .ref 544, .ref 545, .ref 546, .ref 547, .int (iI rc), .int (iI (gk G)), .int (iI (gw G)), .int (iI (o 31)), .int (iI (o 32)), .int (iI (o 33)), .ref 548, .ref 549, .ref 550, .ref 551, .int (iI tn), .ref 552, .ref 553, .ref 554, .ref 555, .ref 556, .ref 557, .ref 558, .ref 559, .ref 560, .ref 561, .int (iI nc), .ref 562, .ref 563, .ref 564, .ref 565, .ref 566, .ref 567, .ref 568, .ref 569, .int (iI (o 58)), .ref 570, .ref 571, .ref 572, .ref 573, .ref 574, .ref 575, .ref 576, .ref 577, .ref 578, .int (iI (o 68)), .int (iI (o 69)), .int (iI (o 70)), .ref 579])) (hA557 : S.1 557 = .inl (.int, 40, .inl fun k : Nat => iI (nW (k : Int)))) (hA558 : S.1 558 = .inl (.int, 40, .inl fun k : Nat => iI (nF (k : Int)))) (hA559 : S.1 559 = .inl (.int, 40, .inl fun k : Nat => iI (nL (k : Int)))) (hA560 : S.1 560 = .inl (.int, 40, .inl fun k : Nat => iI (nP (k : Int)))) (hA561 : S.1 561 = .inl (.int, 40, .inl fun k : Nat => iI (nH (k : Int)))) (hnc : 0 ≤ nc ∧ nc ≤ 30) (hn : 0 ≤ n ∧ n < nc) (hnd : R_nd nc N nW nF nL nP nH) (ht0 : X_tr0 N nc) : X_T sc 192 (0, [(0, .ref 530), (1, .int (iI n))], [], S) (fun v S' => ∃ (r : Int), v = some (.int (iI r)) ∧ (n + 1 ≤ r ∧ r ≤ nc) ∧ (r < nc → N 3 r < n) ∧ S' = S) := by
  refine X_QI (fun Q hQ => ?_)
  refine T_p xr_192_0 xn_192 (pc' := 1) (ls' := [(0, .ref 530), (1, .int (iI n))]) (st' := [.int (iI n)]) rfl ?_
  refine T_p xr_192_1 xn_192 (pc' := 2) (ls' := [(0, .ref 530), (1, .int (iI n))]) (st' := [.int (iI 1), .int (iI n)]) rfl ?_
  refine T_ziadd xr_192_2 (z := n + 1) rfl (pc' := 3) rfl ?_
  refine T_p xr_192_3 xn_192 (pc' := 4) (ls' := [(2, .int (iI (n + 1))), (0, .ref 530), (1, .int (iI n))]) (st' := []) rfl ?_
  have L2490 : ∀ (m2492 : Nat) (m : Int) (hm : n + 1 ≤ m ∧ m ≤ nc) (hm2493 : nc - m < m2492), X_T sc 192 (4, [(2, .int (iI m)), (1, .int (iI n)), (0, .ref 530)], [], S) Q := by
    intro m2492
    induction m2492 with
    | zero =>
      intro m hm hm2493
      exact (show False by omega).elim
    | succ m2492 ih2491 =>
      intro m hm hm2493
      refine T_p xr_192_4 xn_192 (pc' := 5) (ls' := [(2, .int (iI m)), (1, .int (iI n)), (0, .ref 530)]) (st' := [.int (iI m)]) rfl ?_
      refine T_p xr_192_5 xn_192 (pc' := 6) (ls' := [(2, .int (iI m)), (1, .int (iI n)), (0, .ref 530)]) (st' := [.ref 530, .int (iI m)]) rfl ?_
      refine T_get xr_192_6 hO530 rfl (v := .int (iI nc)) rfl (pc' := 9) rfl ?_
      refine T_zicmp_ge xr_192_9 (t := 28) (pc' := 12) rfl rfl (fun c2495 => ?_) (fun c2495 => ?_)
      · skip
        have c2495 : nc ≤ m := c2495
        refine T_p xr_192_28 xn_192 (pc' := 29) (ls' := [(2, .int (iI m)), (1, .int (iI n)), (0, .ref 530)]) (st' := [.int (iI m)]) rfl ?_
        refine T_iret xr_192_29 xf_192.2.2 rfl ?_
        refine hQ _ _ ?_
        exact ⟨m, rfl, (by omega), (fun z => by omega), rfl⟩
      · skip
        have c2495 : ¬ (nc ≤ m) := c2495
        refine T_p xr_192_12 xn_192 (pc' := 13) (ls' := [(2, .int (iI m)), (1, .int (iI n)), (0, .ref 530)]) (st' := [.ref 530]) rfl ?_
        refine T_get xr_192_13 hO530 rfl (v := .ref 560) rfl (pc' := 16) rfl ?_
        refine T_p xr_192_16 xn_192 (pc' := 17) (ls' := [(2, .int (iI m)), (1, .int (iI n)), (0, .ref 530)]) (st' := [.int (iI m), .ref 560]) rfl ?_
        refine T_ziald xr_192_17 hA560 (pc' := 18) rfl ?_
        have htm := ht0 m (by omega) (by omega)
        refine T_ie (y := iI (N 3 m)) (by rw [(hnd m (by omega) (by omega)).2.2.2.1]) ?_
        refine T_p xr_192_18 xn_192 (pc' := 19) (ls' := [(2, .int (iI m)), (1, .int (iI n)), (0, .ref 530)]) (st' := [.int (iI n), .int (iI (N 3 m))]) rfl ?_
        refine T_zicmp_lt xr_192_19 (t := 28) (pc' := 22) rfl rfl (fun c2496 => ?_) (fun c2496 => ?_)
        · skip
          have c2496 : (N 3 m) < n := c2496
          refine T_p xr_192_28 xn_192 (pc' := 29) (ls' := [(2, .int (iI m)), (1, .int (iI n)), (0, .ref 530)]) (st' := [.int (iI m)]) rfl ?_
          refine T_iret xr_192_29 xf_192.2.2 rfl ?_
          refine hQ _ _ ?_
          exact ⟨m, rfl, (by omega), (fun z => by omega), rfl⟩
        · skip
          have c2496 : ¬ ((N 3 m) < n) := c2496
          refine T_ziinc xr_192_22 xn_192 (a := m) (z := m + 1) rfl (Nat.le_of_ble_eq_true rfl) (by omega) (ls' := [(2, .int (iI (m + 1))), (1, .int (iI n)), (0, .ref 530)]) rfl (pc' := 25) rfl ?_
          refine T_p xr_192_25 xn_192 (pc' := 4) (ls' := [(2, .int (iI (m + 1))), (1, .int (iI n)), (0, .ref 530)]) (st' := []) rfl ?_
          exact ih2491 (m + 1)  (by omega) (by omega)
  refine T_sub (ls := [(2, .int (iI (n + 1))), (1, .int (iI n)), (0, .ref 530)]) ⟨rfl, rfl, rfl, trivial⟩ rfl rfl ?_
  exact L2490 (nc + 1).toNat (n + 1)  (by omega) (by omega)
theorem r_nextWithin (sc : X_Sc) (S : X_S) (nW : Int → Int) (nF : Int → Int) (nL : Int → Int) (nP : Int → Int) (nH : Int → Int) (dn : Int → Int) (o : Nat → Int) (nm : Int64) (b : Int) (rc : Int) (G : X_G) (tn : Int) (nc : Int) (N : Int → Int → Int) (n : Int) (hO530 : S.1 530 = .inr (11, [.ref 531, .int (iI (o 1)), .ref 532, .int (iI (o 3)), .int (iI b), .int (iI (o 5)), .int (iI (o 6)), .int (iI (o 7)), .int (iI (o 8)), .int (iI (o 9)), .int (iI (o 10)), .int (iI (o 11)), .long nm, .ref 533, .ref 534, .ref 535, .ref 536, .ref 537, .ref 538, .ref 539, .ref 540, .ref 541, .ref 542, .ref 543, .ref 544, .ref 545, .ref 546, .ref 547, .int (iI rc), .int (iI (gk G)), .int (iI (gw G)), .int (iI (o 31)), .int (iI (o 32)), .int (iI (o 33)), .ref 548, .ref 549, .ref 550, .ref 551, .int (iI tn), .ref 552, .ref 553, .ref 554, .ref 555, .ref 556, .ref 557, .ref 558, .ref 559, .ref 560, .ref 561, .int (iI nc), .ref 562, .ref 563, .ref 564, .ref 565, .ref 566, .ref 567, .ref 568, .ref 569, .int (iI (o 58)), .ref 570, .ref 571, .ref 572, .ref 573, .ref 574, .ref 575, .ref 576, .ref 577, .ref 578, .int (iI (o 68)), .int (iI (o 69)), .int (iI (o 70)), .ref 579])) (hA557 : S.1 557 = .inl (.int, 40, .inl fun k : Nat => iI (nW (k : Int)))) (hA558 : S.1 558 = .inl (.int, 40, .inl fun k : Nat => iI (nF (k : Int)))) (hA559 : S.1 559 = .inl (.int, 40, .inl fun k : Nat => iI (nL (k : Int)))) (hA560 : S.1 560 = .inl (.int, 40, .inl fun k : Nat => iI (nP (k : Int)))) (hA561 : S.1 561 = .inl (.int, 40, .inl fun k : Nat => iI (nH (k : Int)))) (hA579 : S.1 579 = .inl (.boolean, 40, .inl fun k : Nat => iI (dn (k : Int)))) (hnc : 0 ≤ nc ∧ nc ≤ 30) (hn : 0 ≤ n ∧ n < nc) (hnd : R_nd nc N nW nF nL nP nH) (ht0 : X_tr0 N nc) (hdr : ∀ m, 0 ≤ m → m < nc → dn m = 0 ∨ dn m = 1) : X_T sc 194 (0, [(0, .ref 530), (1, .int (iI n))], [], S) (fun v S' => (v = some (.int (iI (-1))) ∧ (∀ m1, n < m1 → m1 < nc → N 3 m1 = n → ¬ dn m1 = 0) ∧ S' = S) ∨ (∃ (r : Int), v = some (.int (iI r)) ∧ (n < r ∧ r < nc) ∧ N 3 r = n ∧ dn r = 0 ∧ (∀ m1, n < m1 → m1 < r → N 3 m1 = n → ¬ dn m1 = 0) ∧ S' = S)) := by
  refine X_QI (fun Q hQ => ?_)
  refine T_p xr_194_0 xn_194 (pc' := 1) (ls' := [(0, .ref 530), (1, .int (iI n))]) (st' := [.int (iI n)]) rfl ?_
  refine T_p xr_194_1 xn_194 (pc' := 2) (ls' := [(0, .ref 530), (1, .int (iI n))]) (st' := [.int (iI 1), .int (iI n)]) rfl ?_
  refine T_ziadd xr_194_2 (z := n + 1) rfl (pc' := 3) rfl ?_
  refine T_p xr_194_3 xn_194 (pc' := 4) (ls' := [(2, .int (iI (n + 1))), (0, .ref 530), (1, .int (iI n))]) (st' := []) rfl ?_
  have L2497 : ∀ (m2499 : Nat) (m : Int) (hm : n + 1 ≤ m ∧ m ≤ nc) (hno : ∀ m1, n < m1 → m1 < m → N 3 m1 = n → ¬ dn m1 = 0) (hm2500 : nc - m < m2499), X_T sc 194 (4, [(2, .int (iI m)), (1, .int (iI n)), (0, .ref 530)], [], S) Q := by
    intro m2499
    induction m2499 with
    | zero =>
      intro m hm hno hm2500
      exact (show False by omega).elim
    | succ m2499 ih2498 =>
      intro m hm hno hm2500
      refine T_p xr_194_4 xn_194 (pc' := 5) (ls' := [(2, .int (iI m)), (1, .int (iI n)), (0, .ref 530)]) (st' := [.int (iI m)]) rfl ?_
      refine T_p xr_194_5 xn_194 (pc' := 6) (ls' := [(2, .int (iI m)), (1, .int (iI n)), (0, .ref 530)]) (st' := [.ref 530, .int (iI m)]) rfl ?_
      refine T_get xr_194_6 hO530 rfl (v := .int (iI nc)) rfl (pc' := 9) rfl ?_
      refine T_zicmp_ge xr_194_9 (t := 39) (pc' := 12) rfl rfl (fun c2502 => ?_) (fun c2502 => ?_)
      · skip
        have c2502 : nc ≤ m := c2502
        refine T_p xr_194_39 xn_194 (pc' := 40) (ls' := [(2, .int (iI m)), (1, .int (iI n)), (0, .ref 530)]) (st' := [.int (iI (-1))]) rfl ?_
        refine T_iret xr_194_40 xf_194.2.2 rfl ?_
        refine hQ _ _ ?_
        exact Or.inl ⟨rfl, (fun m1 h1 h2 => hno m1 h1 (by omega)), rfl⟩
      · skip
        have c2502 : ¬ (nc ≤ m) := c2502
        refine T_p xr_194_12 xn_194 (pc' := 13) (ls' := [(2, .int (iI m)), (1, .int (iI n)), (0, .ref 530)]) (st' := [.ref 530]) rfl ?_
        refine T_get xr_194_13 hO530 rfl (v := .ref 560) rfl (pc' := 16) rfl ?_
        refine T_p xr_194_16 xn_194 (pc' := 17) (ls' := [(2, .int (iI m)), (1, .int (iI n)), (0, .ref 530)]) (st' := [.int (iI m), .ref 560]) rfl ?_
        refine T_ziald xr_194_17 hA560 (pc' := 18) rfl ?_
        have htm := ht0 m (by omega) (by omega)
        refine T_ie (y := iI (N 3 m)) (by rw [(hnd m (by omega) (by omega)).2.2.2.1]) ?_
        refine T_p xr_194_18 xn_194 (pc' := 19) (ls' := [(2, .int (iI m)), (1, .int (iI n)), (0, .ref 530)]) (st' := [.int (iI n), .int (iI (N 3 m))]) rfl ?_
        refine T_zicmp_ne xr_194_19 (t := 33) (pc' := 22) rfl rfl (fun c2503 => ?_) (fun c2503 => ?_)
        · skip
          have c2503 : ¬ (N 3 m) = n := c2503
          refine T_ziinc xr_194_33 xn_194 (a := m) (z := m + 1) rfl (Nat.le_of_ble_eq_true rfl) (by omega) (ls' := [(2, .int (iI (m + 1))), (1, .int (iI n)), (0, .ref 530)]) rfl (pc' := 36) rfl ?_
          refine T_p xr_194_36 xn_194 (pc' := 4) (ls' := [(2, .int (iI (m + 1))), (1, .int (iI n)), (0, .ref 530)]) (st' := []) rfl ?_
          exact ih2498 (m + 1)  (by omega) (fun m1 h1 h2 h3 => by
                by_cases hh : m1 = m
                · rw [hh] at h3 ⊢; omega
                · exact hno m1 h1 (by omega) h3) (by omega)
        · skip
          have c2503 : ¬ (¬ (N 3 m) = n) := c2503
          refine T_p xr_194_22 xn_194 (pc' := 23) (ls' := [(2, .int (iI m)), (1, .int (iI n)), (0, .ref 530)]) (st' := [.ref 530]) rfl ?_
          refine T_get xr_194_23 hO530 rfl (v := .ref 579) rfl (pc' := 26) rfl ?_
          refine T_p xr_194_26 xn_194 (pc' := 27) (ls' := [(2, .int (iI m)), (1, .int (iI n)), (0, .ref 530)]) (st' := [.int (iI m), .ref 579]) rfl ?_
          refine T_zzald xr_194_27 hA579 (pc' := 28) rfl ?_
          have hdm := hdr m (by omega) (by omega)
          refine T_zif_ne xr_194_28 (t := 33) (pc' := 31) rfl rfl (fun c2504 => ?_) (fun c2504 => ?_)
          · skip
            have c2504 : ¬ (dn m) = 0 := c2504
            refine T_ziinc xr_194_33 xn_194 (a := m) (z := m + 1) rfl (Nat.le_of_ble_eq_true rfl) (by omega) (ls' := [(2, .int (iI (m + 1))), (1, .int (iI n)), (0, .ref 530)]) rfl (pc' := 36) rfl ?_
            refine T_p xr_194_36 xn_194 (pc' := 4) (ls' := [(2, .int (iI (m + 1))), (1, .int (iI n)), (0, .ref 530)]) (st' := []) rfl ?_
            exact ih2498 (m + 1)  (by omega) (fun m1 h1 h2 h3 => by
                  by_cases hh : m1 = m
                  · rw [hh] at h3 ⊢; omega
                  · exact hno m1 h1 (by omega) h3) (by omega)
          · skip
            have c2504 : ¬ (¬ (dn m) = 0) := c2504
            refine T_p xr_194_31 xn_194 (pc' := 32) (ls' := [(2, .int (iI m)), (1, .int (iI n)), (0, .ref 530)]) (st' := [.int (iI m)]) rfl ?_
            refine T_iret xr_194_32 xf_194.2.2 rfl ?_
            refine hQ _ _ ?_
            exact Or.inr ⟨m, rfl, (by omega), (by omega), (by omega), hno, rfl⟩
  refine T_sub (ls := [(2, .int (iI (n + 1))), (1, .int (iI n)), (0, .ref 530)]) ⟨rfl, rfl, rfl, trivial⟩ rfl rfl ?_
  exact L2497 (nc + 1).toNat (n + 1)  (by omega) (fun m1 h1 h2 => absurd h2 (by omega)) (by omega)
set_option maxHeartbeats 1600000 in
theorem r_value (sc : X_Sc) (S : X_S) (wS : Int → Int) (sO : Int → Int) (sN : Int → Int) (tU : Int → Int) (nW : Int → Int) (nF : Int → Int) (nL : Int → Int) (nP : Int → Int) (nH : Int → Int) (bo : Int → Int) (va : Int → Int) (vs : Int → Int) (pl : Int → Int) (hv : Int → Int) (o : Nat → Int) (nm : Int64) (b : Int) (rc : Int) (G : X_G) (tn : Int) (nc : Int) (N : Int → Int → Int) (n : Int) (V : Int → Int) (hO530 : S.1 530 = .inr (11, [.ref 531, .int (iI (o 1)), .ref 532, .int (iI (o 3)), .int (iI b), .int (iI (o 5)), .int (iI (o 6)), .int (iI (o 7)), .int (iI (o 8)), .int (iI (o 9)), .int (iI (o 10)), .int (iI (o 11)), .long nm, .ref 533, .ref 534, .ref 535, .ref 536, .ref 537, .ref 538, .ref 539, .ref 540, .ref 541, .ref 542, .ref 543, .ref 544, .ref 545, .ref 546, .ref 547, .int (iI rc), .int (iI (gk G)), .int (iI (gw G)), .int (iI (o 31)), .int (iI (o 32)), .int (iI (o 33)), .ref 548, .ref 549, .ref 550, .ref 551, .int (iI tn), .ref 552, .ref 553, .ref 554, .ref 555, .ref 556, .ref 557, .ref 558, .ref 559, .ref 560, .ref 561, .int (iI nc), .ref 562, .ref 563, .ref 564, .ref 565, .ref 566, .ref 567, .ref 568, .ref 569, .int (iI (o 58)), .ref 570, .ref 571, .ref 572, .ref 573, .ref 574, .ref 575, .ref 576, .ref 577, .ref 578, .int (iI (o 68)), .int (iI (o 69)), .int (iI (o 70)), .ref 579])) (hA542 : S.1 542 = .inl (.int, 60, .inl fun k : Nat => iI (wS (k : Int)))) (hA543 : S.1 543 = .inl (.int, 1800, .inl fun k : Nat => iI (sO (k : Int)))) (hA544 : S.1 544 = .inl (.int, 1800, .inl fun k : Nat => iI (sN (k : Int)))) (hA550 : S.1 550 = .inl (.int, 30, .inl fun k : Nat => iI (tU (k : Int)))) (hA557 : S.1 557 = .inl (.int, 40, .inl fun k : Nat => iI (nW (k : Int)))) (hA558 : S.1 558 = .inl (.int, 40, .inl fun k : Nat => iI (nF (k : Int)))) (hA559 : S.1 559 = .inl (.int, 40, .inl fun k : Nat => iI (nL (k : Int)))) (hA560 : S.1 560 = .inl (.int, 40, .inl fun k : Nat => iI (nP (k : Int)))) (hA561 : S.1 561 = .inl (.int, 40, .inl fun k : Nat => iI (nH (k : Int)))) (hA574 : S.1 574 = .inl (.boolean, 30, .inl fun k : Nat => iI (bo (k : Int)))) (hA575 : S.1 575 = .inl (.int, 30, .inl fun k : Nat => iI (va (k : Int)))) (hA576 : S.1 576 = .inl (.int, 40, .inl fun k : Nat => iI (vs (k : Int)))) (hA577 : S.1 577 = .inl (.int, 18, .inl fun k : Nat => iI (pl (k : Int)))) (hA578 : S.1 578 = .inl (.int, 4, .inl fun k : Nat => iI (hv (k : Int)))) (hbr : 0 ≤ b ∧ b ≤ 1) (hG : X_Gok G) (hGs : X_Gst G) (hTU : ∀ t, 0 ≤ t → t < tn → tU t = X_nv (gt G t)) (hWS : ∀ w, 0 ≤ w → w < gw G → wS (30 * b + w) = gD G w 5 0) (hST : ∀ w, 0 ≤ w → w < gw G → ∀ k, 0 ≤ k → k < gD G w 5 0 → sO (30 * (30 * b + w) + k) = X_op (gD G w 12 k) ∧ (gD G w 12 k = 4 → sN (30 * (30 * b + w) + k) = gD G w 13 k) ∧ (gD G w 12 k = 64 → sN (30 * (30 * b + w) + k) = gD G w 13 k - 1)) (hbo : ∀ w, 0 ≤ w → w < gw G → (bo w = gD G w 6 0 ∧ (gD G w 6 0 = 1 → va w = gD G w 7 0)) ∧ 0 ≤ gD G w 6 0 ∧ gD G w 6 0 ≤ 1) (hR : X_Rok G tn nc N) (hn : 0 ≤ n ∧ n < nc) (hnd : R_nd nc N nW nF nL nP nH) (hV : ∀ h, 0 ≤ h → h < 4 → ¬ X_lc N n h nc.toNat = -1 → vs (X_lc N n h nc.toNat) = V (X_lc N n h nc.toNat)) : X_T sc 196 (0, [(0, .ref 530), (1, .int (iI n))], [], S) (fun v S' => ∃ (vs1 : Int → Int) (pl1 : Int → Int) (hv1 : Int → Int), v = some (.int (iI ((X_ev G (fun w => gD G w 6 0) (fun w => gD G w 7 0) N nc V n).1))) ∧ ((X_ev G (fun w => gD G w 6 0) (fun w => gD G w 7 0) N nc V n).1 = 0 → vs1 n = (X_ev G (fun w => gD G w 6 0) (fun w => gD G w 7 0) N nc V n).2) ∧ (∀ m, ¬ m = n → vs1 m = vs m) ∧ S'.1 576 = .inl (.int, 40, .inl fun k : Nat => iI (vs1 (k : Int))) ∧ S'.1 577 = .inl (.int, 18, .inl fun k : Nat => iI (pl1 (k : Int))) ∧ S'.1 578 = .inl (.int, 4, .inl fun k : Nat => iI (hv1 (k : Int))) ∧ (X_Fr (fun q => q = 576 ∨ q = 577 ∨ q = 578) S S')) := by
  have hRn := hR.1
  have t0 := hR.2.1
  have hc1 := hG.1
  have hR4 := hR.2.2.2.2.1 n hn.1 hn.2
  have hN0 := (hnd n hn.1 hn.2).1
  have hN1 := (hnd n hn.1 hn.2).2.1
  have hN0r := hR4.1
  refine X_QI (fun Q hQ => ?_)
  refine T_p xr_196_0 xn_196 (pc' := 1) (ls' := [(0, .ref 530), (1, .int (iI n))]) (st' := [.ref 530]) rfl ?_
  refine T_get xr_196_1 hO530 rfl (v := .ref 557) rfl (pc' := 4) rfl ?_
  refine T_p xr_196_4 xn_196 (pc' := 5) (ls' := [(0, .ref 530), (1, .int (iI n))]) (st' := [.int (iI n), .ref 557]) rfl ?_
  refine T_ziald xr_196_5 hA557 (pc' := 6) rfl ?_
  refine T_ie (y := iI (N 0 n)) (by rw [hN0]) ?_
  refine T_p xr_196_6 xn_196 (pc' := 7) (ls' := [(2, .int (iI (N 0 n))), (0, .ref 530), (1, .int (iI n))]) (st' := []) rfl ?_
  refine T_p xr_196_7 xn_196 (pc' := 8) (ls' := [(2, .int (iI (N 0 n))), (0, .ref 530), (1, .int (iI n))]) (st' := [.int (iI (N 0 n))]) rfl ?_
  refine T_p xr_196_8 xn_196 (pc' := 10) (ls' := [(2, .int (iI (N 0 n))), (0, .ref 530), (1, .int (iI n))]) (st' := [.int (iI (-2)), .int (iI (N 0 n))]) rfl ?_
  refine T_zicmp_ne xr_196_10 (t := 32) (pc' := 13) rfl rfl (fun c2505 => ?_) (fun c2505 => ?_)
  · skip
    have c2505 : ¬ (N 0 n) = (-2) := c2505
    refine T_p xr_196_32 xn_196 (pc' := 33) (ls' := [(2, .int (iI (N 0 n))), (0, .ref 530), (1, .int (iI n))]) (st' := [.int (iI (N 0 n))]) rfl ?_
    refine T_p xr_196_33 xn_196 (pc' := 35) (ls' := [(2, .int (iI (N 0 n))), (0, .ref 530), (1, .int (iI n))]) (st' := [.int (iI (-3)), .int (iI (N 0 n))]) rfl ?_
    refine T_zicmp_ne xr_196_35 (t := 54) (pc' := 38) rfl rfl (fun c2506 => ?_) (fun c2506 => ?_)
    · skip
      have c2506 : ¬ (N 0 n) = (-3) := c2506
      have hwn : 0 ≤ N 0 n ∧ N 0 n < gw G := by omega
      have hgn := hG.2.2.2 (N 0 n) hwn.1 hwn.2
      have hgh := hgn.2.1
      have hst : gD G (N 0 n) 5 0 = -1 ∨ (0 ≤ gD G (N 0 n) 5 0 ∧ gD G (N 0 n) 5 0 ≤ 30) := by
        rcases hGs (N 0 n) hwn.1 hwn.2 with h | h
        · exact Or.inl h
        · exact Or.inr ⟨h.1.1, h.2.1⟩
      have hbn := hbo (N 0 n) hwn.1 hwn.2
      refine T_p xr_196_54 xn_196 (pc' := 55) (ls' := [(2, .int (iI (N 0 n))), (0, .ref 530), (1, .int (iI n))]) (st' := [.int (iI n)]) rfl ?_
      refine T_p xr_196_55 xn_196 (pc' := 56) (ls' := [(2, .int (iI (N 0 n))), (0, .ref 530), (1, .int (iI n))]) (st' := [.int (iI 1), .int (iI n)]) rfl ?_
      refine T_ziadd xr_196_56 (z := n + 1) rfl (pc' := 57) rfl ?_
      refine T_p xr_196_57 xn_196 (pc' := 58) (ls' := [(3, .int (iI (n + 1))), (2, .int (iI (N 0 n))), (0, .ref 530), (1, .int (iI n))]) (st' := []) rfl ?_
      have L2507 : ∀ (m2509 : Nat) (S2512 : X_S) (m : Int) (hv1 : Int → Int) (hhv1 : S2512.1 578 = .inl (.int, 4, .inl fun k : Nat => iI (hv1 (k : Int)))) (hF2511 : X_Fr (fun q => q = 578) S S2512) (hm : n + 1 ≤ m ∧ m ≤ nc) (hlc : ∀ h, 0 ≤ h → h < 4 → ¬ X_lc N n h m.toNat = -1 → hv1 h = vs (X_lc N n h m.toNat)) (hm2510 : nc - m < m2509), X_T sc 196 (58, [(3, .int (iI m)), (2, .int (iI (N 0 n))), (1, .int (iI n)), (0, .ref 530)], [], S2512) Q := by
        intro m2509
        induction m2509 with
        | zero =>
          intro S2512 m hv1 hhv1 hF2511 hm hlc hm2510
          exact (show False by omega).elim
        | succ m2509 ih2508 =>
          intro S2512 m hv1 hhv1 hF2511 hm hlc hm2510
          refine T_p xr_196_58 xn_196 (pc' := 59) (ls' := [(3, .int (iI m)), (2, .int (iI (N 0 n))), (1, .int (iI n)), (0, .ref 530)]) (st' := [.int (iI m)]) rfl ?_
          refine T_p xr_196_59 xn_196 (pc' := 60) (ls' := [(3, .int (iI m)), (2, .int (iI (N 0 n))), (1, .int (iI n)), (0, .ref 530)]) (st' := [.ref 530, .int (iI m)]) rfl ?_
          have h2513 := (hF2511.1 530 (by omega)).trans (hO530)
          refine T_get xr_196_60 h2513 rfl (v := .int (iI nc)) rfl (pc' := 63) rfl ?_
          refine T_zicmp_ge xr_196_63 (t := 99) (pc' := 66) rfl rfl (fun c2514 => ?_) (fun c2514 => ?_)
          · skip
            have c2514 : nc ≤ m := c2514
            refine T_p xr_196_99 xn_196 (pc' := 101) (ls' := [(3, .int (iI m)), (2, .int (iI (N 0 n))), (1, .int (iI n)), (0, .ref 530)]) (st' := [.int (iI 30)]) rfl ?_
            refine T_p xr_196_101 xn_196 (pc' := 102) (ls' := [(3, .int (iI m)), (2, .int (iI (N 0 n))), (1, .int (iI n)), (0, .ref 530)]) (st' := [.ref 530, .int (iI 30)]) rfl ?_
            refine T_get xr_196_102 h2513 rfl (v := .int (iI b)) rfl (pc' := 105) rfl ?_
            refine T_zimul xr_196_105 (z := 30 * b) rfl (pc' := 106) rfl ?_
            refine T_p xr_196_106 xn_196 (pc' := 107) (ls' := [(3, .int (iI m)), (2, .int (iI (N 0 n))), (1, .int (iI n)), (0, .ref 530)]) (st' := [.int (iI (N 0 n)), .int (iI (30 * b))]) rfl ?_
            refine T_ziadd xr_196_107 (z := (30 * b) + (N 0 n)) rfl (pc' := 108) rfl ?_
            refine T_p xr_196_108 xn_196 (pc' := 109) (ls' := [(3, .int (iI ((30 * b) + (N 0 n)))), (2, .int (iI (N 0 n))), (1, .int (iI n)), (0, .ref 530)]) (st' := []) rfl ?_
            refine T_p xr_196_109 xn_196 (pc' := 110) (ls' := [(3, .int (iI ((30 * b) + (N 0 n)))), (2, .int (iI (N 0 n))), (1, .int (iI n)), (0, .ref 530)]) (st' := [.ref 530]) rfl ?_
            refine T_get xr_196_110 h2513 rfl (v := .ref 542) rfl (pc' := 113) rfl ?_
            refine T_p xr_196_113 xn_196 (pc' := 114) (ls' := [(3, .int (iI ((30 * b) + (N 0 n)))), (2, .int (iI (N 0 n))), (1, .int (iI n)), (0, .ref 530)]) (st' := [.int (iI ((30 * b) + (N 0 n))), .ref 542]) rfl ?_
            have h2515 := (hF2511.1 542 (by omega)).trans (hA542)
            refine T_ziald xr_196_114 h2515 (pc' := 115) rfl ?_
            refine T_ie (y := iI (gD G (N 0 n) 5 0)) (by rw [hWS (N 0 n) hwn.1 hwn.2]) ?_
            refine T_zif_lt xr_196_115 (t := 125) (pc' := 118) rfl rfl (fun c2516 => ?_) (fun c2516 => ?_)
            · skip
              have c2516 : (gD G (N 0 n) 5 0) < 0 := c2516
              refine T_p xr_196_125 xn_196 (pc' := 126) (ls' := [(3, .int (iI ((30 * b) + (N 0 n)))), (2, .int (iI (N 0 n))), (1, .int (iI n)), (0, .ref 530)]) (st' := [.ref 530]) rfl ?_
              refine T_get xr_196_126 h2513 rfl (v := .ref 574) rfl (pc' := 129) rfl ?_
              refine T_p xr_196_129 xn_196 (pc' := 130) (ls' := [(3, .int (iI ((30 * b) + (N 0 n)))), (2, .int (iI (N 0 n))), (1, .int (iI n)), (0, .ref 530)]) (st' := [.int (iI (N 0 n)), .ref 574]) rfl ?_
              have h2517 := (hF2511.1 574 (by omega)).trans (hA574)
              refine T_zzald xr_196_130 h2517 (pc' := 131) rfl ?_
              refine T_ie (y := iI (gD G (N 0 n) 6 0)) (by rw [hbn.1.1]) ?_
              refine T_zif_ne xr_196_131 (t := 136) (pc' := 134) rfl rfl (fun c2518 => ?_) (fun c2518 => ?_)
              · skip
                have c2518 : ¬ (gD G (N 0 n) 6 0) = 0 := c2518
                refine T_p xr_196_136 xn_196 (pc' := 137) (ls' := [(3, .int (iI ((30 * b) + (N 0 n)))), (2, .int (iI (N 0 n))), (1, .int (iI n)), (0, .ref 530)]) (st' := [.ref 530]) rfl ?_
                refine T_get xr_196_137 h2513 rfl (v := .ref 576) rfl (pc' := 140) rfl ?_
                refine T_p xr_196_140 xn_196 (pc' := 141) (ls' := [(3, .int (iI ((30 * b) + (N 0 n)))), (2, .int (iI (N 0 n))), (1, .int (iI n)), (0, .ref 530)]) (st' := [.int (iI n), .ref 576]) rfl ?_
                refine T_p xr_196_141 xn_196 (pc' := 142) (ls' := [(3, .int (iI ((30 * b) + (N 0 n)))), (2, .int (iI (N 0 n))), (1, .int (iI n)), (0, .ref 530)]) (st' := [.ref 530, .int (iI n), .ref 576]) rfl ?_
                refine T_get xr_196_142 h2513 rfl (v := .ref 575) rfl (pc' := 145) rfl ?_
                refine T_p xr_196_145 xn_196 (pc' := 146) (ls' := [(3, .int (iI ((30 * b) + (N 0 n)))), (2, .int (iI (N 0 n))), (1, .int (iI n)), (0, .ref 530)]) (st' := [.int (iI (N 0 n)), .ref 575, .int (iI n), .ref 576]) rfl ?_
                have h2519 := (hF2511.1 575 (by omega)).trans (hA575)
                refine T_ziald xr_196_146 h2519 (pc' := 147) rfl ?_
                refine T_ie (y := iI (gD G (N 0 n) 7 0)) (by rw [hbn.1.2 (by omega)]) ?_
                have h2520 := (hF2511.1 576 (by omega)).trans (hA576)
                refine T_ziast xr_196_147 h2520 (pc' := 148) rfl (fun S2521 h2522 n2523 e2524 => ?_)
                refine T_p xr_196_148 xn_196 (pc' := 149) (ls' := [(3, .int (iI ((30 * b) + (N 0 n)))), (2, .int (iI (N 0 n))), (1, .int (iI n)), (0, .ref 530)]) (st' := [.int (iI 0)]) rfl ?_
                refine T_iret xr_196_149 xf_196.2.2 rfl ?_
                refine hQ _ _ ?_
                have h2525 := (n2523 577 (by decide)).trans ((hF2511.1 577 (by omega)).trans (hA577))
                have h2526 := (n2523 578 (by decide)).trans (hhv1)
                have hev2527 : (X_ev G (fun w => gD G w 6 0) (fun w => gD G w 7 0) N nc V n) = (0, gD G (N 0 n) 7 0) := (X_ev_v hwn.1 (by omega)).trans (by first | rw [if_pos (show gD G (N 0 n) 6 0 = 1 by omega)] | rw [if_neg (show ¬ gD G (N 0 n) 6 0 = 1 by omega)])
                exact ⟨(X_ug vs n (gD G (N 0 n) 7 0)), pl, hv1, (by rw [hev2527]), (fun _ => by rw [hev2527]; exact X_ug_s _ _ _), (fun m hm => X_ug_n _ _ hm), h2522, h2525, h2526, ((X_Fr.rf).tr (X_Fr.mono ⟨hF2511.1, hF2511.2⟩ (fun q hq => (by omega)))).tr (X_Fr.of n2523 e2524 (by omega))⟩
              · skip
                have c2518 : ¬ (¬ (gD G (N 0 n) 6 0) = 0) := c2518
                refine T_p xr_196_134 xn_196 (pc' := 135) (ls' := [(3, .int (iI ((30 * b) + (N 0 n)))), (2, .int (iI (N 0 n))), (1, .int (iI n)), (0, .ref 530)]) (st' := [.int (iI 2)]) rfl ?_
                refine T_iret xr_196_135 xf_196.2.2 rfl ?_
                refine hQ _ _ ?_
                have h2528 := (hF2511.1 576 (by omega)).trans (hA576)
                have h2529 := (hF2511.1 577 (by omega)).trans (hA577)
                have hev2530 : (X_ev G (fun w => gD G w 6 0) (fun w => gD G w 7 0) N nc V n) = (2, 0) := (X_ev_v hwn.1 (by omega)).trans (by first | rw [if_pos (show gD G (N 0 n) 6 0 = 1 by omega)] | rw [if_neg (show ¬ gD G (N 0 n) 6 0 = 1 by omega)])
                exact ⟨vs, pl, hv1, (by rw [hev2530]), (fun z => absurd (show (2 : Int) = 0 by rw [hev2530] at z; exact z) (by omega)), (fun m _ => rfl), h2528, h2529, hhv1, (X_Fr.rf).tr (X_Fr.mono ⟨hF2511.1, hF2511.2⟩ (fun q hq => (by omega)))⟩
            · skip
              have c2516 : ¬ ((gD G (N 0 n) 5 0) < 0) := c2516
              have hsk := (hGs (N 0 n) hwn.1 hwn.2).resolve_left (by omega)
              have hcv : ∀ h, 0 ≤ h → h < gD G (N 0 n) 4 0 → hv1 h = (fun h => V (X_lc N n h nc.toNat)) h := fun h g1 g2 => by
                have hc := hR.2.2.2.2.2.1 n hn.1 hn.2 hwn.1 h g1 g2
                have hm2 := hlc h g1 (by omega)
                rw [show m = nc by omega] at hm2
                rw [hm2 hc]
                exact hV h g1 (by omega) hc
              refine T_p xr_196_118 xn_196 (pc' := 119) (ls' := [(3, .int (iI ((30 * b) + (N 0 n)))), (2, .int (iI (N 0 n))), (1, .int (iI n)), (0, .ref 530)]) (st' := [.ref 530]) rfl ?_
              refine T_p xr_196_119 xn_196 (pc' := 120) (ls' := [(3, .int (iI ((30 * b) + (N 0 n)))), (2, .int (iI (N 0 n))), (1, .int (iI n)), (0, .ref 530)]) (st' := [.int (iI ((30 * b) + (N 0 n))), .ref 530]) rfl ?_
              refine T_p xr_196_120 xn_196 (pc' := 121) (ls' := [(3, .int (iI ((30 * b) + (N 0 n)))), (2, .int (iI (N 0 n))), (1, .int (iI n)), (0, .ref 530)]) (st' := [.int (iI n), .int (iI ((30 * b) + (N 0 n))), .ref 530]) rfl ?_
              refine T_cv (S := S2512) (q := 530) xr_196_121 xf_197.1 xf_197.2.1 xn_197 (as := [.int (iI ((30 * b) + (N 0 n))), .int (iI n)]) (r := []) rfl h2513 (Nat.le_of_ble_eq_true rfl) (Nat.le_of_ble_eq_true rfl) (pc' := 124) rfl (ls' := [(0, .ref 530), (1, .int (iI ((30 * b) + (N 0 n)))), (2, .int (iI n))]) rfl ?_
              have h2531 := (hF2511.1 543 (by omega)).trans (hA543)
              have h2532 := (hF2511.1 544 (by omega)).trans (hA544)
              have h2533 := (hF2511.1 576 (by omega)).trans (hA576)
              have h2534 := (hF2511.1 577 (by omega)).trans (hA577)
              refine T_mono (r_steps sc S2512 wS sO sN vs pl hv1 (X_ou o 49 nc) nm b rc G tn (N 0 n) n (fun h => V (X_lc N n h nc.toNat)) h2513 h2515 h2531 h2532 h2533 h2534 hhv1 (by omega) hWS hST (by omega) hsk (by omega) hcv (by omega)) (fun v2535 S2536 h2537 => ?_)
              rcases h2537 with ⟨pl2538, hv2539, hp2540, ha2541, hf2542⟩ | ⟨pl2543, rr2544, hv2545, hp2546, ha2547, ha2548, hf2549⟩
              · skip
                rw [hv2539]
                show X_T sc 196 (124, [(3, .int (iI ((30 * b) + (N 0 n)))), (2, .int (iI (N 0 n))), (1, .int (iI n)), (0, .ref 530)], [.int (iI 1)], S2536) _
                refine T_iret xr_196_124 xf_196.2.2 rfl ?_
                refine hQ _ _ ?_
                have h2550 := (hf2542.1 576 (by omega)).trans (h2533)
                have h2551 := (hf2542.1 578 (by omega)).trans (hhv1)
                have hev2552 : (X_ev G (fun w => gD G w 6 0) (fun w => gD G w 7 0) N nc V n) = (1, 0) := X_ev_s1 hwn.1 (by omega) hp2540
                exact ⟨vs, pl2538, hv1, (by rw [hev2552]), (fun z => absurd (show (1 : Int) = 0 by rw [hev2552] at z; exact z) (by omega)), (fun m _ => rfl), h2550, ha2541, h2551, ((X_Fr.rf).tr (X_Fr.mono ⟨hF2511.1, hF2511.2⟩ (fun q hq => (by omega)))).tr (X_Fr.mono ⟨hf2542.1, hf2542.2⟩ (fun q hq => (by omega)))⟩
              · skip
                rw [hv2545]
                show X_T sc 196 (124, [(3, .int (iI ((30 * b) + (N 0 n)))), (2, .int (iI (N 0 n))), (1, .int (iI n)), (0, .ref 530)], [.int (iI 0)], S2536) _
                refine T_iret xr_196_124 xf_196.2.2 rfl ?_
                refine hQ _ _ ?_
                have h2553 := (hf2549.1 578 (by omega)).trans (hhv1)
                have hev2554 : (X_ev G (fun w => gD G w 6 0) (fun w => gD G w 7 0) N nc V n) = (0, rr2544.2 0) := X_ev_s0 hwn.1 (by omega) hp2546
                exact ⟨(X_ug vs n (rr2544.2 0)), pl2543, hv1, (by rw [hev2554]), (fun _ => by rw [hev2554]; exact X_ug_s _ _ _), (fun m hm => X_ug_n _ _ hm), ha2547, ha2548, h2553, ((X_Fr.rf).tr (X_Fr.mono ⟨hF2511.1, hF2511.2⟩ (fun q hq => (by omega)))).tr (X_Fr.mono ⟨hf2549.1, hf2549.2⟩ (fun q hq => (by omega)))⟩
          · skip
            have c2514 : ¬ (nc ≤ m) := c2514
            have htm := t0 m (by omega) (by omega)
            have hnm := hnd m (by omega) (by omega)
            have hRm := hR.2.2.2.2.1 m (by omega) (by omega)
            refine T_p xr_196_66 xn_196 (pc' := 67) (ls' := [(3, .int (iI m)), (2, .int (iI (N 0 n))), (1, .int (iI n)), (0, .ref 530)]) (st' := [.ref 530]) rfl ?_
            refine T_get xr_196_67 h2513 rfl (v := .ref 560) rfl (pc' := 70) rfl ?_
            refine T_p xr_196_70 xn_196 (pc' := 71) (ls' := [(3, .int (iI m)), (2, .int (iI (N 0 n))), (1, .int (iI n)), (0, .ref 530)]) (st' := [.int (iI m), .ref 560]) rfl ?_
            have h2555 := (hF2511.1 560 (by omega)).trans (hA560)
            refine T_ziald xr_196_71 h2555 (pc' := 72) rfl ?_
            refine T_ie (y := iI (N 3 m)) (by rw [hnm.2.2.2.1]) ?_
            refine T_p xr_196_72 xn_196 (pc' := 73) (ls' := [(3, .int (iI m)), (2, .int (iI (N 0 n))), (1, .int (iI n)), (0, .ref 530)]) (st' := [.int (iI n), .int (iI (N 3 m))]) rfl ?_
            refine T_zicmp_ne xr_196_73 (t := 93) (pc' := 76) rfl rfl (fun c2556 => ?_) (fun c2556 => ?_)
            · skip
              have c2556 : ¬ (N 3 m) = n := c2556
              refine T_ziinc xr_196_93 xn_196 (a := m) (z := m + 1) rfl (Nat.le_of_ble_eq_true rfl) (by omega) (ls' := [(3, .int (iI (m + 1))), (2, .int (iI (N 0 n))), (1, .int (iI n)), (0, .ref 530)]) rfl (pc' := 96) rfl ?_
              refine T_p xr_196_96 xn_196 (pc' := 58) (ls' := [(3, .int (iI (m + 1))), (2, .int (iI (N 0 n))), (1, .int (iI n)), (0, .ref 530)]) (st' := []) rfl ?_
              exact ih2508 S2512 (m + 1) hv1 hhv1 (hF2511.tr (X_Fr.rf)) (by omega) (fun h h1 h2 h3 => by
                    rw [X_lc_s (show 0 ≤ m by omega)] at h3 ⊢
                    by_cases hc : N 3 m = n ∧ N 4 m = h
                    · rw [if_pos hc]; first | (rw [hc.2, X_ug_s]) | (exfalso; exact absurd hc.1 (by assumption))
                    · rw [if_neg hc] at h3 ⊢; first | (rw [X_ug_n _ _ (fun z => hc ⟨by omega, by omega⟩)]; exact hlc h h1 h2 h3) | exact hlc h h1 h2 h3) (by omega)
            · skip
              have c2556 : ¬ (¬ (N 3 m) = n) := c2556
              refine T_p xr_196_76 xn_196 (pc' := 77) (ls' := [(3, .int (iI m)), (2, .int (iI (N 0 n))), (1, .int (iI n)), (0, .ref 530)]) (st' := [.ref 530]) rfl ?_
              refine T_get xr_196_77 h2513 rfl (v := .ref 578) rfl (pc' := 80) rfl ?_
              refine T_p xr_196_80 xn_196 (pc' := 81) (ls' := [(3, .int (iI m)), (2, .int (iI (N 0 n))), (1, .int (iI n)), (0, .ref 530)]) (st' := [.ref 530, .ref 578]) rfl ?_
              refine T_get xr_196_81 h2513 rfl (v := .ref 561) rfl (pc' := 84) rfl ?_
              refine T_p xr_196_84 xn_196 (pc' := 85) (ls' := [(3, .int (iI m)), (2, .int (iI (N 0 n))), (1, .int (iI n)), (0, .ref 530)]) (st' := [.int (iI m), .ref 561, .ref 578]) rfl ?_
              have h2557 := (hF2511.1 561 (by omega)).trans (hA561)
              refine T_ziald xr_196_85 h2557 (pc' := 86) rfl ?_
              refine T_ie (y := iI (N 4 m)) (by rw [hnm.2.2.2.2]) ?_
              refine T_p xr_196_86 xn_196 (pc' := 87) (ls' := [(3, .int (iI m)), (2, .int (iI (N 0 n))), (1, .int (iI n)), (0, .ref 530)]) (st' := [.ref 530, .int (iI (N 4 m)), .ref 578]) rfl ?_
              refine T_get xr_196_87 h2513 rfl (v := .ref 576) rfl (pc' := 90) rfl ?_
              refine T_p xr_196_90 xn_196 (pc' := 91) (ls' := [(3, .int (iI m)), (2, .int (iI (N 0 n))), (1, .int (iI n)), (0, .ref 530)]) (st' := [.int (iI m), .ref 576, .int (iI (N 4 m)), .ref 578]) rfl ?_
              have h2558 := (hF2511.1 576 (by omega)).trans (hA576)
              refine T_ziald xr_196_91 h2558 (pc' := 92) rfl ?_
              refine T_ziast xr_196_92 hhv1 (pc' := 93) rfl (fun S2559 h2560 n2561 e2562 => ?_)
              refine T_ziinc xr_196_93 xn_196 (a := m) (z := m + 1) rfl (Nat.le_of_ble_eq_true rfl) (by omega) (ls' := [(3, .int (iI (m + 1))), (2, .int (iI (N 0 n))), (1, .int (iI n)), (0, .ref 530)]) rfl (pc' := 96) rfl ?_
              refine T_p xr_196_96 xn_196 (pc' := 58) (ls' := [(3, .int (iI (m + 1))), (2, .int (iI (N 0 n))), (1, .int (iI n)), (0, .ref 530)]) (st' := []) rfl ?_
              exact ih2508 S2559 (m + 1) (X_ug hv1 (N 4 m) (vs m)) h2560 (hF2511.tr ((X_Fr.rf).tr (X_Fr.of n2561 e2562 (by omega)))) (by omega) (fun h h1 h2 h3 => by
                    rw [X_lc_s (show 0 ≤ m by omega)] at h3 ⊢
                    by_cases hc : N 3 m = n ∧ N 4 m = h
                    · rw [if_pos hc]; first | (rw [hc.2, X_ug_s]) | (exfalso; exact absurd hc.1 (by assumption))
                    · rw [if_neg hc] at h3 ⊢; first | (rw [X_ug_n _ _ (fun z => hc ⟨by omega, by omega⟩)]; exact hlc h h1 h2 h3) | exact hlc h h1 h2 h3) (by omega)
      refine T_sub (ls := [(3, .int (iI (n + 1))), (2, .int (iI (N 0 n))), (1, .int (iI n)), (0, .ref 530)]) ⟨rfl, rfl, rfl, rfl, trivial⟩ rfl rfl ?_
      exact L2507 (nc + 1).toNat S (n + 1) hv hA578 ((X_Fr.rf)) (by omega) (fun h h1 h2 h3 => absurd (X_lc_0 t0 hn.1 hn.2) h3) (by omega)
    · skip
      have c2506 : ¬ (¬ (N 0 n) = (-3)) := c2506
      have hb := hR.2.2.2.2.2.2 n hn.1 hn.2 (by omega)
      have hbv := hV 0 (Int.le_refl 0) (by omega) (by omega)
      refine T_p xr_196_38 xn_196 (pc' := 39) (ls' := [(2, .int (iI (N 0 n))), (0, .ref 530), (1, .int (iI n))]) (st' := [.ref 530]) rfl ?_
      refine T_get xr_196_39 hO530 rfl (v := .ref 576) rfl (pc' := 42) rfl ?_
      refine T_p xr_196_42 xn_196 (pc' := 43) (ls' := [(2, .int (iI (N 0 n))), (0, .ref 530), (1, .int (iI n))]) (st' := [.int (iI n), .ref 576]) rfl ?_
      refine T_p xr_196_43 xn_196 (pc' := 44) (ls' := [(2, .int (iI (N 0 n))), (0, .ref 530), (1, .int (iI n))]) (st' := [.ref 530, .int (iI n), .ref 576]) rfl ?_
      refine T_get xr_196_44 hO530 rfl (v := .ref 576) rfl (pc' := 47) rfl ?_
      refine T_p xr_196_47 xn_196 (pc' := 48) (ls' := [(2, .int (iI (N 0 n))), (0, .ref 530), (1, .int (iI n))]) (st' := [.int (iI n), .ref 576, .int (iI n), .ref 576]) rfl ?_
      refine T_p xr_196_48 xn_196 (pc' := 49) (ls' := [(2, .int (iI (N 0 n))), (0, .ref 530), (1, .int (iI n))]) (st' := [.int (iI 1), .int (iI n), .ref 576, .int (iI n), .ref 576]) rfl ?_
      refine T_ziadd xr_196_49 (z := n + 1) rfl (pc' := 50) rfl ?_
      refine T_ziald xr_196_50 hA576 (pc' := 51) rfl ?_
      refine T_ie (y := iI (V (X_lc N n 0 nc.toNat))) (by rw [← hbv, hb.2.1]) ?_
      refine T_ziast xr_196_51 hA576 (pc' := 52) rfl (fun S2563 h2564 n2565 e2566 => ?_)
      refine T_p xr_196_52 xn_196 (pc' := 53) (ls' := [(2, .int (iI (N 0 n))), (0, .ref 530), (1, .int (iI n))]) (st' := [.int (iI 0)]) rfl ?_
      refine T_iret xr_196_53 xf_196.2.2 rfl ?_
      refine hQ _ _ ?_
      have h2567 := (n2565 577 (by decide)).trans (hA577)
      have h2568 := (n2565 578 (by decide)).trans (hA578)
      have hev2569 : (X_ev G (fun w => gD G w 6 0) (fun w => gD G w 7 0) N nc V n) = (0, V (X_lc N n 0 nc.toNat)) := X_ev_b (by omega)
      exact ⟨(X_ug vs n (V (X_lc N n 0 nc.toNat))), pl, hv, (by rw [hev2569]), (fun _ => by rw [hev2569]; exact X_ug_s _ _ _), (fun m hm => X_ug_n _ _ hm), h2564, h2567, h2568, (X_Fr.rf).tr (X_Fr.of n2565 e2566 (by omega))⟩
  · skip
    have c2505 : ¬ (¬ (N 0 n) = (-2)) := c2505
    refine T_p xr_196_13 xn_196 (pc' := 14) (ls' := [(2, .int (iI (N 0 n))), (0, .ref 530), (1, .int (iI n))]) (st' := [.ref 530]) rfl ?_
    refine T_get xr_196_14 hO530 rfl (v := .ref 576) rfl (pc' := 17) rfl ?_
    refine T_p xr_196_17 xn_196 (pc' := 18) (ls' := [(2, .int (iI (N 0 n))), (0, .ref 530), (1, .int (iI n))]) (st' := [.int (iI n), .ref 576]) rfl ?_
    refine T_p xr_196_18 xn_196 (pc' := 19) (ls' := [(2, .int (iI (N 0 n))), (0, .ref 530), (1, .int (iI n))]) (st' := [.ref 530, .int (iI n), .ref 576]) rfl ?_
    refine T_get xr_196_19 hO530 rfl (v := .ref 550) rfl (pc' := 22) rfl ?_
    refine T_p xr_196_22 xn_196 (pc' := 23) (ls' := [(2, .int (iI (N 0 n))), (0, .ref 530), (1, .int (iI n))]) (st' := [.ref 530, .ref 550, .int (iI n), .ref 576]) rfl ?_
    refine T_get xr_196_23 hO530 rfl (v := .ref 558) rfl (pc' := 26) rfl ?_
    refine T_p xr_196_26 xn_196 (pc' := 27) (ls' := [(2, .int (iI (N 0 n))), (0, .ref 530), (1, .int (iI n))]) (st' := [.int (iI n), .ref 558, .ref 550, .int (iI n), .ref 576]) rfl ?_
    refine T_ziald xr_196_27 hA558 (pc' := 28) rfl ?_
    refine T_ie (y := iI (N 1 n)) (by rw [hN1]) ?_
    refine T_ziald xr_196_28 hA550 (pc' := 29) rfl ?_
    refine T_ie (y := iI (X_nv (gt G (N 1 n)))) (by rw [hTU (N 1 n) (by omega) (by omega)]) ?_
    refine T_ziast xr_196_29 hA576 (pc' := 30) rfl (fun S2570 h2571 n2572 e2573 => ?_)
    refine T_p xr_196_30 xn_196 (pc' := 31) (ls' := [(2, .int (iI (N 0 n))), (0, .ref 530), (1, .int (iI n))]) (st' := [.int (iI 0)]) rfl ?_
    refine T_iret xr_196_31 xf_196.2.2 rfl ?_
    refine hQ _ _ ?_
    have h2574 := (n2572 577 (by decide)).trans (hA577)
    have h2575 := (n2572 578 (by decide)).trans (hA578)
    have hev2576 : (X_ev G (fun w => gD G w 6 0) (fun w => gD G w 7 0) N nc V n) = (0, X_nv (gt G (N 1 n))) := X_ev_n (by omega)
    exact ⟨(X_ug vs n (X_nv (gt G (N 1 n)))), pl, hv, (by rw [hev2576]), (fun _ => by rw [hev2576]; exact X_ug_s _ _ _), (fun m hm => X_ug_n _ _ hm), h2571, h2574, h2575, (X_Fr.rf).tr (X_Fr.of n2572 e2573 (by omega))⟩
