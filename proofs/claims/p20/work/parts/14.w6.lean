theorem xr_117_0 : X_row 117 0 = some (0, (.iload_n 1, 1), (0, 0, 0)) := by decide +kernel
theorem xr_117_1 : X_row 117 1 = some (1, (.aload_n 0, 1), (0, 0, 0)) := by decide +kernel
theorem xr_117_2 : X_row 117 2 = some (2, (.arraylength, 1), (1, 0, 0)) := by decide +kernel
theorem xr_117_3 : X_row 117 3 = some (3, (.if_icmp .ge 9, 3), (0, 0, 0)) := by decide +kernel
theorem xr_117_6 : X_row 117 6 = some (6, (.aload_n 0, 1), (0, 0, 0)) := by decide +kernel
theorem xr_117_7 : X_row 117 7 = some (7, (.iload_n 1, 1), (0, 0, 0)) := by decide +kernel
theorem xr_117_8 : X_row 117 8 = some (8, (.iaload, 1), (1, 0, 0)) := by decide +kernel
theorem xr_117_9 : X_row 117 9 = some (9, (.goto 4, 3), (0, 0, 0)) := by decide +kernel
theorem xr_117_12 : X_row 117 12 = some (12, (.iconst 0, 1), (0, 0, 0)) := by decide +kernel
theorem xr_117_13 : X_row 117 13 = some (13, (.ireturn, 1), (0, 0, 0)) := by decide +kernel
theorem xr_118_0 : X_row 118 0 = some (0, (.aload_n 0, 1), (0, 0, 0)) := by decide +kernel
theorem xr_118_1 : X_row 118 1 = some (1, (.iconst 5, 1), (0, 0, 0)) := by decide +kernel
theorem xr_118_2 : X_row 118 2 = some (2, (.invokevirtual 7, 3), (104, 18, 0)) := by decide +kernel
theorem xr_118_5 : X_row 118 5 = some (5, (.istore_n 3, 1), (0, 0, 0)) := by decide +kernel
theorem xr_118_6 : X_row 118 6 = some (6, (.iconst 0, 1), (0, 0, 0)) := by decide +kernel
theorem xr_118_7 : X_row 118 7 = some (7, (.istore 4, 2), (0, 0, 0)) := by decide +kernel
theorem xr_118_9 : X_row 118 9 = some (9, (.iload 4, 2), (0, 0, 0)) := by decide +kernel
theorem xr_118_11 : X_row 118 11 = some (11, (.bipush 8, 2), (0, 0, 0)) := by decide +kernel
theorem xr_118_13 : X_row 118 13 = some (13, (.if_icmp .ge 28, 3), (0, 0, 0)) := by decide +kernel
theorem xr_118_16 : X_row 118 16 = some (16, (.lload_n 1, 1), (0, 0, 0)) := by decide +kernel
theorem xr_118_17 : X_row 118 17 = some (17, (.bipush 56, 2), (0, 0, 0)) := by decide +kernel
theorem xr_118_19 : X_row 118 19 = some (19, (.bipush 8, 2), (0, 0, 0)) := by decide +kernel
theorem xr_118_21 : X_row 118 21 = some (21, (.iload 4, 2), (0, 0, 0)) := by decide +kernel
theorem xr_118_23 : X_row 118 23 = some (23, (.imul, 1), (0, 0, 0)) := by decide +kernel
theorem xr_118_24 : X_row 118 24 = some (24, (.isub, 1), (0, 0, 0)) := by decide +kernel
theorem xr_118_25 : X_row 118 25 = some (25, (.lushr, 1), (0, 0, 0)) := by decide +kernel
theorem xr_118_26 : X_row 118 26 = some (26, (.ldc2_w 13, 3), (255, 878, 0)) := by decide +kernel
theorem xr_118_29 : X_row 118 29 = some (29, (.land, 1), (0, 0, 0)) := by decide +kernel
theorem xr_118_30 : X_row 118 30 = some (30, (.lconst 0, 1), (0, 0, 0)) := by decide +kernel
theorem xr_118_31 : X_row 118 31 = some (31, (.lcmp, 1), (0, 0, 0)) := by decide +kernel
theorem xr_118_32 : X_row 118 32 = some (32, (.ifCond .eq 9, 3), (0, 0, 0)) := by decide +kernel
theorem xr_118_35 : X_row 118 35 = some (35, (.iinc 4 1, 3), (0, 0, 0)) := by decide +kernel
theorem xr_118_38 : X_row 118 38 = some (38, (.goto (-29), 3), (0, 0, 0)) := by decide +kernel
theorem xr_118_41 : X_row 118 41 = some (41, (.aload_n 0, 1), (0, 0, 0)) := by decide +kernel
theorem xr_118_42 : X_row 118 42 = some (42, (.lload_n 1, 1), (0, 0, 0)) := by decide +kernel
theorem xr_118_43 : X_row 118 43 = some (43, (.bipush 32, 2), (0, 0, 0)) := by decide +kernel
theorem xr_118_45 : X_row 118 45 = some (45, (.lushr, 1), (0, 0, 0)) := by decide +kernel
theorem xr_118_46 : X_row 118 46 = some (46, (.l2i, 1), (0, 0, 0)) := by decide +kernel
theorem xr_118_47 : X_row 118 47 = some (47, (.lload_n 1, 1), (0, 0, 0)) := by decide +kernel
theorem xr_118_48 : X_row 118 48 = some (48, (.l2i, 1), (0, 0, 0)) := by decide +kernel
theorem xr_118_49 : X_row 118 49 = some (49, (.iconst 0, 1), (0, 0, 0)) := by decide +kernel
theorem xr_118_50 : X_row 118 50 = some (50, (.iconst 0, 1), (0, 0, 0)) := by decide +kernel
theorem xr_118_51 : X_row 118 51 = some (51, (.iconst 0, 1), (0, 0, 0)) := by decide +kernel
theorem xr_118_52 : X_row 118 52 = some (52, (.invokevirtual 15, 3), (101, 20, 0)) := by decide +kernel
theorem xr_118_55 : X_row 118 55 = some (55, (.pop, 1), (0, 0, 0)) := by decide +kernel
theorem xr_118_56 : X_row 118 56 = some (56, (.aload_n 0, 1), (0, 0, 0)) := by decide +kernel
theorem xr_118_57 : X_row 118 57 = some (57, (.iload_n 3, 1), (0, 0, 0)) := by decide +kernel
theorem xr_118_58 : X_row 118 58 = some (58, (.iload 4, 2), (0, 0, 0)) := by decide +kernel
theorem xr_118_60 : X_row 118 60 = some (60, (.iadd, 1), (0, 0, 0)) := by decide +kernel
theorem xr_118_61 : X_row 118 61 = some (61, (.invokevirtual 19, 3), (102, 22, 0)) := by decide +kernel
theorem xr_118_64 : X_row 118 64 = some (64, (.pop, 1), (0, 0, 0)) := by decide +kernel
theorem xr_118_65 : X_row 118 65 = some (65, (.return_, 1), (0, 0, 0)) := by decide +kernel
theorem xr_119_0 : X_row 119 0 = some (0, (.aload_n 0, 1), (0, 0, 0)) := by decide +kernel
theorem xr_119_1 : X_row 119 1 = some (1, (.iload_n 1, 1), (0, 0, 0)) := by decide +kernel
theorem xr_119_2 : X_row 119 2 = some (2, (.iconst 0, 1), (0, 0, 0)) := by decide +kernel
theorem xr_119_3 : X_row 119 3 = some (3, (.invokevirtual 30, 3), (110, 12, 0)) := by decide +kernel
theorem xr_119_6 : X_row 119 6 = some (6, (.istore_n 2, 1), (0, 0, 0)) := by decide +kernel
theorem xr_119_7 : X_row 119 7 = some (7, (.aload_n 0, 1), (0, 0, 0)) := by decide +kernel
theorem xr_119_8 : X_row 119 8 = some (8, (.iload_n 1, 1), (0, 0, 0)) := by decide +kernel
theorem xr_119_9 : X_row 119 9 = some (9, (.iconst 1, 1), (0, 0, 0)) := by decide +kernel
theorem xr_119_10 : X_row 119 10 = some (10, (.invokevirtual 30, 3), (110, 12, 0)) := by decide +kernel
theorem xr_119_13 : X_row 119 13 = some (13, (.istore_n 3, 1), (0, 0, 0)) := by decide +kernel
theorem xr_119_14 : X_row 119 14 = some (14, (.aload_n 0, 1), (0, 0, 0)) := by decide +kernel
theorem xr_119_15 : X_row 119 15 = some (15, (.iload_n 1, 1), (0, 0, 0)) := by decide +kernel
theorem xr_119_16 : X_row 119 16 = some (16, (.iconst 2, 1), (0, 0, 0)) := by decide +kernel
theorem xr_119_17 : X_row 119 17 = some (17, (.invokevirtual 30, 3), (110, 12, 0)) := by decide +kernel
theorem xr_119_20 : X_row 119 20 = some (20, (.istore 4, 2), (0, 0, 0)) := by decide +kernel
theorem xr_119_22 : X_row 119 22 = some (22, (.iload_n 2, 1), (0, 0, 0)) := by decide +kernel
theorem xr_119_23 : X_row 119 23 = some (23, (.bipush (-2), 2), (0, 0, 0)) := by decide +kernel
theorem xr_119_25 : X_row 119 25 = some (25, (.if_icmp .ne 7, 3), (0, 0, 0)) := by decide +kernel
theorem xr_119_28 : X_row 119 28 = some (28, (.iconst 1, 1), (0, 0, 0)) := by decide +kernel
theorem xr_119_29 : X_row 119 29 = some (29, (.goto 26, 3), (0, 0, 0)) := by decide +kernel
theorem xr_119_32 : X_row 119 32 = some (32, (.iload_n 2, 1), (0, 0, 0)) := by decide +kernel
theorem xr_119_33 : X_row 119 33 = some (33, (.bipush (-3), 2), (0, 0, 0)) := by decide +kernel
theorem xr_119_35 : X_row 119 35 = some (35, (.if_icmp .ne 7, 3), (0, 0, 0)) := by decide +kernel
theorem xr_119_38 : X_row 119 38 = some (38, (.iconst 2, 1), (0, 0, 0)) := by decide +kernel
theorem xr_119_39 : X_row 119 39 = some (39, (.goto 16, 3), (0, 0, 0)) := by decide +kernel
theorem xr_119_42 : X_row 119 42 = some (42, (.aload_n 0, 1), (0, 0, 0)) := by decide +kernel
theorem xr_119_43 : X_row 119 43 = some (43, (.iload_n 2, 1), (0, 0, 0)) := by decide +kernel
theorem xr_119_44 : X_row 119 44 = some (44, (.iconst 3, 1), (0, 0, 0)) := by decide +kernel
theorem xr_119_45 : X_row 119 45 = some (45, (.invokevirtual 34, 3), (105, 26, 0)) := by decide +kernel
theorem xr_119_48 : X_row 119 48 = some (48, (.aload_n 0, 1), (0, 0, 0)) := by decide +kernel
theorem xr_119_49 : X_row 119 49 = some (49, (.iload_n 2, 1), (0, 0, 0)) := by decide +kernel
theorem xr_119_50 : X_row 119 50 = some (50, (.iconst 4, 1), (0, 0, 0)) := by decide +kernel
theorem xr_119_51 : X_row 119 51 = some (51, (.invokevirtual 34, 3), (105, 26, 0)) := by decide +kernel
theorem xr_119_54 : X_row 119 54 = some (54, (.isub, 1), (0, 0, 0)) := by decide +kernel
theorem xr_119_55 : X_row 119 55 = some (55, (.istore 5, 2), (0, 0, 0)) := by decide +kernel
theorem xr_119_57 : X_row 119 57 = some (57, (.iconst 0, 1), (0, 0, 0)) := by decide +kernel
theorem xr_119_58 : X_row 119 58 = some (58, (.istore 6, 2), (0, 0, 0)) := by decide +kernel
theorem xr_119_60 : X_row 119 60 = some (60, (.iload_n 3, 1), (0, 0, 0)) := by decide +kernel
theorem xr_119_61 : X_row 119 61 = some (61, (.istore 7, 2), (0, 0, 0)) := by decide +kernel
theorem xr_119_63 : X_row 119 63 = some (63, (.iconst 1, 1), (0, 0, 0)) := by decide +kernel
theorem xr_119_64 : X_row 119 64 = some (64, (.istore 8, 2), (0, 0, 0)) := by decide +kernel
theorem xr_119_66 : X_row 119 66 = some (66, (.iload_n 1, 1), (0, 0, 0)) := by decide +kernel
theorem xr_119_67 : X_row 119 67 = some (67, (.iconst 1, 1), (0, 0, 0)) := by decide +kernel
theorem xr_119_68 : X_row 119 68 = some (68, (.iadd, 1), (0, 0, 0)) := by decide +kernel
theorem xr_119_69 : X_row 119 69 = some (69, (.istore 9, 2), (0, 0, 0)) := by decide +kernel
theorem xr_119_71 : X_row 119 71 = some (71, (.aload_n 0, 1), (0, 0, 0)) := by decide +kernel
theorem xr_119_72 : X_row 119 72 = some (72, (.iload 9, 2), (0, 0, 0)) := by decide +kernel
theorem xr_119_74 : X_row 119 74 = some (74, (.iconst 0, 1), (0, 0, 0)) := by decide +kernel
theorem xr_119_75 : X_row 119 75 = some (75, (.invokevirtual 30, 3), (110, 12, 0)) := by decide +kernel
theorem xr_119_78 : X_row 119 78 = some (78, (.iconst (-1), 1), (0, 0, 0)) := by decide +kernel
theorem xr_119_79 : X_row 119 79 = some (79, (.if_icmp .eq 91, 3), (0, 0, 0)) := by decide +kernel
theorem xr_119_82 : X_row 119 82 = some (82, (.iload 8, 2), (0, 0, 0)) := by decide +kernel
theorem xr_119_84 : X_row 119 84 = some (84, (.ifCond .eq 86, 3), (0, 0, 0)) := by decide +kernel
theorem xr_119_87 : X_row 119 87 = some (87, (.aload_n 0, 1), (0, 0, 0)) := by decide +kernel
theorem xr_119_88 : X_row 119 88 = some (88, (.iload 9, 2), (0, 0, 0)) := by decide +kernel
theorem xr_119_90 : X_row 119 90 = some (90, (.iconst 3, 1), (0, 0, 0)) := by decide +kernel
theorem xr_119_91 : X_row 119 91 = some (91, (.invokevirtual 30, 3), (110, 12, 0)) := by decide +kernel
theorem xr_119_94 : X_row 119 94 = some (94, (.iload_n 1, 1), (0, 0, 0)) := by decide +kernel
theorem xr_119_95 : X_row 119 95 = some (95, (.if_icmp .eq 6, 3), (0, 0, 0)) := by decide +kernel
theorem xr_119_98 : X_row 119 98 = some (98, (.goto 66, 3), (0, 0, 0)) := by decide +kernel
theorem xr_119_101 : X_row 119 101 = some (101, (.aload_n 0, 1), (0, 0, 0)) := by decide +kernel
theorem xr_119_102 : X_row 119 102 = some (102, (.iload 9, 2), (0, 0, 0)) := by decide +kernel
theorem xr_119_104 : X_row 119 104 = some (104, (.iconst 4, 1), (0, 0, 0)) := by decide +kernel
theorem xr_119_105 : X_row 119 105 = some (105, (.invokevirtual 30, 3), (110, 12, 0)) := by decide +kernel
theorem xr_119_108 : X_row 119 108 = some (108, (.iload 6, 2), (0, 0, 0)) := by decide +kernel
theorem xr_119_110 : X_row 119 110 = some (110, (.if_icmp .ne 19, 3), (0, 0, 0)) := by decide +kernel
theorem xr_119_113 : X_row 119 113 = some (113, (.aload_n 0, 1), (0, 0, 0)) := by decide +kernel
theorem xr_119_114 : X_row 119 114 = some (114, (.iload 9, 2), (0, 0, 0)) := by decide +kernel
theorem xr_119_116 : X_row 119 116 = some (116, (.iconst 1, 1), (0, 0, 0)) := by decide +kernel
theorem xr_119_117 : X_row 119 117 = some (117, (.invokevirtual 30, 3), (110, 12, 0)) := by decide +kernel
theorem xr_119_120 : X_row 119 120 = some (120, (.iload 7, 2), (0, 0, 0)) := by decide +kernel
theorem xr_119_122 : X_row 119 122 = some (122, (.if_icmp .lt 7, 3), (0, 0, 0)) := by decide +kernel
theorem xr_119_125 : X_row 119 125 = some (125, (.iconst 1, 1), (0, 0, 0)) := by decide +kernel
theorem xr_119_126 : X_row 119 126 = some (126, (.goto 4, 3), (0, 0, 0)) := by decide +kernel
theorem xr_119_130 : X_row 119 130 = some (130, (.istore 8, 2), (0, 0, 0)) := by decide +kernel
theorem xr_119_132 : X_row 119 132 = some (132, (.iinc 6 1, 3), (0, 0, 0)) := by decide +kernel
theorem xr_119_135 : X_row 119 135 = some (135, (.aload_n 0, 1), (0, 0, 0)) := by decide +kernel
theorem xr_119_136 : X_row 119 136 = some (136, (.iload 9, 2), (0, 0, 0)) := by decide +kernel
theorem xr_119_138 : X_row 119 138 = some (138, (.iconst 1, 1), (0, 0, 0)) := by decide +kernel
theorem xr_119_139 : X_row 119 139 = some (139, (.invokevirtual 30, 3), (110, 12, 0)) := by decide +kernel
theorem xr_119_142 : X_row 119 142 = some (142, (.aload_n 0, 1), (0, 0, 0)) := by decide +kernel
theorem xr_119_143 : X_row 119 143 = some (143, (.iload 9, 2), (0, 0, 0)) := by decide +kernel
theorem xr_119_145 : X_row 119 145 = some (145, (.iconst 2, 1), (0, 0, 0)) := by decide +kernel
theorem xr_119_146 : X_row 119 146 = some (146, (.invokevirtual 30, 3), (110, 12, 0)) := by decide +kernel
theorem xr_119_149 : X_row 119 149 = some (149, (.iadd, 1), (0, 0, 0)) := by decide +kernel
theorem xr_119_150 : X_row 119 150 = some (150, (.istore 7, 2), (0, 0, 0)) := by decide +kernel
theorem xr_119_152 : X_row 119 152 = some (152, (.iload 5, 2), (0, 0, 0)) := by decide +kernel
theorem xr_119_154 : X_row 119 154 = some (154, (.aload_n 0, 1), (0, 0, 0)) := by decide +kernel
theorem xr_119_155 : X_row 119 155 = some (155, (.iload 9, 2), (0, 0, 0)) := by decide +kernel
theorem xr_119_157 : X_row 119 157 = some (157, (.iconst 2, 1), (0, 0, 0)) := by decide +kernel
theorem xr_119_158 : X_row 119 158 = some (158, (.invokevirtual 30, 3), (110, 12, 0)) := by decide +kernel
theorem xr_119_161 : X_row 119 161 = some (161, (.iadd, 1), (0, 0, 0)) := by decide +kernel
theorem xr_119_162 : X_row 119 162 = some (162, (.istore 5, 2), (0, 0, 0)) := by decide +kernel
theorem xr_119_164 : X_row 119 164 = some (164, (.iinc 9 1, 3), (0, 0, 0)) := by decide +kernel
theorem xr_119_167 : X_row 119 167 = some (167, (.goto (-96), 3), (0, 0, 0)) := by decide +kernel
theorem xr_119_170 : X_row 119 170 = some (170, (.iload 8, 2), (0, 0, 0)) := by decide +kernel
theorem xr_119_172 : X_row 119 172 = some (172, (.ifCond .eq 54, 3), (0, 0, 0)) := by decide +kernel
theorem xr_119_175 : X_row 119 175 = some (175, (.iload 7, 2), (0, 0, 0)) := by decide +kernel
theorem xr_119_177 : X_row 119 177 = some (177, (.iload_n 3, 1), (0, 0, 0)) := by decide +kernel
theorem xr_119_178 : X_row 119 178 = some (178, (.iload 4, 2), (0, 0, 0)) := by decide +kernel
theorem xr_119_180 : X_row 119 180 = some (180, (.iadd, 1), (0, 0, 0)) := by decide +kernel
theorem xr_119_181 : X_row 119 181 = some (181, (.if_icmp .gt 45, 3), (0, 0, 0)) := by decide +kernel
theorem xr_119_184 : X_row 119 184 = some (184, (.iload 5, 2), (0, 0, 0)) := by decide +kernel
theorem xr_119_186 : X_row 119 186 = some (186, (.iload 4, 2), (0, 0, 0)) := by decide +kernel
theorem xr_119_188 : X_row 119 188 = some (188, (.if_icmp .ne 38, 3), (0, 0, 0)) := by decide +kernel
theorem xr_119_191 : X_row 119 191 = some (191, (.iload 6, 2), (0, 0, 0)) := by decide +kernel
theorem xr_119_193 : X_row 119 193 = some (193, (.iload_n 2, 1), (0, 0, 0)) := by decide +kernel
theorem xr_119_194 : X_row 119 194 = some (194, (.bipush (-2), 2), (0, 0, 0)) := by decide +kernel
theorem xr_119_196 : X_row 119 196 = some (196, (.if_icmp .ne 7, 3), (0, 0, 0)) := by decide +kernel
theorem xr_119_199 : X_row 119 199 = some (199, (.iconst 0, 1), (0, 0, 0)) := by decide +kernel
theorem xr_119_200 : X_row 119 200 = some (200, (.goto 19, 3), (0, 0, 0)) := by decide +kernel
theorem xr_119_203 : X_row 119 203 = some (203, (.iload_n 2, 1), (0, 0, 0)) := by decide +kernel
theorem xr_119_204 : X_row 119 204 = some (204, (.bipush (-3), 2), (0, 0, 0)) := by decide +kernel
theorem xr_119_206 : X_row 119 206 = some (206, (.if_icmp .ne 7, 3), (0, 0, 0)) := by decide +kernel
theorem xr_119_209 : X_row 119 209 = some (209, (.iconst 1, 1), (0, 0, 0)) := by decide +kernel
theorem xr_119_210 : X_row 119 210 = some (210, (.goto 9, 3), (0, 0, 0)) := by decide +kernel
theorem xr_119_213 : X_row 119 213 = some (213, (.aload_n 0, 1), (0, 0, 0)) := by decide +kernel
theorem xr_119_214 : X_row 119 214 = some (214, (.iload_n 2, 1), (0, 0, 0)) := by decide +kernel
theorem xr_119_215 : X_row 119 215 = some (215, (.iconst 4, 1), (0, 0, 0)) := by decide +kernel
theorem xr_119_216 : X_row 119 216 = some (216, (.invokevirtual 34, 3), (105, 26, 0)) := by decide +kernel
theorem xr_119_219 : X_row 119 219 = some (219, (.if_icmp .ne 7, 3), (0, 0, 0)) := by decide +kernel
theorem xr_119_222 : X_row 119 222 = some (222, (.iconst 1, 1), (0, 0, 0)) := by decide +kernel
theorem xr_119_223 : X_row 119 223 = some (223, (.goto 4, 3), (0, 0, 0)) := by decide +kernel
theorem xr_119_227 : X_row 119 227 = some (227, (.ireturn, 1), (0, 0, 0)) := by decide +kernel
theorem xn_117 : X_nL 117 = 2 := by decide +kernel
theorem xf_117 : X_na 117 = 2 ∧ X_ci 117 = 11 ∧ X_rt 117 = (some .int) := by decide +kernel
theorem xn_118 : X_nL 118 = 5 := by decide +kernel
theorem xf_118 : X_na 118 = 2 ∧ X_ci 118 = 11 ∧ X_rt 118 = none := by decide +kernel
theorem xn_119 : X_nL 119 = 10 := by decide +kernel
theorem xf_119 : X_na 119 = 2 ∧ X_ci 119 = 11 ∧ X_rt 119 = (some .boolean) := by decide +kernel
/-! p20: the law's own methods -/
theorem X_IC.o1 {S : X_S} {len : Int} {tb : Int → Int} {rc : Int} {G : X_G} {tn : Int} {nc : Int} {N : Int → Int → Int} {rs : Int} {re : Int} (h : X_IC S len tb rc G tn nc N rs re) : ∃ fs, S.1 1 = .inr (10, fs) := by
  obtain ⟨B, B2, hB_, hg_a, -⟩ := h
  exact ⟨_, hg_a.1⟩
/-- what the script says at a place -/
def X_sv (sc : X_Sc) (z : Int) : Int := (sc.2 z.toNat).toInt
theorem X_sv_r {sc : X_Sc} {z : Int} : -2147483648 ≤ X_sv sc z ∧ X_sv sc z ≤ 2147483647 := iI_rng _
theorem T_zsald {sc : X_Sc} {j n a pc pc' : Nat} {ax : Nat × Nat} {ls : X_L} {r : List Value} {S : X_S} {Q : Option Value → X_S → Prop} {z : Int} (hr : X_row j pc = some (pc, (.iaload, n), (a + 1, ax))) (hp : pc + 1 = pc') (k : X_T sc j (pc', ls, .int (iI (X_sv sc z)) :: r, S) Q) (i1 : 0 ≤ z := by omega) (i2 : z < (sc.1 : Int) := by omega) (i3 : sc.1 ≤ 2147483647 := by omega) : X_T sc j (pc, ls, .int (iI z) :: .ref 0 :: r, S) Q :=
  T_sald hr (iI_in i1 i2 i3) (by rw [iI_nat i1 (by omega)]; exact iI_of _) hp k
theorem T_zslen {sc : X_Sc} {j n a pc pc' : Nat} {ax : Nat × Nat} {ls : X_L} {r : List Value} {S : X_S} {Q : Option Value → X_S → Prop} {z : Int} (hr : X_row j pc = some (pc, (.arraylength, n), (a + 1, ax))) (hz : z = (sc.1 : Int)) (hp : pc + 1 = pc') (k : X_T sc j (pc', ls, .int (iI z) :: r, S) Q) : X_T sc j (pc, ls, .ref 0 :: r, S) Q :=
  T_slen hr (by rw [hz]; exact (Int32.ofInt_eq_ofNat).symm) hp k
/-- what cell answers -/
def V_cc (sc : X_Sc) (k : Int) : Int := if k < (sc.1 : Int) then X_sv sc k else 0
theorem V_cc_y {sc : X_Sc} {k : Int} (h : k < (sc.1 : Int)) : V_cc sc k = X_sv sc k := by unfold V_cc; rw [if_pos h]
theorem V_cc_n {sc : X_Sc} {k : Int} (h : ¬ k < (sc.1 : Int)) : V_cc sc k = 0 := by unfold V_cc; rw [if_neg h]
theorem V_cc_r {sc : X_Sc} {k : Int} : -2147483648 ≤ V_cc sc k ∧ V_cc sc k ≤ 2147483647 := by
  by_cases h : k < (sc.1 : Int)
  · rw [V_cc_y h]; exact X_sv_r
  · rw [V_cc_n h]; omega
theorem V_irem {a b : Int} (ha : 0 ≤ a ∧ a ≤ 2147483647) (hb : 0 < b ∧ b ≤ 2147483647) : iI a - iI a / iI b * iI b = iI (a % b) := by
  rw [iI_div ha hb, ← Int32.ofInt_mul, ← Int32.ofInt_sub]
  congr 1
  rw [Int.emod_def, Int.mul_comm]
theorem V_i2l {k : Int} (h : -2147483648 ≤ k ∧ k ≤ 2147483647) : (iI k).toInt64 = iL k := Int32.toInt64_ofInt (by show -2147483648 ≤ k; omega) (by show k ≤ 2147483647; omega)
theorem V_nd {nc n : Int} {N : Int → Int → Int} (h : 0 ≤ n ∧ n < nc) : X_qNd nc N n 0 = N 0 n ∧ X_qNd nc N n 1 = N 1 n ∧ X_qNd nc N n 2 = N 2 n ∧ X_qNd nc N n 3 = N 3 n ∧ X_qNd nc N n 4 = N 4 n := by
  unfold X_qNd
  rw [if_pos h, if_pos h, if_pos h, if_pos h, if_pos h]
  exact ⟨rfl, rfl, rfl, rfl, rfl⟩
theorem V_nd_x {nc n w : Int} {N : Int → Int → Int} (h : nc ≤ n) : X_qNd nc N n w = -1 := by
  unfold X_qNd
  rw [if_neg (by omega)]
theorem V_nd_0 {G : X_G} {tn nc k : Int} {N : Int → Int → Int} (hG : X_Gok G) (hR : X_Rok G tn nc N) (h : 0 ≤ k) : (k < nc ∧ X_qNd nc N k 0 = N 0 k ∧ ¬ N 0 k = -1 ∧ -3 ≤ N 0 k ∧ N 0 k ≤ 30) ∨ (nc ≤ k ∧ X_qNd nc N k 0 = -1) := by
  by_cases hk : k < nc
  · have h1 := (hR.2.2.2.2.1 k h hk).1
    have h2 := hG.1
    exact Or.inl ⟨hk, (V_nd ⟨h, hk⟩).1, by omega, by omega, by omega⟩
  · exact Or.inr ⟨by omega, V_nd_x (by omega)⟩
theorem V_wd3 {G : X_G} {w : Int} (h : 0 ≤ w ∧ w < gw G) : X_qWd G w 3 = gD G w 3 0 ∧ X_qWd G w 4 = gD G w 4 0 := by
  unfold X_qWd
  rw [if_pos h, if_pos h]
  exact ⟨rfl, rfl⟩
theorem V_ct {G : X_G} {tn i j : Int} (h : X_all G i j ≤ 2000000000) (hr : 0 ≤ i ∧ j ≤ tn ∧ i < j) : X_qCt G tn i j = iL ((X_all G i j : Nat) : Int) := by
  unfold X_qCt
  rw [if_pos hr]
  exact X_st_lo (by omega)
theorem V_two_p {len : Int} {tb : Int → Int} {cs : List Int} {c : Int} {w : Int64} (hb : V_by w = [c, 32]) (h : V_tp len tb (V_two cs ++ V_by w)) : V_tp len tb (V_two (cs ++ [c])) := by
  rw [V_two_a]
  rw [hb] at h
  exact h
theorem V_rdf {G : X_G} {tn k r nc : Int} {N : Int → Int → Int} {St : Int → X_It} (hG : X_Gok G) (htn : tn ≤ 30) (hk : X_qRk G tn k) (hm : k ≤ 9223372036854775807) (hr : X_rd G tn k.toNat = (r, St, nc, N)) : 1 ≤ nc ∧ (∀ i, 0 ≤ i → i < nc → V_ok G N i (V_md N i nc.toNat)) ∧ N 2 0 = tn := by
  obtain ⟨h1, h2, h3⟩ := hk
  have a1 := (X_rd_ok (k := k.toNat) hG ⟨h2, htn⟩ (by omega) (by omega)).1
  have a2 := V_rd (k := k.toNat) hG ⟨h2, htn⟩ (by omega) (by omega)
  have a3 := V_rd_2 (G := G) (tn := tn) (k := k.toNat)
  rw [hr] at a1 a2 a3
  exact ⟨a1, a2, a3⟩
theorem V_qr {G : X_G} {tn r : Int} (htn : tn ≤ 30) (h : X_qQu G tn r) : -1 ≤ r ∧ r ≤ 3100 := by
  rcases h with ⟨h1, -⟩ | ⟨n, i, h1, h2, -, -⟩ <;> omega
theorem V_qn {G : X_G} {tn r : Int} (htn : 1 ≤ tn) (h : X_qQu G tn r) (hr : ¬ 0 ≤ r) : X_all G 0 tn ≤ 1 := by
  rcases h with ⟨h1, h2⟩ | ⟨n, i, h1, h2, -, -⟩
  · have := h2 tn 0 htn (by omega) (by omega)
    rw [Int.zero_add] at this
    omega
  · omega
theorem V_qy {G : X_G} {tn r : Int} (h : X_qQu G tn r) (hr : 0 ≤ r) : ∃ n i, r = 100 * i + n ∧ (1 ≤ n ∧ 0 ≤ i ∧ i + n ≤ tn) ∧ 1 < X_all G i (i + n) ∧ ∀ n' i', 1 ≤ n' → 0 ≤ i' → i' + n' ≤ tn → (n' < n ∨ (n' = n ∧ i' < i)) → ¬ 1 < X_all G i' (i' + n') := by
  rcases h with ⟨h1, -⟩ | h
  · omega
  · exact h
theorem V_bk_t {G : X_G} {t : Int → Int64} (h : V_bk G) : V_bk (X_Gt G t) := by
  have key : ∀ (Ps : List (List Bool)) (v : Int), V_ps G v Ps → V_ps (X_Gt G t) v Ps := by
    intro Ps
    induction Ps with
    | nil => intro v h; exact h
    | cons P r ih =>
      intro v h
      obtain ⟨h1, h2, h3⟩ := h
      refine ⟨h1, ?_, ih (v + 1) h3⟩
      have k2 : ∀ (P : List Bool) (e : Int), V_pt G v e P → V_pt (X_Gt G t) v e P := by
        intro P
        induction P with
        | nil => intro e h; exact h
        | cons b r ih => intro e h; exact ⟨h.1, h.2.1, ih (e + 1) h.2.2⟩
      exact k2 P 0 h2
  exact ⟨h.1, h.2.imp (key _ 0) (key _ 0)⟩
theorem V_by_120 : V_by (iL 8655918483806093312) = [120, 32] := by decide +kernel
theorem V_nb_120 : V_nb (iL 8655918483806093312) = 2 := by decide +kernel
theorem V_by_105 : V_by (iL 7575054573237174272) = [105, 32] := by decide +kernel
theorem V_nb_105 : V_nb (iL 7575054573237174272) = 2 := by decide +kernel
theorem V_by_106 : V_by (iL 7647112167275102208) = [106, 32] := by decide +kernel
theorem V_nb_106 : V_nb (iL 7647112167275102208) = 2 := by decide +kernel
theorem V_by_116 : V_by (iL 8367688107654381568) = [116, 32] := by decide +kernel
theorem V_nb_116 : V_nb (iL 8367688107654381568) = 2 := by decide +kernel
theorem V_by_101 : V_by (iL 7286824197085462528) = [101, 32] := by decide +kernel
theorem V_nb_101 : V_nb (iL 7286824197085462528) = 2 := by decide +kernel
theorem c_cell (sc : X_Sc) (S : X_S) (k : Int) (hk : 0 ≤ k ∧ k ≤ 300) (hsc : sc.1 ≤ 260) : X_T sc 117 (0, [(0, .ref 0), (1, .int (iI k))], [], S) (fun v S' => v = some (.int (iI (V_cc sc k))) ∧ S' = S) := by
  obtain ⟨Ls, hLs⟩ : ∃ Ls : Int, Ls = (sc.1 : Int) := ⟨_, rfl⟩
  refine X_QI (fun Q hQ => ?_)
  refine T_p xr_117_0 xn_117 (pc' := 1) (ls' := [(0, .ref 0), (1, .int (iI k))]) (st' := [.int (iI k)]) rfl ?_
  refine T_p xr_117_1 xn_117 (pc' := 2) (ls' := [(0, .ref 0), (1, .int (iI k))]) (st' := [.ref 0, .int (iI k)]) rfl ?_
  refine T_zslen xr_117_2 hLs (pc' := 3) rfl ?_
  refine T_zicmp_ge xr_117_3 (t := 12) (pc' := 6) rfl rfl (fun c4953 => ?_) (fun c4953 => ?_)
  · skip
    have c4953 : Ls ≤ k := c4953
    refine T_p xr_117_12 xn_117 (pc' := 13) (ls' := [(0, .ref 0), (1, .int (iI k))]) (st' := [.int (iI 0)]) rfl ?_
    refine T_iret xr_117_13 xf_117.2.2 rfl ?_
    refine hQ _ _ ?_
    exact ⟨(by rw [V_cc_n (by omega)]), rfl⟩
  · skip
    have c4953 : ¬ (Ls ≤ k) := c4953
    refine T_p xr_117_6 xn_117 (pc' := 7) (ls' := [(0, .ref 0), (1, .int (iI k))]) (st' := [.ref 0]) rfl ?_
    refine T_p xr_117_7 xn_117 (pc' := 8) (ls' := [(0, .ref 0), (1, .int (iI k))]) (st' := [.int (iI k), .ref 0]) rfl ?_
    refine T_zsald xr_117_8 (pc' := 9) rfl ?_
    refine T_p xr_117_9 xn_117 (pc' := 13) (ls' := [(0, .ref 0), (1, .int (iI k))]) (st' := [.int (iI (X_sv sc k))]) rfl ?_
    refine T_iret xr_117_13 xf_117.2.2 rfl ?_
    refine hQ _ _ ?_
    exact ⟨(by rw [V_cc_y (by omega)]), rfl⟩
theorem l_put (sc : X_Sc) (S : X_S) (len : Int) (tb : Int → Int) (rc : Int) (G : X_G) (tn : Int) (nc : Int) (N : Int → Int → Int) (rs : Int) (re : Int) (w : Int64) (L : List Int) (hI : X_IC S len tb rc G tn nc N rs re) (hA : X_Ao len tb G tn nc N) (hT : V_tp len tb L) (hle : len + 20 ≤ 2000) : X_T sc 118 (0, [(0, .ref 1), (1, .long w)], [], S) (fun v S' => v = none ∧ X_IC S' (len + V_nb w) (X_fd5 tb len (V_hi w) (V_lo w) 0 0 0) rc G tn nc N rs re ∧ X_Ao (len + V_nb w) (X_fd5 tb len (V_hi w) (V_lo w) 0 0 0) G tn nc N ∧ V_tp (len + V_nb w) (X_fd5 tb len (V_hi w) (V_lo w) 0 0 0) (L ++ V_by w) ∧ (X_Fr (fun q => 1 ≤ q ∧ q < 530) S S')) := by
  have hl0 := hA.1
  have hbr := V_nb_r w
  refine X_QI (fun Q hQ => ?_)
  refine T_p xr_118_0 xn_118 (pc' := 1) (ls' := [(0, .ref 1), (1, .long w)]) (st' := [.ref 1]) rfl ?_
  refine T_p xr_118_1 xn_118 (pc' := 2) (ls' := [(0, .ref 1), (1, .long w)]) (st' := [.int (iI 5), .ref 1]) rfl ?_
  obtain ⟨f4954, ho4955⟩ := hI.o1
  refine T_cv (S := S) (q := 1) xr_118_2 xf_104.1 xf_104.2.1 xn_104 (as := [.int (iI 5)]) (r := []) rfl ho4955 (Nat.le_of_ble_eq_true rfl) (Nat.le_of_ble_eq_true rfl) (pc' := 5) rfl (ls' := [(0, .ref 1), (1, .int (iI 5))]) rfl ?_
  refine T_mono (k_about sc S len tb rc G tn nc N rs re 5 hI hA (by omega)) (fun v4956 S4957 h4958 => ?_)
  rcases h4958 with ⟨hv4959, hp4960, hf4961⟩
  rw [hv4959]
  show X_T sc 118 (5, [(0, .ref 1), (1, .long w)], [.int (iI (X_qAb rc (gk G) (gw G) tn nc len 5))], S4957) _
  refine T_ie (y := iI len) rfl ?_
  refine T_p xr_118_5 xn_118 (pc' := 6) (ls' := [(3, .int (iI len)), (0, .ref 1), (1, .long w)]) (st' := []) rfl ?_
  refine T_p xr_118_6 xn_118 (pc' := 7) (ls' := [(3, .int (iI len)), (0, .ref 1), (1, .long w)]) (st' := [.int (iI 0)]) rfl ?_
  refine T_p xr_118_7 xn_118 (pc' := 9) (ls' := [(4, .int (iI 0)), (3, .int (iI len)), (0, .ref 1), (1, .long w)]) (st' := []) rfl ?_
  have L4963 : ∀ (m4965 : Nat) (n : Int) (hn : 0 ≤ n ∧ n ≤ 8) (hnf : V_nf w (8 - n).toNat n = V_nb w) (hm4966 : 9 - n < m4965), X_T sc 118 (9, [(4, .int (iI n)), (3, .int (iI len)), (1, .long w), (0, .ref 1)], [], S4957) Q := by
    intro m4965
    induction m4965 with
    | zero =>
      intro n hn hnf hm4966
      exact (show False by omega).elim
    | succ m4965 ih4964 =>
      intro n hn hnf hm4966
      refine T_p xr_118_9 xn_118 (pc' := 11) (ls' := [(4, .int (iI n)), (3, .int (iI len)), (1, .long w), (0, .ref 1)]) (st' := [.int (iI n)]) rfl ?_
      refine T_p xr_118_11 xn_118 (pc' := 13) (ls' := [(4, .int (iI n)), (3, .int (iI len)), (1, .long w), (0, .ref 1)]) (st' := [.int (iI 8), .int (iI n)]) rfl ?_
      refine T_zicmp_ge xr_118_13 (t := 41) (pc' := 16) rfl rfl (fun c4968 => ?_) (fun c4968 => ?_)
      · skip
        have c4968 : 8 ≤ n := c4968
        have hnb : V_nb w = n := by first | exact hnf.symm.trans (V_nf_n (by omega) (by omega) (by assumption)) | exact hnf.symm.trans (V_nf_8 (by omega))
        refine T_p xr_118_41 xn_118 (pc' := 42) (ls' := [(4, .int (iI n)), (3, .int (iI len)), (1, .long w), (0, .ref 1)]) (st' := [.ref 1]) rfl ?_
        refine T_p xr_118_42 xn_118 (pc' := 43) (ls' := [(4, .int (iI n)), (3, .int (iI len)), (1, .long w), (0, .ref 1)]) (st' := [.long w, .ref 1]) rfl ?_
        refine T_p xr_118_43 xn_118 (pc' := 45) (ls' := [(4, .int (iI n)), (3, .int (iI len)), (1, .long w), (0, .ref 1)]) (st' := [.int (iI 32), .long w, .ref 1]) rfl ?_
        refine T_p xr_118_45 xn_118 (pc' := 46) (ls' := [(4, .int (iI n)), (3, .int (iI len)), (1, .long w), (0, .ref 1)]) (st' := [.long (((w : Int64).toUInt64 >>> ((iI 32).toInt64.toUInt64 &&& Int64.toUInt64 63)).toInt64), .ref 1]) rfl ?_
        refine T_zop xr_118_46 (pc' := 47) rfl (z := (((((w : Int64).toUInt64 >>> ((iI 32).toInt64.toUInt64 &&& Int64.toUInt64 63)).toInt64) : Int64).toInt32).toInt) (iI_of _) ?_
        refine T_ie (y := iI (V_hi w)) rfl ?_
        refine T_p xr_118_47 xn_118 (pc' := 48) (ls' := [(4, .int (iI n)), (3, .int (iI len)), (1, .long w), (0, .ref 1)]) (st' := [.long w, .int (iI (V_hi w)), .ref 1]) rfl ?_
        refine T_zop xr_118_48 (pc' := 49) rfl (z := ((w : Int64).toInt32).toInt) (iI_of _) ?_
        refine T_ie (y := iI (V_lo w)) rfl ?_
        refine T_p xr_118_49 xn_118 (pc' := 50) (ls' := [(4, .int (iI n)), (3, .int (iI len)), (1, .long w), (0, .ref 1)]) (st' := [.int (iI 0), .int (iI (V_lo w)), .int (iI (V_hi w)), .ref 1]) rfl ?_
        refine T_p xr_118_50 xn_118 (pc' := 51) (ls' := [(4, .int (iI n)), (3, .int (iI len)), (1, .long w), (0, .ref 1)]) (st' := [.int (iI 0), .int (iI 0), .int (iI (V_lo w)), .int (iI (V_hi w)), .ref 1]) rfl ?_
        refine T_p xr_118_51 xn_118 (pc' := 52) (ls' := [(4, .int (iI n)), (3, .int (iI len)), (1, .long w), (0, .ref 1)]) (st' := [.int (iI 0), .int (iI 0), .int (iI 0), .int (iI (V_lo w)), .int (iI (V_hi w)), .ref 1]) rfl ?_
        obtain ⟨f4969, ho4970⟩ := hp4960.o1
        refine T_cv (S := S4957) (q := 1) xr_118_52 xf_101.1 xf_101.2.1 xn_101 (as := [.int (iI (V_hi w)), .int (iI (V_lo w)), .int (iI 0), .int (iI 0), .int (iI 0)]) (r := []) rfl ho4970 (Nat.le_of_ble_eq_true rfl) (Nat.le_of_ble_eq_true rfl) (pc' := 55) rfl (ls' := [(0, .ref 1), (1, .int (iI (V_hi w))), (2, .int (iI (V_lo w))), (3, .int (iI 0)), (4, .int (iI 0)), (5, .int (iI 0))]) rfl ?_
        refine T_mono (k_feed sc S4957 len tb rc G tn nc N rs re (V_hi w) (V_lo w) 0 0 0 hp4960 hA) (fun v4971 S4972 h4973 => ?_)
        rcases h4973 with ⟨hv4974, hp4975, hp4976, hf4977⟩ | ⟨hv4978, hp4979, hp4980, hf4981⟩
        · skip
          rw [hv4974]
          show X_T sc 118 (55, [(4, .int (iI n)), (3, .int (iI len)), (1, .long w), (0, .ref 1)], [.int (iI (-1))], S4972) _
          exact (show False by omega).elim
        · skip
          rw [hv4978]
          have hA4983 := hA.feed hp4979 (a := (V_hi w)) (b := (V_lo w)) (c := 0) (d := 0) (e := 0)
          show X_T sc 118 (55, [(4, .int (iI n)), (3, .int (iI len)), (1, .long w), (0, .ref 1)], [.int (iI (len + 20))], S4972) _
          refine T_p xr_118_55 xn_118 (pc' := 56) (ls' := [(4, .int (iI n)), (3, .int (iI len)), (1, .long w), (0, .ref 1)]) (st' := []) rfl ?_
          refine T_p xr_118_56 xn_118 (pc' := 57) (ls' := [(4, .int (iI n)), (3, .int (iI len)), (1, .long w), (0, .ref 1)]) (st' := [.ref 1]) rfl ?_
          refine T_p xr_118_57 xn_118 (pc' := 58) (ls' := [(4, .int (iI n)), (3, .int (iI len)), (1, .long w), (0, .ref 1)]) (st' := [.int (iI len), .ref 1]) rfl ?_
          refine T_p xr_118_58 xn_118 (pc' := 60) (ls' := [(4, .int (iI n)), (3, .int (iI len)), (1, .long w), (0, .ref 1)]) (st' := [.int (iI n), .int (iI len), .ref 1]) rfl ?_
          refine T_ziadd xr_118_60 (z := len + n) rfl (pc' := 61) rfl ?_
          obtain ⟨f4984, ho4985⟩ := hp4980.o1
          refine T_cv (S := S4972) (q := 1) xr_118_61 xf_102.1 xf_102.2.1 xn_102 (as := [.int (iI (len + n))]) (r := []) rfl ho4985 (Nat.le_of_ble_eq_true rfl) (Nat.le_of_ble_eq_true rfl) (pc' := 64) rfl (ls' := [(0, .ref 1), (1, .int (iI (len + n)))]) rfl ?_
          refine T_mono (k_end sc S4972 (len + 20) (X_fd5 tb len (V_hi w) (V_lo w) 0 0 0) rc G tn nc N rs re (len + n) hp4980 hA4983 (by omega)) (fun v4986 S4987 h4988 => ?_)
          rcases h4988 with ⟨hv4989, hp4990, hp4991, hf4992⟩ | ⟨hv4993, hp4994, hp4995, hf4996⟩
          · skip
            rw [hv4989]
            show X_T sc 118 (64, [(4, .int (iI n)), (3, .int (iI len)), (1, .long w), (0, .ref 1)], [.int (iI (-1))], S4987) _
            exact (show False by omega).elim
          · skip
            rw [hv4993]
            have hA4998 := hA4983.len hp4994
            show X_T sc 118 (64, [(4, .int (iI n)), (3, .int (iI len)), (1, .long w), (0, .ref 1)], [.int (iI (len + n))], S4987) _
            refine T_p xr_118_64 xn_118 (pc' := 65) (ls' := [(4, .int (iI n)), (3, .int (iI len)), (1, .long w), (0, .ref 1)]) (st' := []) rfl ?_
            refine T_vret xr_118_65 xf_118.2.2 ?_
            refine hQ _ _ ?_
            exact ⟨rfl, (by rw [hnb]; exact hp4995), (by rw [hnb]; exact hA4998), (V_tp_put w hT), (((X_Fr.rf).tr (X_Fr.mono ⟨hf4961.1, hf4961.2⟩ (fun q hq => (by omega)))).tr (X_Fr.mono ⟨hf4981.1, hf4981.2⟩ (fun q hq => (by omega)))).tr (X_Fr.mono ⟨hf4996.1, hf4996.2⟩ (fun q hq => (by omega)))⟩
      · skip
        have c4968 : ¬ (8 ≤ n) := c4968
        refine T_p xr_118_16 xn_118 (pc' := 17) (ls' := [(4, .int (iI n)), (3, .int (iI len)), (1, .long w), (0, .ref 1)]) (st' := [.long w]) rfl ?_
        refine T_p xr_118_17 xn_118 (pc' := 19) (ls' := [(4, .int (iI n)), (3, .int (iI len)), (1, .long w), (0, .ref 1)]) (st' := [.int (iI 56), .long w]) rfl ?_
        refine T_p xr_118_19 xn_118 (pc' := 21) (ls' := [(4, .int (iI n)), (3, .int (iI len)), (1, .long w), (0, .ref 1)]) (st' := [.int (iI 8), .int (iI 56), .long w]) rfl ?_
        refine T_p xr_118_21 xn_118 (pc' := 23) (ls' := [(4, .int (iI n)), (3, .int (iI len)), (1, .long w), (0, .ref 1)]) (st' := [.int (iI n), .int (iI 8), .int (iI 56), .long w]) rfl ?_
        refine T_zimul xr_118_23 (z := 8 * n) rfl (pc' := 24) rfl ?_
        refine T_zisub xr_118_24 (z := 56 - (8 * n)) rfl (pc' := 25) rfl ?_
        refine T_p xr_118_25 xn_118 (pc' := 26) (ls' := [(4, .int (iI n)), (3, .int (iI len)), (1, .long w), (0, .ref 1)]) (st' := [.long (((w : Int64).toUInt64 >>> ((iI (56 - (8 * n))).toInt64.toUInt64 &&& Int64.toUInt64 63)).toInt64)]) rfl ?_
        refine T_p xr_118_26 xn_118 (pc' := 29) (ls' := [(4, .int (iI n)), (3, .int (iI len)), (1, .long w), (0, .ref 1)]) (st' := [.long (iL 255), .long (((w : Int64).toUInt64 >>> ((iI (56 - (8 * n))).toInt64.toUInt64 &&& Int64.toUInt64 63)).toInt64)]) rfl ?_
        refine T_p xr_118_29 xn_118 (pc' := 30) (ls' := [(4, .int (iI n)), (3, .int (iI len)), (1, .long w), (0, .ref 1)]) (st' := [.long ((((w : Int64).toUInt64 >>> ((iI (56 - (8 * n))).toInt64.toUInt64 &&& Int64.toUInt64 63)).toInt64) &&& (iL 255))]) rfl ?_
        refine T_le (y := (V_b w n)) rfl ?_
        refine T_p xr_118_30 xn_118 (pc' := 31) (ls' := [(4, .int (iI n)), (3, .int (iI len)), (1, .long w), (0, .ref 1)]) (st' := [.long (iL 0), .long (V_b w n)]) rfl ?_
        refine T_lc_eq xr_118_31 xr_118_32 (t := 41) (pc' := 35) rfl rfl (fun c4999 => ?_) (fun c4999 => ?_)
        · skip
          have c4999 : (V_b w n) = (iL 0) := c4999
          have hnb : V_nb w = n := by first | exact hnf.symm.trans (V_nf_n (by omega) (by omega) (by assumption)) | exact hnf.symm.trans (V_nf_8 (by omega))
          refine T_p xr_118_41 xn_118 (pc' := 42) (ls' := [(4, .int (iI n)), (3, .int (iI len)), (1, .long w), (0, .ref 1)]) (st' := [.ref 1]) rfl ?_
          refine T_p xr_118_42 xn_118 (pc' := 43) (ls' := [(4, .int (iI n)), (3, .int (iI len)), (1, .long w), (0, .ref 1)]) (st' := [.long w, .ref 1]) rfl ?_
          refine T_p xr_118_43 xn_118 (pc' := 45) (ls' := [(4, .int (iI n)), (3, .int (iI len)), (1, .long w), (0, .ref 1)]) (st' := [.int (iI 32), .long w, .ref 1]) rfl ?_
          refine T_p xr_118_45 xn_118 (pc' := 46) (ls' := [(4, .int (iI n)), (3, .int (iI len)), (1, .long w), (0, .ref 1)]) (st' := [.long (((w : Int64).toUInt64 >>> ((iI 32).toInt64.toUInt64 &&& Int64.toUInt64 63)).toInt64), .ref 1]) rfl ?_
          refine T_zop xr_118_46 (pc' := 47) rfl (z := (((((w : Int64).toUInt64 >>> ((iI 32).toInt64.toUInt64 &&& Int64.toUInt64 63)).toInt64) : Int64).toInt32).toInt) (iI_of _) ?_
          refine T_ie (y := iI (V_hi w)) rfl ?_
          refine T_p xr_118_47 xn_118 (pc' := 48) (ls' := [(4, .int (iI n)), (3, .int (iI len)), (1, .long w), (0, .ref 1)]) (st' := [.long w, .int (iI (V_hi w)), .ref 1]) rfl ?_
          refine T_zop xr_118_48 (pc' := 49) rfl (z := ((w : Int64).toInt32).toInt) (iI_of _) ?_
          refine T_ie (y := iI (V_lo w)) rfl ?_
          refine T_p xr_118_49 xn_118 (pc' := 50) (ls' := [(4, .int (iI n)), (3, .int (iI len)), (1, .long w), (0, .ref 1)]) (st' := [.int (iI 0), .int (iI (V_lo w)), .int (iI (V_hi w)), .ref 1]) rfl ?_
          refine T_p xr_118_50 xn_118 (pc' := 51) (ls' := [(4, .int (iI n)), (3, .int (iI len)), (1, .long w), (0, .ref 1)]) (st' := [.int (iI 0), .int (iI 0), .int (iI (V_lo w)), .int (iI (V_hi w)), .ref 1]) rfl ?_
          refine T_p xr_118_51 xn_118 (pc' := 52) (ls' := [(4, .int (iI n)), (3, .int (iI len)), (1, .long w), (0, .ref 1)]) (st' := [.int (iI 0), .int (iI 0), .int (iI 0), .int (iI (V_lo w)), .int (iI (V_hi w)), .ref 1]) rfl ?_
          obtain ⟨f5000, ho5001⟩ := hp4960.o1
          refine T_cv (S := S4957) (q := 1) xr_118_52 xf_101.1 xf_101.2.1 xn_101 (as := [.int (iI (V_hi w)), .int (iI (V_lo w)), .int (iI 0), .int (iI 0), .int (iI 0)]) (r := []) rfl ho5001 (Nat.le_of_ble_eq_true rfl) (Nat.le_of_ble_eq_true rfl) (pc' := 55) rfl (ls' := [(0, .ref 1), (1, .int (iI (V_hi w))), (2, .int (iI (V_lo w))), (3, .int (iI 0)), (4, .int (iI 0)), (5, .int (iI 0))]) rfl ?_
          refine T_mono (k_feed sc S4957 len tb rc G tn nc N rs re (V_hi w) (V_lo w) 0 0 0 hp4960 hA) (fun v5002 S5003 h5004 => ?_)
          rcases h5004 with ⟨hv5005, hp5006, hp5007, hf5008⟩ | ⟨hv5009, hp5010, hp5011, hf5012⟩
          · skip
            rw [hv5005]
            show X_T sc 118 (55, [(4, .int (iI n)), (3, .int (iI len)), (1, .long w), (0, .ref 1)], [.int (iI (-1))], S5003) _
            exact (show False by omega).elim
          · skip
            rw [hv5009]
            have hA5014 := hA.feed hp5010 (a := (V_hi w)) (b := (V_lo w)) (c := 0) (d := 0) (e := 0)
            show X_T sc 118 (55, [(4, .int (iI n)), (3, .int (iI len)), (1, .long w), (0, .ref 1)], [.int (iI (len + 20))], S5003) _
            refine T_p xr_118_55 xn_118 (pc' := 56) (ls' := [(4, .int (iI n)), (3, .int (iI len)), (1, .long w), (0, .ref 1)]) (st' := []) rfl ?_
            refine T_p xr_118_56 xn_118 (pc' := 57) (ls' := [(4, .int (iI n)), (3, .int (iI len)), (1, .long w), (0, .ref 1)]) (st' := [.ref 1]) rfl ?_
            refine T_p xr_118_57 xn_118 (pc' := 58) (ls' := [(4, .int (iI n)), (3, .int (iI len)), (1, .long w), (0, .ref 1)]) (st' := [.int (iI len), .ref 1]) rfl ?_
            refine T_p xr_118_58 xn_118 (pc' := 60) (ls' := [(4, .int (iI n)), (3, .int (iI len)), (1, .long w), (0, .ref 1)]) (st' := [.int (iI n), .int (iI len), .ref 1]) rfl ?_
            refine T_ziadd xr_118_60 (z := len + n) rfl (pc' := 61) rfl ?_
            obtain ⟨f5015, ho5016⟩ := hp5011.o1
            refine T_cv (S := S5003) (q := 1) xr_118_61 xf_102.1 xf_102.2.1 xn_102 (as := [.int (iI (len + n))]) (r := []) rfl ho5016 (Nat.le_of_ble_eq_true rfl) (Nat.le_of_ble_eq_true rfl) (pc' := 64) rfl (ls' := [(0, .ref 1), (1, .int (iI (len + n)))]) rfl ?_
            refine T_mono (k_end sc S5003 (len + 20) (X_fd5 tb len (V_hi w) (V_lo w) 0 0 0) rc G tn nc N rs re (len + n) hp5011 hA5014 (by omega)) (fun v5017 S5018 h5019 => ?_)
            rcases h5019 with ⟨hv5020, hp5021, hp5022, hf5023⟩ | ⟨hv5024, hp5025, hp5026, hf5027⟩
            · skip
              rw [hv5020]
              show X_T sc 118 (64, [(4, .int (iI n)), (3, .int (iI len)), (1, .long w), (0, .ref 1)], [.int (iI (-1))], S5018) _
              exact (show False by omega).elim
            · skip
              rw [hv5024]
              have hA5029 := hA5014.len hp5025
              show X_T sc 118 (64, [(4, .int (iI n)), (3, .int (iI len)), (1, .long w), (0, .ref 1)], [.int (iI (len + n))], S5018) _
              refine T_p xr_118_64 xn_118 (pc' := 65) (ls' := [(4, .int (iI n)), (3, .int (iI len)), (1, .long w), (0, .ref 1)]) (st' := []) rfl ?_
              refine T_vret xr_118_65 xf_118.2.2 ?_
              refine hQ _ _ ?_
              exact ⟨rfl, (by rw [hnb]; exact hp5026), (by rw [hnb]; exact hA5029), (V_tp_put w hT), (((X_Fr.rf).tr (X_Fr.mono ⟨hf4961.1, hf4961.2⟩ (fun q hq => (by omega)))).tr (X_Fr.mono ⟨hf5012.1, hf5012.2⟩ (fun q hq => (by omega)))).tr (X_Fr.mono ⟨hf5027.1, hf5027.2⟩ (fun q hq => (by omega)))⟩
        · skip
          have c4999 : ¬ ((V_b w n) = (iL 0)) := c4999
          refine T_ziinc xr_118_35 xn_118 (a := n) (z := n + 1) rfl (Nat.le_of_ble_eq_true rfl) (by omega) (ls' := [(4, .int (iI (n + 1))), (3, .int (iI len)), (1, .long w), (0, .ref 1)]) rfl (pc' := 38) rfl ?_
          refine T_p xr_118_38 xn_118 (pc' := 9) (ls' := [(4, .int (iI (n + 1))), (3, .int (iI len)), (1, .long w), (0, .ref 1)]) (st' := []) rfl ?_
          exact ih4964 (n + 1)  (by omega) ((V_nf_y (by omega) (by omega) (by assumption)).symm.trans hnf) (by omega)
  refine T_sub (ls := [(4, .int (iI 0)), (3, .int (iI len)), (1, .long w), (0, .ref 1)]) ⟨rfl, rfl, rfl, rfl, trivial⟩ rfl rfl ?_
  exact L4963 ((9 : Int) + 1).toNat 0  (by omega) rfl (by omega)
set_option maxHeartbeats 1600000 in
theorem l_iw1 (sc : X_Sc) (S : X_S) (len : Int) (tb : Int → Int) (rc : Int) (G : X_G) (tn : Int) (nc : Int) (N : Int → Int → Int) (rs : Int) (re : Int) (n : Int) (hI : X_IC S len tb rc G tn nc N rs re) (hA : X_Ao len tb G tn nc N) (hn : 0 ≤ n ∧ n < nc) (hV : V_ok G N n (V_md N n nc.toNat)) : X_T sc 119 (57, [(5, .int (iI (V_S G (N 0 n)))), (4, .int (iI (N 2 n))), (3, .int (iI (N 1 n))), (2, .int (iI (N 0 n))), (1, .int (iI n)), (0, .ref 1)], [], S) (fun v S' => v = some (.int (iI 1)) ∧ X_IC S' len tb rc G tn nc N rs re ∧ (X_Fr (fun q => 1 ≤ q ∧ q < 530) S S')) := by
  have hR := hA.2.2.2.2.2.1
  have hG := hA.2.2.1
  have hnc := hR.1
  have hgw := hG.1
  obtain ⟨hw0, -, -, -, hfr⟩ := hR.2.2.2.2.1 n hn.1 hn.2
  have hwr : ∀ w, 0 ≤ w → w < gw G → (1 ≤ gD G w 3 0 ∧ gD G w 3 0 ≤ 8) ∧ 0 ≤ gD G w 4 0 ∧ gD G w 4 0 ≤ 4 ∧ gD G w 4 0 < gD G w 3 0 := fun w h1 h2 => ⟨(hG.2.2.2 w h1 h2).1, (hG.2.2.2 w h1 h2).2.1⟩
  have hv0 : V_gd (V_H G (N 0 n)) (N 1 n + N 2 n) (N 2 n) 0 (N 1 n) (V_S G (N 0 n)) (V_mf N n (nc - (n + 1)).toNat (n + 1)) := by
    have z := hV
    rw [V_md_n hR.2.1 hn] at z
    exact z
  have hsr : 0 ≤ V_S G (N 0 n) ∧ V_S G (N 0 n) ≤ 8 := by
    unfold V_S
    by_cases z2 : N 0 n = -2
    · rw [if_pos z2]; omega
    · by_cases z3 : N 0 n = -3
      · rw [if_neg z2, if_pos z3]; omega
      · rw [if_neg z2, if_neg z3]
        have := hwr (N 0 n) (by omega) (by omega)
        omega
  refine X_QI (fun Q hQ => ?_)
  refine T_p xr_119_57 xn_119 (pc' := 58) (ls' := [(5, .int (iI (V_S G (N 0 n)))), (4, .int (iI (N 2 n))), (3, .int (iI (N 1 n))), (2, .int (iI (N 0 n))), (1, .int (iI n)), (0, .ref 1)]) (st' := [.int (iI 0)]) rfl ?_
  refine T_p xr_119_58 xn_119 (pc' := 60) (ls' := [(6, .int (iI 0)), (5, .int (iI (V_S G (N 0 n)))), (4, .int (iI (N 2 n))), (3, .int (iI (N 1 n))), (2, .int (iI (N 0 n))), (1, .int (iI n)), (0, .ref 1)]) (st' := []) rfl ?_
  refine T_p xr_119_60 xn_119 (pc' := 61) (ls' := [(6, .int (iI 0)), (5, .int (iI (V_S G (N 0 n)))), (4, .int (iI (N 2 n))), (3, .int (iI (N 1 n))), (2, .int (iI (N 0 n))), (1, .int (iI n)), (0, .ref 1)]) (st' := [.int (iI (N 1 n))]) rfl ?_
  refine T_p xr_119_61 xn_119 (pc' := 63) (ls' := [(7, .int (iI (N 1 n))), (6, .int (iI 0)), (5, .int (iI (V_S G (N 0 n)))), (4, .int (iI (N 2 n))), (3, .int (iI (N 1 n))), (2, .int (iI (N 0 n))), (1, .int (iI n)), (0, .ref 1)]) (st' := []) rfl ?_
  refine T_p xr_119_63 xn_119 (pc' := 64) (ls' := [(7, .int (iI (N 1 n))), (6, .int (iI 0)), (5, .int (iI (V_S G (N 0 n)))), (4, .int (iI (N 2 n))), (3, .int (iI (N 1 n))), (2, .int (iI (N 0 n))), (1, .int (iI n)), (0, .ref 1)]) (st' := [.int (iI 1)]) rfl ?_
  refine T_p xr_119_64 xn_119 (pc' := 66) (ls' := [(8, .int (iI 1)), (7, .int (iI (N 1 n))), (6, .int (iI 0)), (5, .int (iI (V_S G (N 0 n)))), (4, .int (iI (N 2 n))), (3, .int (iI (N 1 n))), (2, .int (iI (N 0 n))), (1, .int (iI n)), (0, .ref 1)]) (st' := []) rfl ?_
  refine T_p xr_119_66 xn_119 (pc' := 67) (ls' := [(8, .int (iI 1)), (7, .int (iI (N 1 n))), (6, .int (iI 0)), (5, .int (iI (V_S G (N 0 n)))), (4, .int (iI (N 2 n))), (3, .int (iI (N 1 n))), (2, .int (iI (N 0 n))), (1, .int (iI n)), (0, .ref 1)]) (st' := [.int (iI n)]) rfl ?_
  refine T_p xr_119_67 xn_119 (pc' := 68) (ls' := [(8, .int (iI 1)), (7, .int (iI (N 1 n))), (6, .int (iI 0)), (5, .int (iI (V_S G (N 0 n)))), (4, .int (iI (N 2 n))), (3, .int (iI (N 1 n))), (2, .int (iI (N 0 n))), (1, .int (iI n)), (0, .ref 1)]) (st' := [.int (iI 1), .int (iI n)]) rfl ?_
  refine T_ziadd xr_119_68 (z := n + 1) rfl (pc' := 69) rfl ?_
  refine T_p xr_119_69 xn_119 (pc' := 71) (ls' := [(9, .int (iI (n + 1))), (8, .int (iI 1)), (7, .int (iI (N 1 n))), (6, .int (iI 0)), (5, .int (iI (V_S G (N 0 n)))), (4, .int (iI (N 2 n))), (3, .int (iI (N 1 n))), (2, .int (iI (N 0 n))), (1, .int (iI n)), (0, .ref 1)]) (st' := []) rfl ?_
  have L5030 : ∀ (m5032 : Nat) (Sl : X_S) (k : Int) (at_ : Int) (holes : Int) (sg : Int) (hF5034 : X_Fr (fun q => 1 ≤ q ∧ q < 530) S Sl) (hk : n + 1 ≤ k ∧ k ≤ nc) (hh : 0 ≤ holes ∧ holes ≤ k) (ha : 0 ≤ at_ ∧ at_ ≤ 60) (hs : 0 ≤ sg ∧ sg ≤ 30 * k + 8) (hv : V_gd (V_H G (N 0 n)) (N 1 n + N 2 n) (N 2 n) holes at_ sg (V_mf N n (nc - k).toNat k)) (hIC : X_IC Sl len tb rc G tn nc N rs re) (hm5033 : nc + 1 - k < m5032), X_T sc 119 (71, [(9, .int (iI k)), (8, .int (iI 1)), (7, .int (iI at_)), (6, .int (iI holes)), (5, .int (iI sg)), (4, .int (iI (N 2 n))), (3, .int (iI (N 1 n))), (2, .int (iI (N 0 n))), (1, .int (iI n)), (0, .ref 1)], [], Sl) Q := by
    intro m5032
    induction m5032 with
    | zero =>
      intro Sl k at_ holes sg hF5034 hk hh ha hs hv hIC hm5033
      exact (show False by omega).elim
    | succ m5032 ih5031 =>
      intro Sl k at_ holes sg hF5034 hk hh ha hs hv hIC hm5033
      refine T_p xr_119_71 xn_119 (pc' := 72) (ls' := [(9, .int (iI k)), (8, .int (iI 1)), (7, .int (iI at_)), (6, .int (iI holes)), (5, .int (iI sg)), (4, .int (iI (N 2 n))), (3, .int (iI (N 1 n))), (2, .int (iI (N 0 n))), (1, .int (iI n)), (0, .ref 1)]) (st' := [.ref 1]) rfl ?_
      refine T_p xr_119_72 xn_119 (pc' := 74) (ls' := [(9, .int (iI k)), (8, .int (iI 1)), (7, .int (iI at_)), (6, .int (iI holes)), (5, .int (iI sg)), (4, .int (iI (N 2 n))), (3, .int (iI (N 1 n))), (2, .int (iI (N 0 n))), (1, .int (iI n)), (0, .ref 1)]) (st' := [.int (iI k), .ref 1]) rfl ?_
      refine T_p xr_119_74 xn_119 (pc' := 75) (ls' := [(9, .int (iI k)), (8, .int (iI 1)), (7, .int (iI at_)), (6, .int (iI holes)), (5, .int (iI sg)), (4, .int (iI (N 2 n))), (3, .int (iI (N 1 n))), (2, .int (iI (N 0 n))), (1, .int (iI n)), (0, .ref 1)]) (st' := [.int (iI 0), .int (iI k), .ref 1]) rfl ?_
      obtain ⟨f5035, ho5036⟩ := hIC.o1
      refine T_cv (S := Sl) (q := 1) xr_119_75 xf_110.1 xf_110.2.1 xn_110 (as := [.int (iI k), .int (iI 0)]) (r := []) rfl ho5036 (Nat.le_of_ble_eq_true rfl) (Nat.le_of_ble_eq_true rfl) (pc' := 78) rfl (ls' := [(0, .ref 1), (1, .int (iI k)), (2, .int (iI 0))]) rfl ?_
      refine T_mono (k_node sc Sl len tb rc G tn nc N rs re k 0 hIC hA (by omega) (by omega)) (fun v5037 S5038 h5039 => ?_)
      rcases h5039 with ⟨hv5040, hp5041, hf5042⟩
      rw [hv5040]
      show X_T sc 119 (78, [(9, .int (iI k)), (8, .int (iI 1)), (7, .int (iI at_)), (6, .int (iI holes)), (5, .int (iI sg)), (4, .int (iI (N 2 n))), (3, .int (iI (N 1 n))), (2, .int (iI (N 0 n))), (1, .int (iI n)), (0, .ref 1)], [.int (iI (X_qNd nc N k 0))], S5038) _
      have hk0 := V_nd_0 (k := k) hG hR (by omega)
      refine T_p xr_119_78 xn_119 (pc' := 79) (ls' := [(9, .int (iI k)), (8, .int (iI 1)), (7, .int (iI at_)), (6, .int (iI holes)), (5, .int (iI sg)), (4, .int (iI (N 2 n))), (3, .int (iI (N 1 n))), (2, .int (iI (N 0 n))), (1, .int (iI n)), (0, .ref 1)]) (st' := [.int (iI (-1)), .int (iI (X_qNd nc N k 0))]) rfl ?_
      refine T_zicmp_eq xr_119_79 (t := 170) (pc' := 82) rfl rfl (fun c5044 => ?_) (fun c5044 => ?_)
      · skip
        have c5044 : (X_qNd nc N k 0) = (-1) := c5044
        obtain ⟨he1, he2, he3⟩ := V_mf_e (by omega) hv
        have hHe : (N 0 n = -2 → holes = 0) ∧ (N 0 n = -3 → holes = 1) ∧ (0 ≤ N 0 n → holes = gD G (N 0 n) 4 0) := by
          unfold V_H at he1
          refine ⟨fun z => ?_, fun z => ?_, fun z => ?_⟩
          · rw [if_pos z] at he1; exact he1
          · rw [if_neg (by omega), if_pos z] at he1; exact he1
          · rw [if_neg (by omega), if_neg (by omega)] at he1; exact he1
        refine T_p xr_119_170 xn_119 (pc' := 172) (ls' := [(9, .int (iI k)), (8, .int (iI 1)), (7, .int (iI at_)), (6, .int (iI holes)), (5, .int (iI sg)), (4, .int (iI (N 2 n))), (3, .int (iI (N 1 n))), (2, .int (iI (N 0 n))), (1, .int (iI n)), (0, .ref 1)]) (st' := [.int (iI 1)]) rfl ?_
        refine T_zif_eqf xr_119_172 (t := 226) (pc' := 175) rfl rfl (by decide) ?_
        refine T_p xr_119_175 xn_119 (pc' := 177) (ls' := [(9, .int (iI k)), (8, .int (iI 1)), (7, .int (iI at_)), (6, .int (iI holes)), (5, .int (iI sg)), (4, .int (iI (N 2 n))), (3, .int (iI (N 1 n))), (2, .int (iI (N 0 n))), (1, .int (iI n)), (0, .ref 1)]) (st' := [.int (iI at_)]) rfl ?_
        refine T_p xr_119_177 xn_119 (pc' := 178) (ls' := [(9, .int (iI k)), (8, .int (iI 1)), (7, .int (iI at_)), (6, .int (iI holes)), (5, .int (iI sg)), (4, .int (iI (N 2 n))), (3, .int (iI (N 1 n))), (2, .int (iI (N 0 n))), (1, .int (iI n)), (0, .ref 1)]) (st' := [.int (iI (N 1 n)), .int (iI at_)]) rfl ?_
        refine T_p xr_119_178 xn_119 (pc' := 180) (ls' := [(9, .int (iI k)), (8, .int (iI 1)), (7, .int (iI at_)), (6, .int (iI holes)), (5, .int (iI sg)), (4, .int (iI (N 2 n))), (3, .int (iI (N 1 n))), (2, .int (iI (N 0 n))), (1, .int (iI n)), (0, .ref 1)]) (st' := [.int (iI (N 2 n)), .int (iI (N 1 n)), .int (iI at_)]) rfl ?_
        refine T_ziadd xr_119_180 (z := (N 1 n) + (N 2 n)) rfl (pc' := 181) rfl ?_
        refine T_zicmp_gt xr_119_181 (t := 226) (pc' := 184) rfl rfl (fun c5045 => ?_) (fun c5045 => ?_)
        · skip
          have c5045 : ((N 1 n) + (N 2 n)) < at_ := c5045
          exact (show False by omega).elim
        · skip
          have c5045 : ¬ (((N 1 n) + (N 2 n)) < at_) := c5045
          refine T_p xr_119_184 xn_119 (pc' := 186) (ls' := [(9, .int (iI k)), (8, .int (iI 1)), (7, .int (iI at_)), (6, .int (iI holes)), (5, .int (iI sg)), (4, .int (iI (N 2 n))), (3, .int (iI (N 1 n))), (2, .int (iI (N 0 n))), (1, .int (iI n)), (0, .ref 1)]) (st' := [.int (iI sg)]) rfl ?_
          refine T_p xr_119_186 xn_119 (pc' := 188) (ls' := [(9, .int (iI k)), (8, .int (iI 1)), (7, .int (iI at_)), (6, .int (iI holes)), (5, .int (iI sg)), (4, .int (iI (N 2 n))), (3, .int (iI (N 1 n))), (2, .int (iI (N 0 n))), (1, .int (iI n)), (0, .ref 1)]) (st' := [.int (iI (N 2 n)), .int (iI sg)]) rfl ?_
          refine T_zicmp_ne xr_119_188 (t := 226) (pc' := 191) rfl rfl (fun c5046 => ?_) (fun c5046 => ?_)
          · skip
            have c5046 : ¬ sg = (N 2 n) := c5046
            exact (show False by omega).elim
          · skip
            have c5046 : ¬ (¬ sg = (N 2 n)) := c5046
            refine T_p xr_119_191 xn_119 (pc' := 193) (ls' := [(9, .int (iI k)), (8, .int (iI 1)), (7, .int (iI at_)), (6, .int (iI holes)), (5, .int (iI sg)), (4, .int (iI (N 2 n))), (3, .int (iI (N 1 n))), (2, .int (iI (N 0 n))), (1, .int (iI n)), (0, .ref 1)]) (st' := [.int (iI holes)]) rfl ?_
            refine T_p xr_119_193 xn_119 (pc' := 194) (ls' := [(9, .int (iI k)), (8, .int (iI 1)), (7, .int (iI at_)), (6, .int (iI holes)), (5, .int (iI sg)), (4, .int (iI (N 2 n))), (3, .int (iI (N 1 n))), (2, .int (iI (N 0 n))), (1, .int (iI n)), (0, .ref 1)]) (st' := [.int (iI (N 0 n)), .int (iI holes)]) rfl ?_
            refine T_p xr_119_194 xn_119 (pc' := 196) (ls' := [(9, .int (iI k)), (8, .int (iI 1)), (7, .int (iI at_)), (6, .int (iI holes)), (5, .int (iI sg)), (4, .int (iI (N 2 n))), (3, .int (iI (N 1 n))), (2, .int (iI (N 0 n))), (1, .int (iI n)), (0, .ref 1)]) (st' := [.int (iI (-2)), .int (iI (N 0 n)), .int (iI holes)]) rfl ?_
            refine T_zicmp_ne xr_119_196 (t := 203) (pc' := 199) rfl rfl (fun c5047 => ?_) (fun c5047 => ?_)
            · skip
              have c5047 : ¬ (N 0 n) = (-2) := c5047
              refine T_p xr_119_203 xn_119 (pc' := 204) (ls' := [(9, .int (iI k)), (8, .int (iI 1)), (7, .int (iI at_)), (6, .int (iI holes)), (5, .int (iI sg)), (4, .int (iI (N 2 n))), (3, .int (iI (N 1 n))), (2, .int (iI (N 0 n))), (1, .int (iI n)), (0, .ref 1)]) (st' := [.int (iI (N 0 n)), .int (iI holes)]) rfl ?_
              refine T_p xr_119_204 xn_119 (pc' := 206) (ls' := [(9, .int (iI k)), (8, .int (iI 1)), (7, .int (iI at_)), (6, .int (iI holes)), (5, .int (iI sg)), (4, .int (iI (N 2 n))), (3, .int (iI (N 1 n))), (2, .int (iI (N 0 n))), (1, .int (iI n)), (0, .ref 1)]) (st' := [.int (iI (-3)), .int (iI (N 0 n)), .int (iI holes)]) rfl ?_
              refine T_zicmp_ne xr_119_206 (t := 213) (pc' := 209) rfl rfl (fun c5048 => ?_) (fun c5048 => ?_)
              · skip
                have c5048 : ¬ (N 0 n) = (-3) := c5048
                refine T_p xr_119_213 xn_119 (pc' := 214) (ls' := [(9, .int (iI k)), (8, .int (iI 1)), (7, .int (iI at_)), (6, .int (iI holes)), (5, .int (iI sg)), (4, .int (iI (N 2 n))), (3, .int (iI (N 1 n))), (2, .int (iI (N 0 n))), (1, .int (iI n)), (0, .ref 1)]) (st' := [.ref 1, .int (iI holes)]) rfl ?_
                refine T_p xr_119_214 xn_119 (pc' := 215) (ls' := [(9, .int (iI k)), (8, .int (iI 1)), (7, .int (iI at_)), (6, .int (iI holes)), (5, .int (iI sg)), (4, .int (iI (N 2 n))), (3, .int (iI (N 1 n))), (2, .int (iI (N 0 n))), (1, .int (iI n)), (0, .ref 1)]) (st' := [.int (iI (N 0 n)), .ref 1, .int (iI holes)]) rfl ?_
                refine T_p xr_119_215 xn_119 (pc' := 216) (ls' := [(9, .int (iI k)), (8, .int (iI 1)), (7, .int (iI at_)), (6, .int (iI holes)), (5, .int (iI sg)), (4, .int (iI (N 2 n))), (3, .int (iI (N 1 n))), (2, .int (iI (N 0 n))), (1, .int (iI n)), (0, .ref 1)]) (st' := [.int (iI 4), .int (iI (N 0 n)), .ref 1, .int (iI holes)]) rfl ?_
                obtain ⟨f5049, ho5050⟩ := hp5041.o1
                refine T_cv (S := S5038) (q := 1) xr_119_216 xf_105.1 xf_105.2.1 xn_105 (as := [.int (iI (N 0 n)), .int (iI 4)]) (r := [.int (iI holes)]) rfl ho5050 (Nat.le_of_ble_eq_true rfl) (Nat.le_of_ble_eq_true rfl) (pc' := 219) rfl (ls' := [(0, .ref 1), (1, .int (iI (N 0 n))), (2, .int (iI 4))]) rfl ?_
                refine T_mono (k_word sc S5038 len tb rc G tn nc N rs re (N 0 n) 4 hp5041 hA (by omega) (by omega)) (fun v5051 S5052 h5053 => ?_)
                rcases h5053 with ⟨hv5054, hp5055, hf5056⟩
                rw [hv5054]
                show X_T sc 119 (219, [(9, .int (iI k)), (8, .int (iI 1)), (7, .int (iI at_)), (6, .int (iI holes)), (5, .int (iI sg)), (4, .int (iI (N 2 n))), (3, .int (iI (N 1 n))), (2, .int (iI (N 0 n))), (1, .int (iI n)), (0, .ref 1)], [.int (iI (X_qWd G (N 0 n) 4)), .int (iI holes)], S5052) _
                refine T_ie (y := iI (gD G (N 0 n) 4 0)) (congrArg iI (V_wd3 (by omega)).2) ?_
                have hw4 := hwr (N 0 n) (by omega) (by omega)
                refine T_zicmp_ne xr_119_219 (t := 226) (pc' := 222) rfl rfl (fun c5058 => ?_) (fun c5058 => ?_)
                · skip
                  have c5058 : ¬ holes = (gD G (N 0 n) 4 0) := c5058
                  exact (show False by omega).elim
                · skip
                  have c5058 : ¬ (¬ holes = (gD G (N 0 n) 4 0)) := c5058
                  refine T_p xr_119_222 xn_119 (pc' := 223) (ls' := [(9, .int (iI k)), (8, .int (iI 1)), (7, .int (iI at_)), (6, .int (iI holes)), (5, .int (iI sg)), (4, .int (iI (N 2 n))), (3, .int (iI (N 1 n))), (2, .int (iI (N 0 n))), (1, .int (iI n)), (0, .ref 1)]) (st' := [.int (iI 1)]) rfl ?_
                  refine T_p xr_119_223 xn_119 (pc' := 227) (ls' := [(9, .int (iI k)), (8, .int (iI 1)), (7, .int (iI at_)), (6, .int (iI holes)), (5, .int (iI sg)), (4, .int (iI (N 2 n))), (3, .int (iI (N 1 n))), (2, .int (iI (N 0 n))), (1, .int (iI n)), (0, .ref 1)]) (st' := [.int (iI 1)]) rfl ?_
                  refine T_iret xr_119_227 xf_119.2.2 (by decide) ?_
                  refine hQ _ _ ?_
                  exact ⟨rfl, hp5055, (((X_Fr.rf).tr (X_Fr.mono ⟨hF5034.1, hF5034.2⟩ (fun q hq => (by omega)))).tr (X_Fr.mono ⟨hf5042.1, hf5042.2⟩ (fun q hq => (by omega)))).tr (X_Fr.mono ⟨hf5056.1, hf5056.2⟩ (fun q hq => (by omega)))⟩
              · skip
                have c5048 : ¬ (¬ (N 0 n) = (-3)) := c5048
                refine T_p xr_119_209 xn_119 (pc' := 210) (ls' := [(9, .int (iI k)), (8, .int (iI 1)), (7, .int (iI at_)), (6, .int (iI holes)), (5, .int (iI sg)), (4, .int (iI (N 2 n))), (3, .int (iI (N 1 n))), (2, .int (iI (N 0 n))), (1, .int (iI n)), (0, .ref 1)]) (st' := [.int (iI 1), .int (iI holes)]) rfl ?_
                refine T_p xr_119_210 xn_119 (pc' := 219) (ls' := [(9, .int (iI k)), (8, .int (iI 1)), (7, .int (iI at_)), (6, .int (iI holes)), (5, .int (iI sg)), (4, .int (iI (N 2 n))), (3, .int (iI (N 1 n))), (2, .int (iI (N 0 n))), (1, .int (iI n)), (0, .ref 1)]) (st' := [.int (iI 1), .int (iI holes)]) rfl ?_
                refine T_zicmp_ne xr_119_219 (t := 226) (pc' := 222) rfl rfl (fun c5059 => ?_) (fun c5059 => ?_)
                · skip
                  have c5059 : ¬ holes = 1 := c5059
                  exact (show False by omega).elim
                · skip
                  have c5059 : ¬ (¬ holes = 1) := c5059
                  refine T_p xr_119_222 xn_119 (pc' := 223) (ls' := [(9, .int (iI k)), (8, .int (iI 1)), (7, .int (iI at_)), (6, .int (iI holes)), (5, .int (iI sg)), (4, .int (iI (N 2 n))), (3, .int (iI (N 1 n))), (2, .int (iI (N 0 n))), (1, .int (iI n)), (0, .ref 1)]) (st' := [.int (iI 1)]) rfl ?_
                  refine T_p xr_119_223 xn_119 (pc' := 227) (ls' := [(9, .int (iI k)), (8, .int (iI 1)), (7, .int (iI at_)), (6, .int (iI holes)), (5, .int (iI sg)), (4, .int (iI (N 2 n))), (3, .int (iI (N 1 n))), (2, .int (iI (N 0 n))), (1, .int (iI n)), (0, .ref 1)]) (st' := [.int (iI 1)]) rfl ?_
                  refine T_iret xr_119_227 xf_119.2.2 (by decide) ?_
                  refine hQ _ _ ?_
                  exact ⟨rfl, hp5041, ((X_Fr.rf).tr (X_Fr.mono ⟨hF5034.1, hF5034.2⟩ (fun q hq => (by omega)))).tr (X_Fr.mono ⟨hf5042.1, hf5042.2⟩ (fun q hq => (by omega)))⟩
            · skip
              have c5047 : ¬ (¬ (N 0 n) = (-2)) := c5047
              refine T_p xr_119_199 xn_119 (pc' := 200) (ls' := [(9, .int (iI k)), (8, .int (iI 1)), (7, .int (iI at_)), (6, .int (iI holes)), (5, .int (iI sg)), (4, .int (iI (N 2 n))), (3, .int (iI (N 1 n))), (2, .int (iI (N 0 n))), (1, .int (iI n)), (0, .ref 1)]) (st' := [.int (iI 0), .int (iI holes)]) rfl ?_
              refine T_p xr_119_200 xn_119 (pc' := 219) (ls' := [(9, .int (iI k)), (8, .int (iI 1)), (7, .int (iI at_)), (6, .int (iI holes)), (5, .int (iI sg)), (4, .int (iI (N 2 n))), (3, .int (iI (N 1 n))), (2, .int (iI (N 0 n))), (1, .int (iI n)), (0, .ref 1)]) (st' := [.int (iI 0), .int (iI holes)]) rfl ?_
              refine T_zicmp_ne xr_119_219 (t := 226) (pc' := 222) rfl rfl (fun c5060 => ?_) (fun c5060 => ?_)
              · skip
                have c5060 : ¬ holes = 0 := c5060
                exact (show False by omega).elim
              · skip
                have c5060 : ¬ (¬ holes = 0) := c5060
                refine T_p xr_119_222 xn_119 (pc' := 223) (ls' := [(9, .int (iI k)), (8, .int (iI 1)), (7, .int (iI at_)), (6, .int (iI holes)), (5, .int (iI sg)), (4, .int (iI (N 2 n))), (3, .int (iI (N 1 n))), (2, .int (iI (N 0 n))), (1, .int (iI n)), (0, .ref 1)]) (st' := [.int (iI 1)]) rfl ?_
                refine T_p xr_119_223 xn_119 (pc' := 227) (ls' := [(9, .int (iI k)), (8, .int (iI 1)), (7, .int (iI at_)), (6, .int (iI holes)), (5, .int (iI sg)), (4, .int (iI (N 2 n))), (3, .int (iI (N 1 n))), (2, .int (iI (N 0 n))), (1, .int (iI n)), (0, .ref 1)]) (st' := [.int (iI 1)]) rfl ?_
                refine T_iret xr_119_227 xf_119.2.2 (by decide) ?_
                refine hQ _ _ ?_
                exact ⟨rfl, hp5041, ((X_Fr.rf).tr (X_Fr.mono ⟨hF5034.1, hF5034.2⟩ (fun q hq => (by omega)))).tr (X_Fr.mono ⟨hf5042.1, hf5042.2⟩ (fun q hq => (by omega)))⟩
      · skip
        have c5044 : ¬ ((X_qNd nc N k 0) = (-1)) := c5044
        refine T_p xr_119_82 xn_119 (pc' := 84) (ls' := [(9, .int (iI k)), (8, .int (iI 1)), (7, .int (iI at_)), (6, .int (iI holes)), (5, .int (iI sg)), (4, .int (iI (N 2 n))), (3, .int (iI (N 1 n))), (2, .int (iI (N 0 n))), (1, .int (iI n)), (0, .ref 1)]) (st' := [.int (iI 1)]) rfl ?_
        refine T_zif_eqf xr_119_84 (t := 170) (pc' := 87) rfl rfl (by decide) ?_
        refine T_p xr_119_87 xn_119 (pc' := 88) (ls' := [(9, .int (iI k)), (8, .int (iI 1)), (7, .int (iI at_)), (6, .int (iI holes)), (5, .int (iI sg)), (4, .int (iI (N 2 n))), (3, .int (iI (N 1 n))), (2, .int (iI (N 0 n))), (1, .int (iI n)), (0, .ref 1)]) (st' := [.ref 1]) rfl ?_
        refine T_p xr_119_88 xn_119 (pc' := 90) (ls' := [(9, .int (iI k)), (8, .int (iI 1)), (7, .int (iI at_)), (6, .int (iI holes)), (5, .int (iI sg)), (4, .int (iI (N 2 n))), (3, .int (iI (N 1 n))), (2, .int (iI (N 0 n))), (1, .int (iI n)), (0, .ref 1)]) (st' := [.int (iI k), .ref 1]) rfl ?_
        refine T_p xr_119_90 xn_119 (pc' := 91) (ls' := [(9, .int (iI k)), (8, .int (iI 1)), (7, .int (iI at_)), (6, .int (iI holes)), (5, .int (iI sg)), (4, .int (iI (N 2 n))), (3, .int (iI (N 1 n))), (2, .int (iI (N 0 n))), (1, .int (iI n)), (0, .ref 1)]) (st' := [.int (iI 3), .int (iI k), .ref 1]) rfl ?_
        obtain ⟨f5061, ho5062⟩ := hp5041.o1
        refine T_cv (S := S5038) (q := 1) xr_119_91 xf_110.1 xf_110.2.1 xn_110 (as := [.int (iI k), .int (iI 3)]) (r := []) rfl ho5062 (Nat.le_of_ble_eq_true rfl) (Nat.le_of_ble_eq_true rfl) (pc' := 94) rfl (ls' := [(0, .ref 1), (1, .int (iI k)), (2, .int (iI 3))]) rfl ?_
        refine T_mono (k_node sc S5038 len tb rc G tn nc N rs re k 3 hp5041 hA (by omega) (by omega)) (fun v5063 S5064 h5065 => ?_)
        rcases h5065 with ⟨hv5066, hp5067, hf5068⟩
        rw [hv5066]
        show X_T sc 119 (94, [(9, .int (iI k)), (8, .int (iI 1)), (7, .int (iI at_)), (6, .int (iI holes)), (5, .int (iI sg)), (4, .int (iI (N 2 n))), (3, .int (iI (N 1 n))), (2, .int (iI (N 0 n))), (1, .int (iI n)), (0, .ref 1)], [.int (iI (X_qNd nc N k 3))], S5064) _
        refine T_ie (y := iI (N 3 k)) (congrArg iI (V_nd (by omega)).2.2.2.1) ?_
        have htr := hR.2.1 k (by omega) (by omega)
        refine T_p xr_119_94 xn_119 (pc' := 95) (ls' := [(9, .int (iI k)), (8, .int (iI 1)), (7, .int (iI at_)), (6, .int (iI holes)), (5, .int (iI sg)), (4, .int (iI (N 2 n))), (3, .int (iI (N 1 n))), (2, .int (iI (N 0 n))), (1, .int (iI n)), (0, .ref 1)]) (st' := [.int (iI n), .int (iI (N 3 k))]) rfl ?_
        refine T_zicmp_eq xr_119_95 (t := 101) (pc' := 98) rfl rfl (fun c5070 => ?_) (fun c5070 => ?_)
        · skip
          have c5070 : (N 3 k) = n := c5070
          obtain ⟨hy4, hya, hyv⟩ := V_mf_y (by omega) (by assumption) hv
          have hrk := (hR.2.2.2.2.1 k (by omega) (by omega)).2.2.2.2
          have hrh := (hR.2.2.2.2.1 k (by omega) (by omega)).2.2.1
          refine T_p xr_119_101 xn_119 (pc' := 102) (ls' := [(9, .int (iI k)), (8, .int (iI 1)), (7, .int (iI at_)), (6, .int (iI holes)), (5, .int (iI sg)), (4, .int (iI (N 2 n))), (3, .int (iI (N 1 n))), (2, .int (iI (N 0 n))), (1, .int (iI n)), (0, .ref 1)]) (st' := [.ref 1]) rfl ?_
          refine T_p xr_119_102 xn_119 (pc' := 104) (ls' := [(9, .int (iI k)), (8, .int (iI 1)), (7, .int (iI at_)), (6, .int (iI holes)), (5, .int (iI sg)), (4, .int (iI (N 2 n))), (3, .int (iI (N 1 n))), (2, .int (iI (N 0 n))), (1, .int (iI n)), (0, .ref 1)]) (st' := [.int (iI k), .ref 1]) rfl ?_
          refine T_p xr_119_104 xn_119 (pc' := 105) (ls' := [(9, .int (iI k)), (8, .int (iI 1)), (7, .int (iI at_)), (6, .int (iI holes)), (5, .int (iI sg)), (4, .int (iI (N 2 n))), (3, .int (iI (N 1 n))), (2, .int (iI (N 0 n))), (1, .int (iI n)), (0, .ref 1)]) (st' := [.int (iI 4), .int (iI k), .ref 1]) rfl ?_
          obtain ⟨f5071, ho5072⟩ := hp5067.o1
          refine T_cv (S := S5064) (q := 1) xr_119_105 xf_110.1 xf_110.2.1 xn_110 (as := [.int (iI k), .int (iI 4)]) (r := []) rfl ho5072 (Nat.le_of_ble_eq_true rfl) (Nat.le_of_ble_eq_true rfl) (pc' := 108) rfl (ls' := [(0, .ref 1), (1, .int (iI k)), (2, .int (iI 4))]) rfl ?_
          refine T_mono (k_node sc S5064 len tb rc G tn nc N rs re k 4 hp5067 hA (by omega) (by omega)) (fun v5073 S5074 h5075 => ?_)
          rcases h5075 with ⟨hv5076, hp5077, hf5078⟩
          rw [hv5076]
          show X_T sc 119 (108, [(9, .int (iI k)), (8, .int (iI 1)), (7, .int (iI at_)), (6, .int (iI holes)), (5, .int (iI sg)), (4, .int (iI (N 2 n))), (3, .int (iI (N 1 n))), (2, .int (iI (N 0 n))), (1, .int (iI n)), (0, .ref 1)], [.int (iI (X_qNd nc N k 4))], S5074) _
          refine T_ie (y := iI (N 4 k)) (congrArg iI (V_nd (by omega)).2.2.2.2) ?_
          refine T_p xr_119_108 xn_119 (pc' := 110) (ls' := [(9, .int (iI k)), (8, .int (iI 1)), (7, .int (iI at_)), (6, .int (iI holes)), (5, .int (iI sg)), (4, .int (iI (N 2 n))), (3, .int (iI (N 1 n))), (2, .int (iI (N 0 n))), (1, .int (iI n)), (0, .ref 1)]) (st' := [.int (iI holes), .int (iI (N 4 k))]) rfl ?_
          refine T_zicmp_ne xr_119_110 (t := 129) (pc' := 113) rfl rfl (fun c5080 => ?_) (fun c5080 => ?_)
          · skip
            have c5080 : ¬ (N 4 k) = holes := c5080
            exact (show False by omega).elim
          · skip
            have c5080 : ¬ (¬ (N 4 k) = holes) := c5080
            refine T_p xr_119_113 xn_119 (pc' := 114) (ls' := [(9, .int (iI k)), (8, .int (iI 1)), (7, .int (iI at_)), (6, .int (iI holes)), (5, .int (iI sg)), (4, .int (iI (N 2 n))), (3, .int (iI (N 1 n))), (2, .int (iI (N 0 n))), (1, .int (iI n)), (0, .ref 1)]) (st' := [.ref 1]) rfl ?_
            refine T_p xr_119_114 xn_119 (pc' := 116) (ls' := [(9, .int (iI k)), (8, .int (iI 1)), (7, .int (iI at_)), (6, .int (iI holes)), (5, .int (iI sg)), (4, .int (iI (N 2 n))), (3, .int (iI (N 1 n))), (2, .int (iI (N 0 n))), (1, .int (iI n)), (0, .ref 1)]) (st' := [.int (iI k), .ref 1]) rfl ?_
            refine T_p xr_119_116 xn_119 (pc' := 117) (ls' := [(9, .int (iI k)), (8, .int (iI 1)), (7, .int (iI at_)), (6, .int (iI holes)), (5, .int (iI sg)), (4, .int (iI (N 2 n))), (3, .int (iI (N 1 n))), (2, .int (iI (N 0 n))), (1, .int (iI n)), (0, .ref 1)]) (st' := [.int (iI 1), .int (iI k), .ref 1]) rfl ?_
            obtain ⟨f5081, ho5082⟩ := hp5077.o1
            refine T_cv (S := S5074) (q := 1) xr_119_117 xf_110.1 xf_110.2.1 xn_110 (as := [.int (iI k), .int (iI 1)]) (r := []) rfl ho5082 (Nat.le_of_ble_eq_true rfl) (Nat.le_of_ble_eq_true rfl) (pc' := 120) rfl (ls' := [(0, .ref 1), (1, .int (iI k)), (2, .int (iI 1))]) rfl ?_
            refine T_mono (k_node sc S5074 len tb rc G tn nc N rs re k 1 hp5077 hA (by omega) (by omega)) (fun v5083 S5084 h5085 => ?_)
            rcases h5085 with ⟨hv5086, hp5087, hf5088⟩
            rw [hv5086]
            show X_T sc 119 (120, [(9, .int (iI k)), (8, .int (iI 1)), (7, .int (iI at_)), (6, .int (iI holes)), (5, .int (iI sg)), (4, .int (iI (N 2 n))), (3, .int (iI (N 1 n))), (2, .int (iI (N 0 n))), (1, .int (iI n)), (0, .ref 1)], [.int (iI (X_qNd nc N k 1))], S5084) _
            refine T_ie (y := iI (N 1 k)) (congrArg iI (V_nd (by omega)).2.1) ?_
            refine T_p xr_119_120 xn_119 (pc' := 122) (ls' := [(9, .int (iI k)), (8, .int (iI 1)), (7, .int (iI at_)), (6, .int (iI holes)), (5, .int (iI sg)), (4, .int (iI (N 2 n))), (3, .int (iI (N 1 n))), (2, .int (iI (N 0 n))), (1, .int (iI n)), (0, .ref 1)]) (st' := [.int (iI at_), .int (iI (N 1 k))]) rfl ?_
            refine T_zicmp_lt xr_119_122 (t := 129) (pc' := 125) rfl rfl (fun c5090 => ?_) (fun c5090 => ?_)
            · skip
              have c5090 : (N 1 k) < at_ := c5090
              exact (show False by omega).elim
            · skip
              have c5090 : ¬ ((N 1 k) < at_) := c5090
              refine T_p xr_119_125 xn_119 (pc' := 126) (ls' := [(9, .int (iI k)), (8, .int (iI 1)), (7, .int (iI at_)), (6, .int (iI holes)), (5, .int (iI sg)), (4, .int (iI (N 2 n))), (3, .int (iI (N 1 n))), (2, .int (iI (N 0 n))), (1, .int (iI n)), (0, .ref 1)]) (st' := [.int (iI 1)]) rfl ?_
              refine T_p xr_119_126 xn_119 (pc' := 130) (ls' := [(9, .int (iI k)), (8, .int (iI 1)), (7, .int (iI at_)), (6, .int (iI holes)), (5, .int (iI sg)), (4, .int (iI (N 2 n))), (3, .int (iI (N 1 n))), (2, .int (iI (N 0 n))), (1, .int (iI n)), (0, .ref 1)]) (st' := [.int (iI 1)]) rfl ?_
              refine T_p xr_119_130 xn_119 (pc' := 132) (ls' := [(8, .int (iI 1)), (9, .int (iI k)), (7, .int (iI at_)), (6, .int (iI holes)), (5, .int (iI sg)), (4, .int (iI (N 2 n))), (3, .int (iI (N 1 n))), (2, .int (iI (N 0 n))), (1, .int (iI n)), (0, .ref 1)]) (st' := []) rfl ?_
              refine T_ziinc xr_119_132 xn_119 (a := holes) (z := holes + 1) rfl (Nat.le_of_ble_eq_true rfl) (by omega) (ls' := [(6, .int (iI (holes + 1))), (8, .int (iI 1)), (9, .int (iI k)), (7, .int (iI at_)), (5, .int (iI sg)), (4, .int (iI (N 2 n))), (3, .int (iI (N 1 n))), (2, .int (iI (N 0 n))), (1, .int (iI n)), (0, .ref 1)]) rfl (pc' := 135) rfl ?_
              refine T_p xr_119_135 xn_119 (pc' := 136) (ls' := [(6, .int (iI (holes + 1))), (8, .int (iI 1)), (9, .int (iI k)), (7, .int (iI at_)), (5, .int (iI sg)), (4, .int (iI (N 2 n))), (3, .int (iI (N 1 n))), (2, .int (iI (N 0 n))), (1, .int (iI n)), (0, .ref 1)]) (st' := [.ref 1]) rfl ?_
              refine T_p xr_119_136 xn_119 (pc' := 138) (ls' := [(6, .int (iI (holes + 1))), (8, .int (iI 1)), (9, .int (iI k)), (7, .int (iI at_)), (5, .int (iI sg)), (4, .int (iI (N 2 n))), (3, .int (iI (N 1 n))), (2, .int (iI (N 0 n))), (1, .int (iI n)), (0, .ref 1)]) (st' := [.int (iI k), .ref 1]) rfl ?_
              refine T_p xr_119_138 xn_119 (pc' := 139) (ls' := [(6, .int (iI (holes + 1))), (8, .int (iI 1)), (9, .int (iI k)), (7, .int (iI at_)), (5, .int (iI sg)), (4, .int (iI (N 2 n))), (3, .int (iI (N 1 n))), (2, .int (iI (N 0 n))), (1, .int (iI n)), (0, .ref 1)]) (st' := [.int (iI 1), .int (iI k), .ref 1]) rfl ?_
              obtain ⟨f5091, ho5092⟩ := hp5087.o1
              refine T_cv (S := S5084) (q := 1) xr_119_139 xf_110.1 xf_110.2.1 xn_110 (as := [.int (iI k), .int (iI 1)]) (r := []) rfl ho5092 (Nat.le_of_ble_eq_true rfl) (Nat.le_of_ble_eq_true rfl) (pc' := 142) rfl (ls' := [(0, .ref 1), (1, .int (iI k)), (2, .int (iI 1))]) rfl ?_
              refine T_mono (k_node sc S5084 len tb rc G tn nc N rs re k 1 hp5087 hA (by omega) (by omega)) (fun v5093 S5094 h5095 => ?_)
              rcases h5095 with ⟨hv5096, hp5097, hf5098⟩
              rw [hv5096]
              show X_T sc 119 (142, [(6, .int (iI (holes + 1))), (8, .int (iI 1)), (9, .int (iI k)), (7, .int (iI at_)), (5, .int (iI sg)), (4, .int (iI (N 2 n))), (3, .int (iI (N 1 n))), (2, .int (iI (N 0 n))), (1, .int (iI n)), (0, .ref 1)], [.int (iI (X_qNd nc N k 1))], S5094) _
              refine T_ie (y := iI (N 1 k)) (congrArg iI (V_nd (by omega)).2.1) ?_
              refine T_p xr_119_142 xn_119 (pc' := 143) (ls' := [(6, .int (iI (holes + 1))), (8, .int (iI 1)), (9, .int (iI k)), (7, .int (iI at_)), (5, .int (iI sg)), (4, .int (iI (N 2 n))), (3, .int (iI (N 1 n))), (2, .int (iI (N 0 n))), (1, .int (iI n)), (0, .ref 1)]) (st' := [.ref 1, .int (iI (N 1 k))]) rfl ?_
              refine T_p xr_119_143 xn_119 (pc' := 145) (ls' := [(6, .int (iI (holes + 1))), (8, .int (iI 1)), (9, .int (iI k)), (7, .int (iI at_)), (5, .int (iI sg)), (4, .int (iI (N 2 n))), (3, .int (iI (N 1 n))), (2, .int (iI (N 0 n))), (1, .int (iI n)), (0, .ref 1)]) (st' := [.int (iI k), .ref 1, .int (iI (N 1 k))]) rfl ?_
              refine T_p xr_119_145 xn_119 (pc' := 146) (ls' := [(6, .int (iI (holes + 1))), (8, .int (iI 1)), (9, .int (iI k)), (7, .int (iI at_)), (5, .int (iI sg)), (4, .int (iI (N 2 n))), (3, .int (iI (N 1 n))), (2, .int (iI (N 0 n))), (1, .int (iI n)), (0, .ref 1)]) (st' := [.int (iI 2), .int (iI k), .ref 1, .int (iI (N 1 k))]) rfl ?_
              obtain ⟨f5100, ho5101⟩ := hp5097.o1
              refine T_cv (S := S5094) (q := 1) xr_119_146 xf_110.1 xf_110.2.1 xn_110 (as := [.int (iI k), .int (iI 2)]) (r := [.int (iI (N 1 k))]) rfl ho5101 (Nat.le_of_ble_eq_true rfl) (Nat.le_of_ble_eq_true rfl) (pc' := 149) rfl (ls' := [(0, .ref 1), (1, .int (iI k)), (2, .int (iI 2))]) rfl ?_
              refine T_mono (k_node sc S5094 len tb rc G tn nc N rs re k 2 hp5097 hA (by omega) (by omega)) (fun v5102 S5103 h5104 => ?_)
              rcases h5104 with ⟨hv5105, hp5106, hf5107⟩
              rw [hv5105]
              show X_T sc 119 (149, [(6, .int (iI (holes + 1))), (8, .int (iI 1)), (9, .int (iI k)), (7, .int (iI at_)), (5, .int (iI sg)), (4, .int (iI (N 2 n))), (3, .int (iI (N 1 n))), (2, .int (iI (N 0 n))), (1, .int (iI n)), (0, .ref 1)], [.int (iI (X_qNd nc N k 2)), .int (iI (N 1 k))], S5103) _
              refine T_ie (y := iI (N 2 k)) (congrArg iI (V_nd (by omega)).2.2.1) ?_
              refine T_ziadd xr_119_149 (z := (N 1 k) + (N 2 k)) rfl (pc' := 150) rfl ?_
              refine T_p xr_119_150 xn_119 (pc' := 152) (ls' := [(7, .int (iI ((N 1 k) + (N 2 k)))), (6, .int (iI (holes + 1))), (8, .int (iI 1)), (9, .int (iI k)), (5, .int (iI sg)), (4, .int (iI (N 2 n))), (3, .int (iI (N 1 n))), (2, .int (iI (N 0 n))), (1, .int (iI n)), (0, .ref 1)]) (st' := []) rfl ?_
              refine T_p xr_119_152 xn_119 (pc' := 154) (ls' := [(7, .int (iI ((N 1 k) + (N 2 k)))), (6, .int (iI (holes + 1))), (8, .int (iI 1)), (9, .int (iI k)), (5, .int (iI sg)), (4, .int (iI (N 2 n))), (3, .int (iI (N 1 n))), (2, .int (iI (N 0 n))), (1, .int (iI n)), (0, .ref 1)]) (st' := [.int (iI sg)]) rfl ?_
              refine T_p xr_119_154 xn_119 (pc' := 155) (ls' := [(7, .int (iI ((N 1 k) + (N 2 k)))), (6, .int (iI (holes + 1))), (8, .int (iI 1)), (9, .int (iI k)), (5, .int (iI sg)), (4, .int (iI (N 2 n))), (3, .int (iI (N 1 n))), (2, .int (iI (N 0 n))), (1, .int (iI n)), (0, .ref 1)]) (st' := [.ref 1, .int (iI sg)]) rfl ?_
              refine T_p xr_119_155 xn_119 (pc' := 157) (ls' := [(7, .int (iI ((N 1 k) + (N 2 k)))), (6, .int (iI (holes + 1))), (8, .int (iI 1)), (9, .int (iI k)), (5, .int (iI sg)), (4, .int (iI (N 2 n))), (3, .int (iI (N 1 n))), (2, .int (iI (N 0 n))), (1, .int (iI n)), (0, .ref 1)]) (st' := [.int (iI k), .ref 1, .int (iI sg)]) rfl ?_
              refine T_p xr_119_157 xn_119 (pc' := 158) (ls' := [(7, .int (iI ((N 1 k) + (N 2 k)))), (6, .int (iI (holes + 1))), (8, .int (iI 1)), (9, .int (iI k)), (5, .int (iI sg)), (4, .int (iI (N 2 n))), (3, .int (iI (N 1 n))), (2, .int (iI (N 0 n))), (1, .int (iI n)), (0, .ref 1)]) (st' := [.int (iI 2), .int (iI k), .ref 1, .int (iI sg)]) rfl ?_
              obtain ⟨f5109, ho5110⟩ := hp5106.o1
              refine T_cv (S := S5103) (q := 1) xr_119_158 xf_110.1 xf_110.2.1 xn_110 (as := [.int (iI k), .int (iI 2)]) (r := [.int (iI sg)]) rfl ho5110 (Nat.le_of_ble_eq_true rfl) (Nat.le_of_ble_eq_true rfl) (pc' := 161) rfl (ls' := [(0, .ref 1), (1, .int (iI k)), (2, .int (iI 2))]) rfl ?_
              refine T_mono (k_node sc S5103 len tb rc G tn nc N rs re k 2 hp5106 hA (by omega) (by omega)) (fun v5111 S5112 h5113 => ?_)
              rcases h5113 with ⟨hv5114, hp5115, hf5116⟩
              rw [hv5114]
              show X_T sc 119 (161, [(7, .int (iI ((N 1 k) + (N 2 k)))), (6, .int (iI (holes + 1))), (8, .int (iI 1)), (9, .int (iI k)), (5, .int (iI sg)), (4, .int (iI (N 2 n))), (3, .int (iI (N 1 n))), (2, .int (iI (N 0 n))), (1, .int (iI n)), (0, .ref 1)], [.int (iI (X_qNd nc N k 2)), .int (iI sg)], S5112) _
              refine T_ie (y := iI (N 2 k)) (congrArg iI (V_nd (by omega)).2.2.1) ?_
              refine T_ziadd xr_119_161 (z := sg + (N 2 k)) rfl (pc' := 162) rfl ?_
              refine T_p xr_119_162 xn_119 (pc' := 164) (ls' := [(5, .int (iI (sg + (N 2 k)))), (7, .int (iI ((N 1 k) + (N 2 k)))), (6, .int (iI (holes + 1))), (8, .int (iI 1)), (9, .int (iI k)), (4, .int (iI (N 2 n))), (3, .int (iI (N 1 n))), (2, .int (iI (N 0 n))), (1, .int (iI n)), (0, .ref 1)]) (st' := []) rfl ?_
              refine T_ziinc xr_119_164 xn_119 (a := k) (z := k + 1) rfl (Nat.le_of_ble_eq_true rfl) (by omega) (ls' := [(9, .int (iI (k + 1))), (5, .int (iI (sg + (N 2 k)))), (7, .int (iI ((N 1 k) + (N 2 k)))), (6, .int (iI (holes + 1))), (8, .int (iI 1)), (4, .int (iI (N 2 n))), (3, .int (iI (N 1 n))), (2, .int (iI (N 0 n))), (1, .int (iI n)), (0, .ref 1)]) rfl (pc' := 167) rfl ?_
              refine T_p xr_119_167 xn_119 (pc' := 71) (ls' := [(9, .int (iI (k + 1))), (5, .int (iI (sg + (N 2 k)))), (7, .int (iI ((N 1 k) + (N 2 k)))), (6, .int (iI (holes + 1))), (8, .int (iI 1)), (4, .int (iI (N 2 n))), (3, .int (iI (N 1 n))), (2, .int (iI (N 0 n))), (1, .int (iI n)), (0, .ref 1)]) (st' := []) rfl ?_
              refine T_sub (ls := [(9, .int (iI (k + 1))), (8, .int (iI 1)), (7, .int (iI ((N 1 k) + (N 2 k)))), (6, .int (iI (holes + 1))), (5, .int (iI (sg + (N 2 k)))), (4, .int (iI (N 2 n))), (3, .int (iI (N 1 n))), (2, .int (iI (N 0 n))), (1, .int (iI n)), (0, .ref 1)]) ⟨rfl, rfl, rfl, rfl, rfl, rfl, rfl, rfl, rfl, rfl, trivial⟩ rfl rfl ?_
              exact ih5031 S5112 (k + 1) ((N 1 k) + (N 2 k)) (holes + 1) (sg + (N 2 k)) (hF5034.tr ((((((((X_Fr.rf).tr (X_Fr.mono ⟨hf5042.1, hf5042.2⟩ (fun q hq => (by omega)))).tr (X_Fr.mono ⟨hf5068.1, hf5068.2⟩ (fun q hq => (by omega)))).tr (X_Fr.mono ⟨hf5078.1, hf5078.2⟩ (fun q hq => (by omega)))).tr (X_Fr.mono ⟨hf5088.1, hf5088.2⟩ (fun q hq => (by omega)))).tr (X_Fr.mono ⟨hf5098.1, hf5098.2⟩ (fun q hq => (by omega)))).tr (X_Fr.mono ⟨hf5107.1, hf5107.2⟩ (fun q hq => (by omega)))).tr (X_Fr.mono ⟨hf5116.1, hf5116.2⟩ (fun q hq => (by omega))))) (by omega) (by omega) (by omega) (by omega) hyv hp5115 (by omega)
        · skip
          have c5070 : ¬ ((N 3 k) = n) := c5070
          refine T_p xr_119_98 xn_119 (pc' := 164) (ls' := [(9, .int (iI k)), (8, .int (iI 1)), (7, .int (iI at_)), (6, .int (iI holes)), (5, .int (iI sg)), (4, .int (iI (N 2 n))), (3, .int (iI (N 1 n))), (2, .int (iI (N 0 n))), (1, .int (iI n)), (0, .ref 1)]) (st' := []) rfl ?_
          refine T_ziinc xr_119_164 xn_119 (a := k) (z := k + 1) rfl (Nat.le_of_ble_eq_true rfl) (by omega) (ls' := [(9, .int (iI (k + 1))), (8, .int (iI 1)), (7, .int (iI at_)), (6, .int (iI holes)), (5, .int (iI sg)), (4, .int (iI (N 2 n))), (3, .int (iI (N 1 n))), (2, .int (iI (N 0 n))), (1, .int (iI n)), (0, .ref 1)]) rfl (pc' := 167) rfl ?_
          refine T_p xr_119_167 xn_119 (pc' := 71) (ls' := [(9, .int (iI (k + 1))), (8, .int (iI 1)), (7, .int (iI at_)), (6, .int (iI holes)), (5, .int (iI sg)), (4, .int (iI (N 2 n))), (3, .int (iI (N 1 n))), (2, .int (iI (N 0 n))), (1, .int (iI n)), (0, .ref 1)]) (st' := []) rfl ?_
          exact ih5031 S5064 (k + 1) at_ holes sg (hF5034.tr (((X_Fr.rf).tr (X_Fr.mono ⟨hf5042.1, hf5042.2⟩ (fun q hq => (by omega)))).tr (X_Fr.mono ⟨hf5068.1, hf5068.2⟩ (fun q hq => (by omega))))) (by omega) (by omega) (by omega) (by omega) (V_mf_n (by omega) (by assumption) hv) hp5067 (by omega)
  exact L5030 ((nc + 1) + 1).toNat S (n + 1) (N 1 n) 0 (V_S G (N 0 n)) ((X_Fr.rf)) (by omega) (by omega) (by omega) (by omega) hv0 hI (by omega)
set_option maxHeartbeats 800000 in
theorem l_isWhole (sc : X_Sc) (S : X_S) (len : Int) (tb : Int → Int) (rc : Int) (G : X_G) (tn : Int) (nc : Int) (N : Int → Int → Int) (rs : Int) (re : Int) (n : Int) (hI : X_IC S len tb rc G tn nc N rs re) (hA : X_Ao len tb G tn nc N) (hn : 0 ≤ n ∧ n < nc) (hV : V_ok G N n (V_md N n nc.toNat)) : X_T sc 119 (0, [(0, .ref 1), (1, .int (iI n))], [], S) (fun v S' => v = some (.int (iI 1)) ∧ X_IC S' len tb rc G tn nc N rs re ∧ (X_Fr (fun q => 1 ≤ q ∧ q < 530) S S')) := by
  have hR := hA.2.2.2.2.2.1
  have hG := hA.2.2.1
  have hnc := hR.1
  have hgw := hG.1
  obtain ⟨hw0, -, -, -, hfr⟩ := hR.2.2.2.2.1 n hn.1 hn.2
  have hwr : ∀ w, 0 ≤ w → w < gw G → (1 ≤ gD G w 3 0 ∧ gD G w 3 0 ≤ 8) ∧ 0 ≤ gD G w 4 0 ∧ gD G w 4 0 ≤ 4 ∧ gD G w 4 0 < gD G w 3 0 := fun w h1 h2 => ⟨(hG.2.2.2 w h1 h2).1, (hG.2.2.2 w h1 h2).2.1⟩
  refine X_QI (fun Q hQ => ?_)
  refine T_p xr_119_0 xn_119 (pc' := 1) (ls' := [(0, .ref 1), (1, .int (iI n))]) (st' := [.ref 1]) rfl ?_
  refine T_p xr_119_1 xn_119 (pc' := 2) (ls' := [(0, .ref 1), (1, .int (iI n))]) (st' := [.int (iI n), .ref 1]) rfl ?_
  refine T_p xr_119_2 xn_119 (pc' := 3) (ls' := [(0, .ref 1), (1, .int (iI n))]) (st' := [.int (iI 0), .int (iI n), .ref 1]) rfl ?_
  obtain ⟨f5118, ho5119⟩ := hI.o1
  refine T_cv (S := S) (q := 1) xr_119_3 xf_110.1 xf_110.2.1 xn_110 (as := [.int (iI n), .int (iI 0)]) (r := []) rfl ho5119 (Nat.le_of_ble_eq_true rfl) (Nat.le_of_ble_eq_true rfl) (pc' := 6) rfl (ls' := [(0, .ref 1), (1, .int (iI n)), (2, .int (iI 0))]) rfl ?_
  refine T_mono (k_node sc S len tb rc G tn nc N rs re n 0 hI hA (by omega) (by omega)) (fun v5120 S5121 h5122 => ?_)
  rcases h5122 with ⟨hv5123, hp5124, hf5125⟩
  rw [hv5123]
  show X_T sc 119 (6, [(0, .ref 1), (1, .int (iI n))], [.int (iI (X_qNd nc N n 0))], S5121) _
  refine T_ie (y := iI (N 0 n)) (congrArg iI (V_nd hn).1) ?_
  refine T_p xr_119_6 xn_119 (pc' := 7) (ls' := [(2, .int (iI (N 0 n))), (0, .ref 1), (1, .int (iI n))]) (st' := []) rfl ?_
  refine T_p xr_119_7 xn_119 (pc' := 8) (ls' := [(2, .int (iI (N 0 n))), (0, .ref 1), (1, .int (iI n))]) (st' := [.ref 1]) rfl ?_
  refine T_p xr_119_8 xn_119 (pc' := 9) (ls' := [(2, .int (iI (N 0 n))), (0, .ref 1), (1, .int (iI n))]) (st' := [.int (iI n), .ref 1]) rfl ?_
  refine T_p xr_119_9 xn_119 (pc' := 10) (ls' := [(2, .int (iI (N 0 n))), (0, .ref 1), (1, .int (iI n))]) (st' := [.int (iI 1), .int (iI n), .ref 1]) rfl ?_
  obtain ⟨f5127, ho5128⟩ := hp5124.o1
  refine T_cv (S := S5121) (q := 1) xr_119_10 xf_110.1 xf_110.2.1 xn_110 (as := [.int (iI n), .int (iI 1)]) (r := []) rfl ho5128 (Nat.le_of_ble_eq_true rfl) (Nat.le_of_ble_eq_true rfl) (pc' := 13) rfl (ls' := [(0, .ref 1), (1, .int (iI n)), (2, .int (iI 1))]) rfl ?_
  refine T_mono (k_node sc S5121 len tb rc G tn nc N rs re n 1 hp5124 hA (by omega) (by omega)) (fun v5129 S5130 h5131 => ?_)
  rcases h5131 with ⟨hv5132, hp5133, hf5134⟩
  rw [hv5132]
  show X_T sc 119 (13, [(2, .int (iI (N 0 n))), (0, .ref 1), (1, .int (iI n))], [.int (iI (X_qNd nc N n 1))], S5130) _
  refine T_ie (y := iI (N 1 n)) (congrArg iI (V_nd hn).2.1) ?_
  refine T_p xr_119_13 xn_119 (pc' := 14) (ls' := [(3, .int (iI (N 1 n))), (2, .int (iI (N 0 n))), (0, .ref 1), (1, .int (iI n))]) (st' := []) rfl ?_
  refine T_p xr_119_14 xn_119 (pc' := 15) (ls' := [(3, .int (iI (N 1 n))), (2, .int (iI (N 0 n))), (0, .ref 1), (1, .int (iI n))]) (st' := [.ref 1]) rfl ?_
  refine T_p xr_119_15 xn_119 (pc' := 16) (ls' := [(3, .int (iI (N 1 n))), (2, .int (iI (N 0 n))), (0, .ref 1), (1, .int (iI n))]) (st' := [.int (iI n), .ref 1]) rfl ?_
  refine T_p xr_119_16 xn_119 (pc' := 17) (ls' := [(3, .int (iI (N 1 n))), (2, .int (iI (N 0 n))), (0, .ref 1), (1, .int (iI n))]) (st' := [.int (iI 2), .int (iI n), .ref 1]) rfl ?_
  obtain ⟨f5136, ho5137⟩ := hp5133.o1
  refine T_cv (S := S5130) (q := 1) xr_119_17 xf_110.1 xf_110.2.1 xn_110 (as := [.int (iI n), .int (iI 2)]) (r := []) rfl ho5137 (Nat.le_of_ble_eq_true rfl) (Nat.le_of_ble_eq_true rfl) (pc' := 20) rfl (ls' := [(0, .ref 1), (1, .int (iI n)), (2, .int (iI 2))]) rfl ?_
  refine T_mono (k_node sc S5130 len tb rc G tn nc N rs re n 2 hp5133 hA (by omega) (by omega)) (fun v5138 S5139 h5140 => ?_)
  rcases h5140 with ⟨hv5141, hp5142, hf5143⟩
  rw [hv5141]
  show X_T sc 119 (20, [(3, .int (iI (N 1 n))), (2, .int (iI (N 0 n))), (0, .ref 1), (1, .int (iI n))], [.int (iI (X_qNd nc N n 2))], S5139) _
  refine T_ie (y := iI (N 2 n)) (congrArg iI (V_nd hn).2.2.1) ?_
  refine T_p xr_119_20 xn_119 (pc' := 22) (ls' := [(4, .int (iI (N 2 n))), (3, .int (iI (N 1 n))), (2, .int (iI (N 0 n))), (0, .ref 1), (1, .int (iI n))]) (st' := []) rfl ?_
  refine T_p xr_119_22 xn_119 (pc' := 23) (ls' := [(4, .int (iI (N 2 n))), (3, .int (iI (N 1 n))), (2, .int (iI (N 0 n))), (0, .ref 1), (1, .int (iI n))]) (st' := [.int (iI (N 0 n))]) rfl ?_
  refine T_p xr_119_23 xn_119 (pc' := 25) (ls' := [(4, .int (iI (N 2 n))), (3, .int (iI (N 1 n))), (2, .int (iI (N 0 n))), (0, .ref 1), (1, .int (iI n))]) (st' := [.int (iI (-2)), .int (iI (N 0 n))]) rfl ?_
  refine T_zicmp_ne xr_119_25 (t := 32) (pc' := 28) rfl rfl (fun c5145 => ?_) (fun c5145 => ?_)
  · skip
    have c5145 : ¬ (N 0 n) = (-2) := c5145
    refine T_p xr_119_32 xn_119 (pc' := 33) (ls' := [(4, .int (iI (N 2 n))), (3, .int (iI (N 1 n))), (2, .int (iI (N 0 n))), (0, .ref 1), (1, .int (iI n))]) (st' := [.int (iI (N 0 n))]) rfl ?_
    refine T_p xr_119_33 xn_119 (pc' := 35) (ls' := [(4, .int (iI (N 2 n))), (3, .int (iI (N 1 n))), (2, .int (iI (N 0 n))), (0, .ref 1), (1, .int (iI n))]) (st' := [.int (iI (-3)), .int (iI (N 0 n))]) rfl ?_
    refine T_zicmp_ne xr_119_35 (t := 42) (pc' := 38) rfl rfl (fun c5146 => ?_) (fun c5146 => ?_)
    · skip
      have c5146 : ¬ (N 0 n) = (-3) := c5146
      refine T_p xr_119_42 xn_119 (pc' := 43) (ls' := [(4, .int (iI (N 2 n))), (3, .int (iI (N 1 n))), (2, .int (iI (N 0 n))), (0, .ref 1), (1, .int (iI n))]) (st' := [.ref 1]) rfl ?_
      refine T_p xr_119_43 xn_119 (pc' := 44) (ls' := [(4, .int (iI (N 2 n))), (3, .int (iI (N 1 n))), (2, .int (iI (N 0 n))), (0, .ref 1), (1, .int (iI n))]) (st' := [.int (iI (N 0 n)), .ref 1]) rfl ?_
      refine T_p xr_119_44 xn_119 (pc' := 45) (ls' := [(4, .int (iI (N 2 n))), (3, .int (iI (N 1 n))), (2, .int (iI (N 0 n))), (0, .ref 1), (1, .int (iI n))]) (st' := [.int (iI 3), .int (iI (N 0 n)), .ref 1]) rfl ?_
      obtain ⟨f5147, ho5148⟩ := hp5142.o1
      refine T_cv (S := S5139) (q := 1) xr_119_45 xf_105.1 xf_105.2.1 xn_105 (as := [.int (iI (N 0 n)), .int (iI 3)]) (r := []) rfl ho5148 (Nat.le_of_ble_eq_true rfl) (Nat.le_of_ble_eq_true rfl) (pc' := 48) rfl (ls' := [(0, .ref 1), (1, .int (iI (N 0 n))), (2, .int (iI 3))]) rfl ?_
      refine T_mono (k_word sc S5139 len tb rc G tn nc N rs re (N 0 n) 3 hp5142 hA (by omega) (by omega)) (fun v5149 S5150 h5151 => ?_)
      rcases h5151 with ⟨hv5152, hp5153, hf5154⟩
      rw [hv5152]
      show X_T sc 119 (48, [(4, .int (iI (N 2 n))), (3, .int (iI (N 1 n))), (2, .int (iI (N 0 n))), (0, .ref 1), (1, .int (iI n))], [.int (iI (X_qWd G (N 0 n) 3))], S5150) _
      refine T_ie (y := iI (gD G (N 0 n) 3 0)) (congrArg iI (V_wd3 (by omega)).1) ?_
      have hw3 := hwr (N 0 n) (by omega) (by omega)
      refine T_p xr_119_48 xn_119 (pc' := 49) (ls' := [(4, .int (iI (N 2 n))), (3, .int (iI (N 1 n))), (2, .int (iI (N 0 n))), (0, .ref 1), (1, .int (iI n))]) (st' := [.ref 1, .int (iI (gD G (N 0 n) 3 0))]) rfl ?_
      refine T_p xr_119_49 xn_119 (pc' := 50) (ls' := [(4, .int (iI (N 2 n))), (3, .int (iI (N 1 n))), (2, .int (iI (N 0 n))), (0, .ref 1), (1, .int (iI n))]) (st' := [.int (iI (N 0 n)), .ref 1, .int (iI (gD G (N 0 n) 3 0))]) rfl ?_
      refine T_p xr_119_50 xn_119 (pc' := 51) (ls' := [(4, .int (iI (N 2 n))), (3, .int (iI (N 1 n))), (2, .int (iI (N 0 n))), (0, .ref 1), (1, .int (iI n))]) (st' := [.int (iI 4), .int (iI (N 0 n)), .ref 1, .int (iI (gD G (N 0 n) 3 0))]) rfl ?_
      obtain ⟨f5156, ho5157⟩ := hp5153.o1
      refine T_cv (S := S5150) (q := 1) xr_119_51 xf_105.1 xf_105.2.1 xn_105 (as := [.int (iI (N 0 n)), .int (iI 4)]) (r := [.int (iI (gD G (N 0 n) 3 0))]) rfl ho5157 (Nat.le_of_ble_eq_true rfl) (Nat.le_of_ble_eq_true rfl) (pc' := 54) rfl (ls' := [(0, .ref 1), (1, .int (iI (N 0 n))), (2, .int (iI 4))]) rfl ?_
      refine T_mono (k_word sc S5150 len tb rc G tn nc N rs re (N 0 n) 4 hp5153 hA (by omega) (by omega)) (fun v5158 S5159 h5160 => ?_)
      rcases h5160 with ⟨hv5161, hp5162, hf5163⟩
      rw [hv5161]
      show X_T sc 119 (54, [(4, .int (iI (N 2 n))), (3, .int (iI (N 1 n))), (2, .int (iI (N 0 n))), (0, .ref 1), (1, .int (iI n))], [.int (iI (X_qWd G (N 0 n) 4)), .int (iI (gD G (N 0 n) 3 0))], S5159) _
      refine T_ie (y := iI (gD G (N 0 n) 4 0)) (congrArg iI (V_wd3 (by omega)).2) ?_
      have hw4 := hwr (N 0 n) (by omega) (by omega)
      refine T_zisub xr_119_54 (z := (gD G (N 0 n) 3 0) - (gD G (N 0 n) 4 0)) rfl (pc' := 55) rfl ?_
      refine T_ie (y := iI (V_S G (N 0 n))) (congrArg iI (show (gD G (N 0 n) 3 0) - (gD G (N 0 n) 4 0) = V_S G (N 0 n) from by unfold V_S; first | rw [if_pos (by omega)] | rw [if_neg (by omega), if_pos (by omega)] | rw [if_neg (by omega), if_neg (by omega)])) ?_
      refine T_p xr_119_55 xn_119 (pc' := 57) (ls' := [(5, .int (iI (V_S G (N 0 n)))), (4, .int (iI (N 2 n))), (3, .int (iI (N 1 n))), (2, .int (iI (N 0 n))), (0, .ref 1), (1, .int (iI n))]) (st' := []) rfl ?_
      refine T_sub (ls := [(5, .int (iI (V_S G (N 0 n)))), (4, .int (iI (N 2 n))), (3, .int (iI (N 1 n))), (2, .int (iI (N 0 n))), (1, .int (iI n)), (0, .ref 1)]) ⟨rfl, rfl, rfl, rfl, rfl, rfl, trivial⟩ rfl rfl ?_
      refine T_mono (l_iw1 sc S5159 len tb rc G tn nc N rs re n hp5162 hA hn hV) (fun v5165 S5166 h5167 => hQ _ _ ?_)
      rcases h5167 with ⟨hv5168, hp5169, hf5170⟩
      skip
      rw [hv5168]
      exact ⟨rfl, hp5169, ((((((X_Fr.rf).tr (X_Fr.mono ⟨hf5125.1, hf5125.2⟩ (fun q hq => (by omega)))).tr (X_Fr.mono ⟨hf5134.1, hf5134.2⟩ (fun q hq => (by omega)))).tr (X_Fr.mono ⟨hf5143.1, hf5143.2⟩ (fun q hq => (by omega)))).tr (X_Fr.mono ⟨hf5154.1, hf5154.2⟩ (fun q hq => (by omega)))).tr (X_Fr.mono ⟨hf5163.1, hf5163.2⟩ (fun q hq => (by omega)))).tr (X_Fr.mono ⟨hf5170.1, hf5170.2⟩ (fun q hq => (by omega)))⟩
    · skip
      have c5146 : ¬ (¬ (N 0 n) = (-3)) := c5146
      refine T_p xr_119_38 xn_119 (pc' := 39) (ls' := [(4, .int (iI (N 2 n))), (3, .int (iI (N 1 n))), (2, .int (iI (N 0 n))), (0, .ref 1), (1, .int (iI n))]) (st' := [.int (iI 2)]) rfl ?_
      refine T_p xr_119_39 xn_119 (pc' := 55) (ls' := [(4, .int (iI (N 2 n))), (3, .int (iI (N 1 n))), (2, .int (iI (N 0 n))), (0, .ref 1), (1, .int (iI n))]) (st' := [.int (iI 2)]) rfl ?_
      refine T_ie (y := iI (V_S G (N 0 n))) (congrArg iI (show 2 = V_S G (N 0 n) from by unfold V_S; first | rw [if_pos (by omega)] | rw [if_neg (by omega), if_pos (by omega)] | rw [if_neg (by omega), if_neg (by omega)])) ?_
      refine T_p xr_119_55 xn_119 (pc' := 57) (ls' := [(5, .int (iI (V_S G (N 0 n)))), (4, .int (iI (N 2 n))), (3, .int (iI (N 1 n))), (2, .int (iI (N 0 n))), (0, .ref 1), (1, .int (iI n))]) (st' := []) rfl ?_
      refine T_sub (ls := [(5, .int (iI (V_S G (N 0 n)))), (4, .int (iI (N 2 n))), (3, .int (iI (N 1 n))), (2, .int (iI (N 0 n))), (1, .int (iI n)), (0, .ref 1)]) ⟨rfl, rfl, rfl, rfl, rfl, rfl, trivial⟩ rfl rfl ?_
      refine T_mono (l_iw1 sc S5139 len tb rc G tn nc N rs re n hp5142 hA hn hV) (fun v5171 S5172 h5173 => hQ _ _ ?_)
      rcases h5173 with ⟨hv5174, hp5175, hf5176⟩
      skip
      rw [hv5174]
      exact ⟨rfl, hp5175, ((((X_Fr.rf).tr (X_Fr.mono ⟨hf5125.1, hf5125.2⟩ (fun q hq => (by omega)))).tr (X_Fr.mono ⟨hf5134.1, hf5134.2⟩ (fun q hq => (by omega)))).tr (X_Fr.mono ⟨hf5143.1, hf5143.2⟩ (fun q hq => (by omega)))).tr (X_Fr.mono ⟨hf5176.1, hf5176.2⟩ (fun q hq => (by omega)))⟩
  · skip
    have c5145 : ¬ (¬ (N 0 n) = (-2)) := c5145
    refine T_p xr_119_28 xn_119 (pc' := 29) (ls' := [(4, .int (iI (N 2 n))), (3, .int (iI (N 1 n))), (2, .int (iI (N 0 n))), (0, .ref 1), (1, .int (iI n))]) (st' := [.int (iI 1)]) rfl ?_
    refine T_p xr_119_29 xn_119 (pc' := 55) (ls' := [(4, .int (iI (N 2 n))), (3, .int (iI (N 1 n))), (2, .int (iI (N 0 n))), (0, .ref 1), (1, .int (iI n))]) (st' := [.int (iI 1)]) rfl ?_
    refine T_ie (y := iI (V_S G (N 0 n))) (congrArg iI (show 1 = V_S G (N 0 n) from by unfold V_S; first | rw [if_pos (by omega)] | rw [if_neg (by omega), if_pos (by omega)] | rw [if_neg (by omega), if_neg (by omega)])) ?_
    refine T_p xr_119_55 xn_119 (pc' := 57) (ls' := [(5, .int (iI (V_S G (N 0 n)))), (4, .int (iI (N 2 n))), (3, .int (iI (N 1 n))), (2, .int (iI (N 0 n))), (0, .ref 1), (1, .int (iI n))]) (st' := []) rfl ?_
    refine T_sub (ls := [(5, .int (iI (V_S G (N 0 n)))), (4, .int (iI (N 2 n))), (3, .int (iI (N 1 n))), (2, .int (iI (N 0 n))), (1, .int (iI n)), (0, .ref 1)]) ⟨rfl, rfl, rfl, rfl, rfl, rfl, trivial⟩ rfl rfl ?_
    refine T_mono (l_iw1 sc S5139 len tb rc G tn nc N rs re n hp5142 hA hn hV) (fun v5177 S5178 h5179 => hQ _ _ ?_)
    rcases h5179 with ⟨hv5180, hp5181, hf5182⟩
    skip
    rw [hv5180]
    exact ⟨rfl, hp5181, ((((X_Fr.rf).tr (X_Fr.mono ⟨hf5125.1, hf5125.2⟩ (fun q hq => (by omega)))).tr (X_Fr.mono ⟨hf5134.1, hf5134.2⟩ (fun q hq => (by omega)))).tr (X_Fr.mono ⟨hf5143.1, hf5143.2⟩ (fun q hq => (by omega)))).tr (X_Fr.mono ⟨hf5182.1, hf5182.2⟩ (fun q hq => (by omega)))⟩
