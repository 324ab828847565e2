theorem xr_185_0 : X_row 185 0 = some (0, (.aload_n 0, 1), (0, 0, 0)) := by decide +kernel
theorem xr_185_1 : X_row 185 1 = some (1, (.getfield 237, 3), (11, 50, 100)) := by decide +kernel
theorem xr_185_4 : X_row 185 4 = some (4, (.aload_n 0, 1), (0, 0, 0)) := by decide +kernel
theorem xr_185_5 : X_row 185 5 = some (5, (.getfield 382, 3), (11, 58, 116)) := by decide +kernel
theorem xr_185_8 : X_row 185 8 = some (8, (.iload_n 1, 1), (0, 0, 0)) := by decide +kernel
theorem xr_185_9 : X_row 185 9 = some (9, (.iastore, 1), (0, 0, 0)) := by decide +kernel
theorem xr_185_10 : X_row 185 10 = some (10, (.aload_n 0, 1), (0, 0, 0)) := by decide +kernel
theorem xr_185_11 : X_row 185 11 = some (11, (.getfield 240, 3), (11, 51, 102)) := by decide +kernel
theorem xr_185_14 : X_row 185 14 = some (14, (.aload_n 0, 1), (0, 0, 0)) := by decide +kernel
theorem xr_185_15 : X_row 185 15 = some (15, (.getfield 382, 3), (11, 58, 116)) := by decide +kernel
theorem xr_185_18 : X_row 185 18 = some (18, (.iload_n 2, 1), (0, 0, 0)) := by decide +kernel
theorem xr_185_19 : X_row 185 19 = some (19, (.iastore, 1), (0, 0, 0)) := by decide +kernel
theorem xr_185_20 : X_row 185 20 = some (20, (.aload_n 0, 1), (0, 0, 0)) := by decide +kernel
theorem xr_185_21 : X_row 185 21 = some (21, (.getfield 243, 3), (11, 52, 104)) := by decide +kernel
theorem xr_185_24 : X_row 185 24 = some (24, (.aload_n 0, 1), (0, 0, 0)) := by decide +kernel
theorem xr_185_25 : X_row 185 25 = some (25, (.getfield 382, 3), (11, 58, 116)) := by decide +kernel
theorem xr_185_28 : X_row 185 28 = some (28, (.iload_n 3, 1), (0, 0, 0)) := by decide +kernel
theorem xr_185_29 : X_row 185 29 = some (29, (.iastore, 1), (0, 0, 0)) := by decide +kernel
theorem xr_185_30 : X_row 185 30 = some (30, (.aload_n 0, 1), (0, 0, 0)) := by decide +kernel
theorem xr_185_31 : X_row 185 31 = some (31, (.getfield 246, 3), (11, 53, 106)) := by decide +kernel
theorem xr_185_34 : X_row 185 34 = some (34, (.aload_n 0, 1), (0, 0, 0)) := by decide +kernel
theorem xr_185_35 : X_row 185 35 = some (35, (.getfield 382, 3), (11, 58, 116)) := by decide +kernel
theorem xr_185_38 : X_row 185 38 = some (38, (.iload 4, 2), (0, 0, 0)) := by decide +kernel
theorem xr_185_40 : X_row 185 40 = some (40, (.iastore, 1), (0, 0, 0)) := by decide +kernel
theorem xr_185_41 : X_row 185 41 = some (41, (.aload_n 0, 1), (0, 0, 0)) := by decide +kernel
theorem xr_185_42 : X_row 185 42 = some (42, (.getfield 249, 3), (11, 54, 108)) := by decide +kernel
theorem xr_185_45 : X_row 185 45 = some (45, (.aload_n 0, 1), (0, 0, 0)) := by decide +kernel
theorem xr_185_46 : X_row 185 46 = some (46, (.getfield 382, 3), (11, 58, 116)) := by decide +kernel
theorem xr_185_49 : X_row 185 49 = some (49, (.iload 5, 2), (0, 0, 0)) := by decide +kernel
theorem xr_185_51 : X_row 185 51 = some (51, (.iastore, 1), (0, 0, 0)) := by decide +kernel
theorem xr_185_52 : X_row 185 52 = some (52, (.aload_n 0, 1), (0, 0, 0)) := by decide +kernel
theorem xr_185_53 : X_row 185 53 = some (53, (.getfield 258, 3), (11, 57, 114)) := by decide +kernel
theorem xr_185_56 : X_row 185 56 = some (56, (.aload_n 0, 1), (0, 0, 0)) := by decide +kernel
theorem xr_185_57 : X_row 185 57 = some (57, (.getfield 382, 3), (11, 58, 116)) := by decide +kernel
theorem xr_185_60 : X_row 185 60 = some (60, (.lload 6, 2), (0, 0, 0)) := by decide +kernel
theorem xr_185_62 : X_row 185 62 = some (62, (.lastore, 1), (0, 0, 0)) := by decide +kernel
theorem xr_185_63 : X_row 185 63 = some (63, (.aload_n 0, 1), (0, 0, 0)) := by decide +kernel
theorem xr_185_64 : X_row 185 64 = some (64, (.getfield 252, 3), (11, 55, 110)) := by decide +kernel
theorem xr_185_67 : X_row 185 67 = some (67, (.aload_n 0, 1), (0, 0, 0)) := by decide +kernel
theorem xr_185_68 : X_row 185 68 = some (68, (.getfield 382, 3), (11, 58, 116)) := by decide +kernel
theorem xr_185_71 : X_row 185 71 = some (71, (.iload 8, 2), (0, 0, 0)) := by decide +kernel
theorem xr_185_73 : X_row 185 73 = some (73, (.iastore, 1), (0, 0, 0)) := by decide +kernel
theorem xr_185_74 : X_row 185 74 = some (74, (.aload_n 0, 1), (0, 0, 0)) := by decide +kernel
theorem xr_185_75 : X_row 185 75 = some (75, (.getfield 255, 3), (11, 56, 112)) := by decide +kernel
theorem xr_185_78 : X_row 185 78 = some (78, (.aload_n 0, 1), (0, 0, 0)) := by decide +kernel
theorem xr_185_79 : X_row 185 79 = some (79, (.getfield 382, 3), (11, 58, 116)) := by decide +kernel
theorem xr_185_82 : X_row 185 82 = some (82, (.iload 9, 2), (0, 0, 0)) := by decide +kernel
theorem xr_185_84 : X_row 185 84 = some (84, (.iastore, 1), (0, 0, 0)) := by decide +kernel
theorem xr_185_85 : X_row 185 85 = some (85, (.aload_n 0, 1), (0, 0, 0)) := by decide +kernel
theorem xr_185_86 : X_row 185 86 = some (86, (.dup, 1), (0, 0, 0)) := by decide +kernel
theorem xr_185_87 : X_row 185 87 = some (87, (.getfield 382, 3), (11, 58, 116)) := by decide +kernel
theorem xr_185_90 : X_row 185 90 = some (90, (.iconst 1, 1), (0, 0, 0)) := by decide +kernel
theorem xr_185_91 : X_row 185 91 = some (91, (.iadd, 1), (0, 0, 0)) := by decide +kernel
theorem xr_185_92 : X_row 185 92 = some (92, (.putfield 382, 3), (11, 58, 116)) := by decide +kernel
theorem xr_185_95 : X_row 185 95 = some (95, (.return_, 1), (0, 0, 0)) := by decide +kernel
theorem xr_188_0 : X_row 188 0 = some (0, (.bipush 30, 2), (0, 0, 0)) := by decide +kernel
theorem xr_188_2 : X_row 188 2 = some (2, (.aload_n 0, 1), (0, 0, 0)) := by decide +kernel
theorem xr_188_3 : X_row 188 3 = some (3, (.getfield 91, 3), (11, 4, 8)) := by decide +kernel
theorem xr_188_6 : X_row 188 6 = some (6, (.imul, 1), (0, 0, 0)) := by decide +kernel
theorem xr_188_7 : X_row 188 7 = some (7, (.iload_n 1, 1), (0, 0, 0)) := by decide +kernel
theorem xr_188_8 : X_row 188 8 = some (8, (.iadd, 1), (0, 0, 0)) := by decide +kernel
theorem xr_188_9 : X_row 188 9 = some (9, (.istore_n 3, 1), (0, 0, 0)) := by decide +kernel
theorem xr_188_10 : X_row 188 10 = some (10, (.iconst 0, 1), (0, 0, 0)) := by decide +kernel
theorem xr_188_11 : X_row 188 11 = some (11, (.istore 4, 2), (0, 0, 0)) := by decide +kernel
theorem xr_188_13 : X_row 188 13 = some (13, (.iload 4, 2), (0, 0, 0)) := by decide +kernel
theorem xr_188_15 : X_row 188 15 = some (15, (.iload_n 2, 1), (0, 0, 0)) := by decide +kernel
theorem xr_188_16 : X_row 188 16 = some (16, (.if_icmp .gt 37, 3), (0, 0, 0)) := by decide +kernel
theorem xr_188_19 : X_row 188 19 = some (19, (.aload_n 0, 1), (0, 0, 0)) := by decide +kernel
theorem xr_188_20 : X_row 188 20 = some (20, (.getfield 270, 3), (11, 62, 124)) := by decide +kernel
theorem xr_188_23 : X_row 188 23 = some (23, (.bipush 32, 2), (0, 0, 0)) := by decide +kernel
theorem xr_188_25 : X_row 188 25 = some (25, (.aload_n 0, 1), (0, 0, 0)) := by decide +kernel
theorem xr_188_26 : X_row 188 26 = some (26, (.getfield 150, 3), (11, 20, 40)) := by decide +kernel
theorem xr_188_29 : X_row 188 29 = some (29, (.iload_n 3, 1), (0, 0, 0)) := by decide +kernel
theorem xr_188_30 : X_row 188 30 = some (30, (.iaload, 1), (0, 0, 0)) := by decide +kernel
theorem xr_188_31 : X_row 188 31 = some (31, (.imul, 1), (0, 0, 0)) := by decide +kernel
theorem xr_188_32 : X_row 188 32 = some (32, (.iload 4, 2), (0, 0, 0)) := by decide +kernel
theorem xr_188_34 : X_row 188 34 = some (34, (.iadd, 1), (0, 0, 0)) := by decide +kernel
theorem xr_188_35 : X_row 188 35 = some (35, (.iload 4, 2), (0, 0, 0)) := by decide +kernel
theorem xr_188_37 : X_row 188 37 = some (37, (.iload_n 2, 1), (0, 0, 0)) := by decide +kernel
theorem xr_188_38 : X_row 188 38 = some (38, (.if_icmp .ne 7, 3), (0, 0, 0)) := by decide +kernel
theorem xr_188_41 : X_row 188 41 = some (41, (.lconst 1, 1), (0, 0, 0)) := by decide +kernel
theorem xr_188_42 : X_row 188 42 = some (42, (.goto 4, 3), (0, 0, 0)) := by decide +kernel
theorem xr_188_45 : X_row 188 45 = some (45, (.lconst 0, 1), (0, 0, 0)) := by decide +kernel
theorem xr_188_46 : X_row 188 46 = some (46, (.lastore, 1), (0, 0, 0)) := by decide +kernel
theorem xr_188_47 : X_row 188 47 = some (47, (.iinc 4 1, 3), (0, 0, 0)) := by decide +kernel
theorem xr_188_50 : X_row 188 50 = some (50, (.goto (-37), 3), (0, 0, 0)) := by decide +kernel
theorem xr_188_53 : X_row 188 53 = some (53, (.aload_n 0, 1), (0, 0, 0)) := by decide +kernel
theorem xr_188_54 : X_row 188 54 = some (54, (.getfield 150, 3), (11, 20, 40)) := by decide +kernel
theorem xr_188_57 : X_row 188 57 = some (57, (.iload_n 3, 1), (0, 0, 0)) := by decide +kernel
theorem xr_188_58 : X_row 188 58 = some (58, (.iaload, 1), (0, 0, 0)) := by decide +kernel
theorem xr_188_59 : X_row 188 59 = some (59, (.iconst 1, 1), (0, 0, 0)) := by decide +kernel
theorem xr_188_60 : X_row 188 60 = some (60, (.isub, 1), (0, 0, 0)) := by decide +kernel
theorem xr_188_61 : X_row 188 61 = some (61, (.istore 4, 2), (0, 0, 0)) := by decide +kernel
theorem xr_188_63 : X_row 188 63 = some (63, (.iload 4, 2), (0, 0, 0)) := by decide +kernel
theorem xr_188_65 : X_row 188 65 = some (65, (.ifCond .lt 184, 3), (0, 0, 0)) := by decide +kernel
theorem xr_188_68 : X_row 188 68 = some (68, (.aload_n 0, 1), (0, 0, 0)) := by decide +kernel
theorem xr_188_69 : X_row 188 69 = some (69, (.getfield 168, 3), (11, 25, 50)) := by decide +kernel
theorem xr_188_72 : X_row 188 72 = some (72, (.bipush 8, 2), (0, 0, 0)) := by decide +kernel
theorem xr_188_74 : X_row 188 74 = some (74, (.iload_n 3, 1), (0, 0, 0)) := by decide +kernel
theorem xr_188_75 : X_row 188 75 = some (75, (.imul, 1), (0, 0, 0)) := by decide +kernel
theorem xr_188_76 : X_row 188 76 = some (76, (.iload 4, 2), (0, 0, 0)) := by decide +kernel
theorem xr_188_78 : X_row 188 78 = some (78, (.iadd, 1), (0, 0, 0)) := by decide +kernel
theorem xr_188_79 : X_row 188 79 = some (79, (.laload, 1), (0, 0, 0)) := by decide +kernel
theorem xr_188_80 : X_row 188 80 = some (80, (.lstore 5, 2), (0, 0, 0)) := by decide +kernel
theorem xr_188_82 : X_row 188 82 = some (82, (.iconst 0, 1), (0, 0, 0)) := by decide +kernel
theorem xr_188_83 : X_row 188 83 = some (83, (.istore 7, 2), (0, 0, 0)) := by decide +kernel
theorem xr_188_85 : X_row 188 85 = some (85, (.iload 7, 2), (0, 0, 0)) := by decide +kernel
theorem xr_188_87 : X_row 188 87 = some (87, (.iload_n 2, 1), (0, 0, 0)) := by decide +kernel
theorem xr_188_88 : X_row 188 88 = some (88, (.if_icmp .gt 155, 3), (0, 0, 0)) := by decide +kernel
theorem xr_188_91 : X_row 188 91 = some (91, (.lconst 0, 1), (0, 0, 0)) := by decide +kernel
theorem xr_188_92 : X_row 188 92 = some (92, (.lstore 8, 2), (0, 0, 0)) := by decide +kernel
theorem xr_188_94 : X_row 188 94 = some (94, (.lload 5, 2), (0, 0, 0)) := by decide +kernel
theorem xr_188_96 : X_row 188 96 = some (96, (.lconst 0, 1), (0, 0, 0)) := by decide +kernel
theorem xr_188_97 : X_row 188 97 = some (97, (.lcmp, 1), (0, 0, 0)) := by decide +kernel
theorem xr_188_98 : X_row 188 98 = some (98, (.ifCond .eq 48, 3), (0, 0, 0)) := by decide +kernel
theorem xr_188_101 : X_row 188 101 = some (101, (.iload 7, 2), (0, 0, 0)) := by decide +kernel
theorem xr_188_103 : X_row 188 103 = some (103, (.iload_n 2, 1), (0, 0, 0)) := by decide +kernel
theorem xr_188_104 : X_row 188 104 = some (104, (.if_icmp .ge 36, 3), (0, 0, 0)) := by decide +kernel
theorem xr_188_107 : X_row 188 107 = some (107, (.aload_n 0, 1), (0, 0, 0)) := by decide +kernel
theorem xr_188_108 : X_row 188 108 = some (108, (.getfield 194, 3), (11, 34, 68)) := by decide +kernel
theorem xr_188_111 : X_row 188 111 = some (111, (.iload 7, 2), (0, 0, 0)) := by decide +kernel
theorem xr_188_113 : X_row 188 113 = some (113, (.laload, 1), (0, 0, 0)) := by decide +kernel
theorem xr_188_114 : X_row 188 114 = some (114, (.lload 5, 2), (0, 0, 0)) := by decide +kernel
theorem xr_188_116 : X_row 188 116 = some (116, (.lcmp, 1), (0, 0, 0)) := by decide +kernel
theorem xr_188_117 : X_row 188 117 = some (117, (.ifCond .ne 23, 3), (0, 0, 0)) := by decide +kernel
theorem xr_188_120 : X_row 188 120 = some (120, (.aload_n 0, 1), (0, 0, 0)) := by decide +kernel
theorem xr_188_121 : X_row 188 121 = some (121, (.getfield 270, 3), (11, 62, 124)) := by decide +kernel
theorem xr_188_124 : X_row 188 124 = some (124, (.bipush 32, 2), (0, 0, 0)) := by decide +kernel
theorem xr_188_126 : X_row 188 126 = some (126, (.iload 4, 2), (0, 0, 0)) := by decide +kernel
theorem xr_188_128 : X_row 188 128 = some (128, (.iconst 1, 1), (0, 0, 0)) := by decide +kernel
theorem xr_188_129 : X_row 188 129 = some (129, (.iadd, 1), (0, 0, 0)) := by decide +kernel
theorem xr_188_130 : X_row 188 130 = some (130, (.imul, 1), (0, 0, 0)) := by decide +kernel
theorem xr_188_131 : X_row 188 131 = some (131, (.iload 7, 2), (0, 0, 0)) := by decide +kernel
theorem xr_188_133 : X_row 188 133 = some (133, (.iadd, 1), (0, 0, 0)) := by decide +kernel
theorem xr_188_134 : X_row 188 134 = some (134, (.iconst 1, 1), (0, 0, 0)) := by decide +kernel
theorem xr_188_135 : X_row 188 135 = some (135, (.iadd, 1), (0, 0, 0)) := by decide +kernel
theorem xr_188_136 : X_row 188 136 = some (136, (.laload, 1), (0, 0, 0)) := by decide +kernel
theorem xr_188_137 : X_row 188 137 = some (137, (.goto 4, 3), (0, 0, 0)) := by decide +kernel
theorem xr_188_140 : X_row 188 140 = some (140, (.lconst 0, 1), (0, 0, 0)) := by decide +kernel
theorem xr_188_141 : X_row 188 141 = some (141, (.lstore 8, 2), (0, 0, 0)) := by decide +kernel
theorem xr_188_143 : X_row 188 143 = some (143, (.goto 79, 3), (0, 0, 0)) := by decide +kernel
theorem xr_188_146 : X_row 188 146 = some (146, (.iload 7, 2), (0, 0, 0)) := by decide +kernel
theorem xr_188_148 : X_row 188 148 = some (148, (.iconst 1, 1), (0, 0, 0)) := by decide +kernel
theorem xr_188_149 : X_row 188 149 = some (149, (.iadd, 1), (0, 0, 0)) := by decide +kernel
theorem xr_188_150 : X_row 188 150 = some (150, (.istore 10, 2), (0, 0, 0)) := by decide +kernel
theorem xr_188_152 : X_row 188 152 = some (152, (.iload 10, 2), (0, 0, 0)) := by decide +kernel
theorem xr_188_154 : X_row 188 154 = some (154, (.iload_n 2, 1), (0, 0, 0)) := by decide +kernel
theorem xr_188_155 : X_row 188 155 = some (155, (.if_icmp .gt 67, 3), (0, 0, 0)) := by decide +kernel
theorem xr_188_158 : X_row 188 158 = some (158, (.lload 8, 2), (0, 0, 0)) := by decide +kernel
theorem xr_188_160 : X_row 188 160 = some (160, (.aload_n 0, 1), (0, 0, 0)) := by decide +kernel
theorem xr_188_161 : X_row 188 161 = some (161, (.getfield 213, 3), (11, 41, 82)) := by decide +kernel
theorem xr_188_164 : X_row 188 164 = some (164, (.sipush 961, 3), (0, 0, 0)) := by decide +kernel
theorem xr_188_167 : X_row 188 167 = some (167, (.iconst 4, 1), (0, 0, 0)) := by decide +kernel
theorem xr_188_168 : X_row 188 168 = some (168, (.iload_n 1, 1), (0, 0, 0)) := by decide +kernel
theorem xr_188_169 : X_row 188 169 = some (169, (.imul, 1), (0, 0, 0)) := by decide +kernel
theorem xr_188_170 : X_row 188 170 = some (170, (.aload_n 0, 1), (0, 0, 0)) := by decide +kernel
theorem xr_188_171 : X_row 188 171 = some (171, (.getfield 171, 3), (11, 26, 52)) := by decide +kernel
theorem xr_188_174 : X_row 188 174 = some (174, (.bipush 8, 2), (0, 0, 0)) := by decide +kernel
theorem xr_188_176 : X_row 188 176 = some (176, (.iload_n 3, 1), (0, 0, 0)) := by decide +kernel
theorem xr_188_177 : X_row 188 177 = some (177, (.imul, 1), (0, 0, 0)) := by decide +kernel
theorem xr_188_178 : X_row 188 178 = some (178, (.iload 4, 2), (0, 0, 0)) := by decide +kernel
theorem xr_188_180 : X_row 188 180 = some (180, (.iadd, 1), (0, 0, 0)) := by decide +kernel
theorem xr_188_181 : X_row 188 181 = some (181, (.iaload, 1), (0, 0, 0)) := by decide +kernel
theorem xr_188_182 : X_row 188 182 = some (182, (.iadd, 1), (0, 0, 0)) := by decide +kernel
theorem xr_188_183 : X_row 188 183 = some (183, (.imul, 1), (0, 0, 0)) := by decide +kernel
theorem xr_188_184 : X_row 188 184 = some (184, (.iload 7, 2), (0, 0, 0)) := by decide +kernel
theorem xr_188_186 : X_row 188 186 = some (186, (.iload 10, 2), (0, 0, 0)) := by decide +kernel
theorem xr_188_188 : X_row 188 188 = some (188, (.invokestatic 337, 3), (173, 56, 0)) := by decide +kernel
theorem xr_188_191 : X_row 188 191 = some (191, (.iadd, 1), (0, 0, 0)) := by decide +kernel
theorem xr_188_192 : X_row 188 192 = some (192, (.laload, 1), (0, 0, 0)) := by decide +kernel
theorem xr_188_193 : X_row 188 193 = some (193, (.aload_n 0, 1), (0, 0, 0)) := by decide +kernel
theorem xr_188_194 : X_row 188 194 = some (194, (.getfield 270, 3), (11, 62, 124)) := by decide +kernel
theorem xr_188_197 : X_row 188 197 = some (197, (.bipush 32, 2), (0, 0, 0)) := by decide +kernel
theorem xr_188_199 : X_row 188 199 = some (199, (.iload 4, 2), (0, 0, 0)) := by decide +kernel
theorem xr_188_201 : X_row 188 201 = some (201, (.iconst 1, 1), (0, 0, 0)) := by decide +kernel
theorem xr_188_202 : X_row 188 202 = some (202, (.iadd, 1), (0, 0, 0)) := by decide +kernel
theorem xr_188_203 : X_row 188 203 = some (203, (.imul, 1), (0, 0, 0)) := by decide +kernel
theorem xr_188_204 : X_row 188 204 = some (204, (.iload 10, 2), (0, 0, 0)) := by decide +kernel
theorem xr_188_206 : X_row 188 206 = some (206, (.iadd, 1), (0, 0, 0)) := by decide +kernel
theorem xr_188_207 : X_row 188 207 = some (207, (.laload, 1), (0, 0, 0)) := by decide +kernel
theorem xr_188_208 : X_row 188 208 = some (208, (.invokestatic 366, 3), (172, 62, 0)) := by decide +kernel
theorem xr_188_211 : X_row 188 211 = some (211, (.invokestatic 362, 3), (171, 60, 0)) := by decide +kernel
theorem xr_188_214 : X_row 188 214 = some (214, (.lstore 8, 2), (0, 0, 0)) := by decide +kernel
theorem xr_188_216 : X_row 188 216 = some (216, (.iinc 10 1, 3), (0, 0, 0)) := by decide +kernel
theorem xr_188_219 : X_row 188 219 = some (219, (.goto (-67), 3), (0, 0, 0)) := by decide +kernel
theorem xr_188_222 : X_row 188 222 = some (222, (.aload_n 0, 1), (0, 0, 0)) := by decide +kernel
theorem xr_188_223 : X_row 188 223 = some (223, (.getfield 270, 3), (11, 62, 124)) := by decide +kernel
theorem xr_188_226 : X_row 188 226 = some (226, (.bipush 32, 2), (0, 0, 0)) := by decide +kernel
theorem xr_188_228 : X_row 188 228 = some (228, (.iload 4, 2), (0, 0, 0)) := by decide +kernel
theorem xr_188_230 : X_row 188 230 = some (230, (.imul, 1), (0, 0, 0)) := by decide +kernel
theorem xr_188_231 : X_row 188 231 = some (231, (.iload 7, 2), (0, 0, 0)) := by decide +kernel
theorem xr_188_233 : X_row 188 233 = some (233, (.iadd, 1), (0, 0, 0)) := by decide +kernel
theorem xr_188_234 : X_row 188 234 = some (234, (.lload 8, 2), (0, 0, 0)) := by decide +kernel
theorem xr_188_236 : X_row 188 236 = some (236, (.lastore, 1), (0, 0, 0)) := by decide +kernel
theorem xr_188_237 : X_row 188 237 = some (237, (.iinc 7 1, 3), (0, 0, 0)) := by decide +kernel
theorem xr_188_240 : X_row 188 240 = some (240, (.goto (-155), 3), (0, 0, 0)) := by decide +kernel
theorem xr_188_243 : X_row 188 243 = some (243, (.iinc 4 (-1), 3), (0, 0, 0)) := by decide +kernel
theorem xr_188_246 : X_row 188 246 = some (246, (.goto (-183), 3), (0, 0, 0)) := by decide +kernel
theorem xr_188_249 : X_row 188 249 = some (249, (.return_, 1), (0, 0, 0)) := by decide +kernel
theorem xn_185 : X_nL 185 = 10 := by decide +kernel
theorem xf_185 : X_na 185 = 8 ∧ X_ci 185 = 11 ∧ X_rt 185 = none := by decide +kernel
theorem xn_188 : X_nL 188 = 11 := by decide +kernel
theorem xf_188 : X_na 188 = 2 ∧ X_ci 188 = 11 ∧ X_rt 188 = none := by decide +kernel
set_option maxHeartbeats 1600000 in
theorem r_restWays (sc : X_Sc) (S : X_S) (wM : Int → Int) (eP : Int → Int64) (eH : Int → Int) (tT : Int → Int64) (oW : Int → Int64) (oK : Int → Int64) (oH : Int → Int64) (rr : Int → Int64) (o : Nat → Int) (nm : Int64) (b : Int) (rc : Int) (G : X_G) (tn : Int) (w : Int) (j : Int) (hO530 : S.1 530 = .inr (11, [.ref 531, .int (iI (o 1)), .ref 532, .int (iI (o 3)), .int (iI b), .int (iI (o 5)), .int (iI (o 6)), .int (iI (o 7)), .int (iI (o 8)), .int (iI (o 9)), .int (iI (o 10)), .int (iI (o 11)), .long nm, .ref 533, .ref 534, .ref 535, .ref 536, .ref 537, .ref 538, .ref 539, .ref 540, .ref 541, .ref 542, .ref 543, .ref 544, .ref 545, .ref 546, .ref 547, .int (iI rc), .int (iI (gk G)), .int (iI (gw G)), .int (iI (o 31)), .int (iI (o 32)), .int (iI (o 33)), .ref 548, .ref 549, .ref 550, .ref 551, .int (iI tn), .ref 552, .ref 553, .ref 554, .ref 555, .ref 556, .ref 557, .ref 558, .ref 559, .ref 560, .ref 561, .int (iI (o 49)), .ref 562, .ref 563, .ref 564, .ref 565, .ref 566, .ref 567, .ref 568, .ref 569, .int (iI (o 58)), .ref 570, .ref 571, .ref 572, .ref 573, .ref 574, .ref 575, .ref 576, .ref 577, .ref 578, .int (iI (o 68)), .int (iI (o 69)), .int (iI (o 70)), .ref 579])) (hA540 : S.1 540 = .inl (.int, 60, .inl fun k : Nat => iI (wM (k : Int)))) (hA545 : S.1 545 = .inl (.long, 480, .inr (.inl fun k : Nat => eP (k : Int)))) (hA546 : S.1 546 = .inl (.int, 480, .inl fun k : Nat => iI (eH (k : Int)))) (hA548 : S.1 548 = .inl (.long, 30, .inr (.inl fun k : Nat => tT (k : Int)))) (hA552 : S.1 552 = .inl (.long, 28830, .inr (.inl fun k : Nat => oW (k : Int)))) (hA553 : S.1 553 = .inl (.long, 10571, .inr (.inl fun k : Nat => oK (k : Int)))) (hA554 : S.1 554 = .inl (.long, 115320, .inr (.inl fun k : Nat => oH (k : Int)))) (hA573 : S.1 573 = .inl (.long, 288, .inr (.inl fun k : Nat => rr (k : Int)))) (hbr : 0 ≤ b ∧ b ≤ 1) (hG : X_Gok G) (htn : 0 ≤ tn ∧ tn ≤ 30) (hTT : ∀ t, 0 ≤ t → t < tn → tT t = gt G t) (hWM : ∀ w, 0 ≤ w → w < gw G → wM (30 * b + w) = gD G w 3 0) (hEP : ∀ w, 0 ≤ w → w < gw G → ∀ e, 0 ≤ e → e < gD G w 3 0 → eP (8 * (30 * b + w) + e) = gW G w e) (hEH : ∀ w, 0 ≤ w → w < gw G → ∀ e, 0 ≤ e → e < gD G w 3 0 → gW G w e = 0 → eH (8 * (30 * b + w) + e) = gD G w 8 e) (hw : 0 ≤ w ∧ w < gw G) (hjt : 0 ≤ j ∧ j ≤ tn) (hCt : R_ct G tn oW oK oH) : X_T sc 188 (0, [(0, .ref 530), (1, .int (iI w)), (2, .int (iI j))], [], S) (fun v S' => ∃ (rr1 : Int → Int64), v = none ∧ (∀ e2 p2, -1 < e2 → e2 ≤ gD G w 3 0 → 0 ≤ p2 → p2 ≤ j → rr1 (32 * e2 + p2) = X_st (-1) (X_Ew G (X_T_ G) w e2 p2 j)) ∧ S'.1 573 = .inl (.long, 288, .inr (.inl fun k : Nat => rr1 (k : Int))) ∧ X_Fr (fun q => q = 573) S S') := by
  have hgw := hG.2.2.2 w hw.1 hw.2
  have hsz := hgw.1
  have hgh := hgw.2.1
  have hc1 := hG.1
  refine X_QI (fun Q hQ => ?_)
  refine T_p xr_188_0 xn_188 (pc' := 2) (ls' := [(0, .ref 530), (1, .int (iI w)), (2, .int (iI j))]) (st' := [.int (iI 30)]) rfl ?_
  refine T_p xr_188_2 xn_188 (pc' := 3) (ls' := [(0, .ref 530), (1, .int (iI w)), (2, .int (iI j))]) (st' := [.ref 530, .int (iI 30)]) rfl ?_
  refine T_get xr_188_3 hO530 rfl (v := .int (iI b)) rfl (pc' := 6) rfl ?_
  refine T_zimul xr_188_6 (z := 30 * b) rfl (pc' := 7) rfl ?_
  refine T_p xr_188_7 xn_188 (pc' := 8) (ls' := [(0, .ref 530), (1, .int (iI w)), (2, .int (iI j))]) (st' := [.int (iI w), .int (iI (30 * b))]) rfl ?_
  refine T_ziadd xr_188_8 (z := (30 * b) + w) rfl (pc' := 9) rfl ?_
  refine T_p xr_188_9 xn_188 (pc' := 10) (ls' := [(3, .int (iI ((30 * b) + w))), (0, .ref 530), (1, .int (iI w)), (2, .int (iI j))]) (st' := []) rfl ?_
  refine T_p xr_188_10 xn_188 (pc' := 11) (ls' := [(3, .int (iI ((30 * b) + w))), (0, .ref 530), (1, .int (iI w)), (2, .int (iI j))]) (st' := [.int (iI 0)]) rfl ?_
  refine T_p xr_188_11 xn_188 (pc' := 13) (ls' := [(4, .int (iI 0)), (3, .int (iI ((30 * b) + w))), (0, .ref 530), (1, .int (iI w)), (2, .int (iI j))]) (st' := []) rfl ?_
  have L1459 : ∀ (m1461 : Nat) (S1464 : X_S) (p1 : Int) (ra : Int → Int64) (hra : S1464.1 573 = .inl (.long, 288, .inr (.inl fun k : Nat => ra (k : Int)))) (hF1463 : X_Fr (fun q => q = 573) S S1464) (hp1 : 0 ≤ p1 ∧ p1 ≤ j + 1) (h0 : ∀ p2, 0 ≤ p2 → p2 < p1 → ra (32 * gD G w 3 0 + p2) = X_st (-1) (if p2 = j then 1 else 0)) (hm1462 : j + 1 - p1 < m1461), X_T sc 188 (13, [(4, .int (iI p1)), (3, .int (iI (30 * b + w))), (2, .int (iI j)), (1, .int (iI w)), (0, .ref 530)], [], S1464) Q := by
    intro m1461
    induction m1461 with
    | zero =>
      intro S1464 p1 ra hra hF1463 hp1 h0 hm1462
      exact (show False by omega).elim
    | succ m1461 ih1460 =>
      intro S1464 p1 ra hra hF1463 hp1 h0 hm1462
      refine T_p xr_188_13 xn_188 (pc' := 15) (ls' := [(4, .int (iI p1)), (3, .int (iI (30 * b + w))), (2, .int (iI j)), (1, .int (iI w)), (0, .ref 530)]) (st' := [.int (iI p1)]) rfl ?_
      refine T_p xr_188_15 xn_188 (pc' := 16) (ls' := [(4, .int (iI p1)), (3, .int (iI (30 * b + w))), (2, .int (iI j)), (1, .int (iI w)), (0, .ref 530)]) (st' := [.int (iI j), .int (iI p1)]) rfl ?_
      refine T_zicmp_gt xr_188_16 (t := 53) (pc' := 19) rfl rfl (fun c1465 => ?_) (fun c1465 => ?_)
      · skip
        have c1465 : j < p1 := c1465
        refine T_p xr_188_53 xn_188 (pc' := 54) (ls' := [(4, .int (iI p1)), (3, .int (iI (30 * b + w))), (2, .int (iI j)), (1, .int (iI w)), (0, .ref 530)]) (st' := [.ref 530]) rfl ?_
        have h1466 := (hF1463.1 530 (by omega)).trans (hO530)
        refine T_get xr_188_54 h1466 rfl (v := .ref 540) rfl (pc' := 57) rfl ?_
        refine T_p xr_188_57 xn_188 (pc' := 58) (ls' := [(4, .int (iI p1)), (3, .int (iI (30 * b + w))), (2, .int (iI j)), (1, .int (iI w)), (0, .ref 530)]) (st' := [.int (iI (30 * b + w)), .ref 540]) rfl ?_
        have h1467 := (hF1463.1 540 (by omega)).trans (hA540)
        refine T_ziald xr_188_58 h1467 (pc' := 59) rfl ?_
        refine T_ie (y := iI (gD G w 3 0)) (by rw [hWM w hw.1 hw.2]) ?_
        refine T_p xr_188_59 xn_188 (pc' := 60) (ls' := [(4, .int (iI p1)), (3, .int (iI (30 * b + w))), (2, .int (iI j)), (1, .int (iI w)), (0, .ref 530)]) (st' := [.int (iI 1), .int (iI (gD G w 3 0))]) rfl ?_
        refine T_zisub xr_188_60 (z := (gD G w 3 0) - 1) rfl (pc' := 61) rfl ?_
        refine T_p xr_188_61 xn_188 (pc' := 63) (ls' := [(4, .int (iI ((gD G w 3 0) - 1))), (3, .int (iI (30 * b + w))), (2, .int (iI j)), (1, .int (iI w)), (0, .ref 530)]) (st' := []) rfl ?_
        have L1468 : ∀ (m1470 : Nat) (S1473 : X_S) (e : Int) (rb : Int → Int64) (hrb : S1473.1 573 = .inl (.long, 288, .inr (.inl fun k : Nat => rb (k : Int)))) (hF1472 : X_Fr (fun q => q = 573) S1464 S1473) (hem : -1 ≤ e ∧ e < gD G w 3 0) (hR : ∀ e2 p2, e < e2 → e2 ≤ gD G w 3 0 → 0 ≤ p2 → p2 ≤ j → rb (32 * e2 + p2) = X_st (-1) (X_Ew G (X_T_ G) w e2 p2 j)) (hm1471 : e + 1 < m1470), X_T sc 188 (63, [(4, .int (iI e)), (3, .int (iI (30 * b + w))), (2, .int (iI j)), (1, .int (iI w)), (0, .ref 530)], [], S1473) Q := by
          intro m1470
          induction m1470 with
          | zero =>
            intro S1473 e rb hrb hF1472 hem hR hm1471
            exact (show False by omega).elim
          | succ m1470 ih1469 =>
            intro S1473 e rb hrb hF1472 hem hR hm1471
            refine T_p xr_188_63 xn_188 (pc' := 65) (ls' := [(4, .int (iI e)), (3, .int (iI (30 * b + w))), (2, .int (iI j)), (1, .int (iI w)), (0, .ref 530)]) (st' := [.int (iI e)]) rfl ?_
            refine T_zif_lt xr_188_65 (t := 249) (pc' := 68) rfl rfl (fun c1474 => ?_) (fun c1474 => ?_)
            · skip
              have c1474 : e < 0 := c1474
              refine T_vret xr_188_249 xf_188.2.2 ?_
              refine hQ _ _ ?_
              exact ⟨rb, rfl, (fun e2 p2 h1 h2 h3 h4 => hR e2 p2 (by omega) h2 h3 h4), hrb, ((X_Fr.rf).tr (X_Fr.mono ⟨hF1463.1, hF1463.2⟩ (fun q hq => (by omega)))).tr (X_Fr.mono ⟨hF1472.1, hF1472.2⟩ (fun q hq => (by omega)))⟩
            · skip
              have c1474 : ¬ (e < 0) := c1474
              refine T_p xr_188_68 xn_188 (pc' := 69) (ls' := [(4, .int (iI e)), (3, .int (iI (30 * b + w))), (2, .int (iI j)), (1, .int (iI w)), (0, .ref 530)]) (st' := [.ref 530]) rfl ?_
              have h1475 := (hF1472.1 530 (by omega)).trans (h1466)
              refine T_get xr_188_69 h1475 rfl (v := .ref 545) rfl (pc' := 72) rfl ?_
              refine T_p xr_188_72 xn_188 (pc' := 74) (ls' := [(4, .int (iI e)), (3, .int (iI (30 * b + w))), (2, .int (iI j)), (1, .int (iI w)), (0, .ref 530)]) (st' := [.int (iI 8), .ref 545]) rfl ?_
              refine T_p xr_188_74 xn_188 (pc' := 75) (ls' := [(4, .int (iI e)), (3, .int (iI (30 * b + w))), (2, .int (iI j)), (1, .int (iI w)), (0, .ref 530)]) (st' := [.int (iI (30 * b + w)), .int (iI 8), .ref 545]) rfl ?_
              refine T_zimul xr_188_75 (z := 8 * (30 * b + w)) rfl (pc' := 76) rfl ?_
              refine T_p xr_188_76 xn_188 (pc' := 78) (ls' := [(4, .int (iI e)), (3, .int (iI (30 * b + w))), (2, .int (iI j)), (1, .int (iI w)), (0, .ref 530)]) (st' := [.int (iI e), .int (iI (8 * (30 * b + w))), .ref 545]) rfl ?_
              refine T_ziadd xr_188_78 (z := (8 * (30 * b + w)) + e) rfl (pc' := 79) rfl ?_
              have h1476 := (hF1472.1 545 (by omega)).trans ((hF1463.1 545 (by omega)).trans (hA545))
              refine T_zlald xr_188_79 h1476 (pc' := 80) rfl ?_
              refine T_le (y := (gW G w e)) (by rw [← hEP w hw.1 hw.2 e (by omega) (by omega)]) ?_
              refine T_p xr_188_80 xn_188 (pc' := 82) (ls' := [(5, .long (gW G w e)), (4, .int (iI e)), (3, .int (iI (30 * b + w))), (2, .int (iI j)), (1, .int (iI w)), (0, .ref 530)]) (st' := []) rfl ?_
              refine T_p xr_188_82 xn_188 (pc' := 83) (ls' := [(5, .long (gW G w e)), (4, .int (iI e)), (3, .int (iI (30 * b + w))), (2, .int (iI j)), (1, .int (iI w)), (0, .ref 530)]) (st' := [.int (iI 0)]) rfl ?_
              refine T_p xr_188_83 xn_188 (pc' := 85) (ls' := [(7, .int (iI 0)), (5, .long (gW G w e)), (4, .int (iI e)), (3, .int (iI (30 * b + w))), (2, .int (iI j)), (1, .int (iI w)), (0, .ref 530)]) (st' := []) rfl ?_
              have L1477 : ∀ (m1479 : Nat) (S1482 : X_S) (p : Int) (rc_ : Int → Int64) (hrc : S1482.1 573 = .inl (.long, 288, .inr (.inl fun k : Nat => rc_ (k : Int)))) (hF1481 : X_Fr (fun q => q = 573) S1473 S1482) (he : 0 ≤ e ∧ e < gD G w 3 0) (hp : 0 ≤ p ∧ p ≤ j + 1) (hR2 : ∀ e2 p2, e < e2 → e2 ≤ gD G w 3 0 → 0 ≤ p2 → p2 ≤ j → rc_ (32 * e2 + p2) = X_st (-1) (X_Ew G (X_T_ G) w e2 p2 j)) (hRp : ∀ p2, 0 ≤ p2 → p2 < p → rc_ (32 * e + p2) = X_st (-1) (X_Ew G (X_T_ G) w e p2 j)) (hm1480 : j + 1 - p < m1479), X_T sc 188 (85, [(7, .int (iI p)), (5, .long (gW G w e)), (4, .int (iI e)), (3, .int (iI (30 * b + w))), (2, .int (iI j)), (1, .int (iI w)), (0, .ref 530)], [], S1482) Q := by
                intro m1479
                induction m1479 with
                | zero =>
                  intro S1482 p rc_ hrc hF1481 he hp hR2 hRp hm1480
                  exact (show False by omega).elim
                | succ m1479 ih1478 =>
                  intro S1482 p rc_ hrc hF1481 he hp hR2 hRp hm1480
                  refine T_p xr_188_85 xn_188 (pc' := 87) (ls' := [(7, .int (iI p)), (5, .long (gW G w e)), (4, .int (iI e)), (3, .int (iI (30 * b + w))), (2, .int (iI j)), (1, .int (iI w)), (0, .ref 530)]) (st' := [.int (iI p)]) rfl ?_
                  refine T_p xr_188_87 xn_188 (pc' := 88) (ls' := [(7, .int (iI p)), (5, .long (gW G w e)), (4, .int (iI e)), (3, .int (iI (30 * b + w))), (2, .int (iI j)), (1, .int (iI w)), (0, .ref 530)]) (st' := [.int (iI j), .int (iI p)]) rfl ?_
                  refine T_zicmp_gt xr_188_88 (t := 243) (pc' := 91) rfl rfl (fun c1483 => ?_) (fun c1483 => ?_)
                  · skip
                    have c1483 : j < p := c1483
                    refine T_ziinc xr_188_243 xn_188 (a := e) (z := e - 1) rfl (Nat.le_of_ble_eq_true rfl) (by omega) (ls' := [(4, .int (iI (e - 1))), (7, .int (iI p)), (5, .long (gW G w e)), (3, .int (iI (30 * b + w))), (2, .int (iI j)), (1, .int (iI w)), (0, .ref 530)]) rfl (pc' := 246) rfl ?_
                    refine T_p xr_188_246 xn_188 (pc' := 63) (ls' := [(4, .int (iI (e - 1))), (7, .int (iI p)), (5, .long (gW G w e)), (3, .int (iI (30 * b + w))), (2, .int (iI j)), (1, .int (iI w)), (0, .ref 530)]) (st' := []) rfl ?_
                    refine T_sub (ls := [(4, .int (iI (e - 1))), (3, .int (iI (30 * b + w))), (2, .int (iI j)), (1, .int (iI w)), (0, .ref 530)]) ⟨rfl, rfl, rfl, rfl, rfl, trivial⟩ rfl rfl ?_
                    exact ih1469 S1482 (e - 1) rc_ hrc (hF1472.tr ((X_Fr.rf).tr (X_Fr.mono ⟨hF1481.1, hF1481.2⟩ (fun q hq => (by omega))))) (by omega) (fun e2 p2 h1 h2 h3 h4 => by
                          by_cases he2 : e2 = e
                          · rw [he2]; exact hRp p2 h3 (by omega)
                          · exact hR2 e2 p2 (by omega) h2 h3 h4) (by omega)
                  · skip
                    have c1483 : ¬ (j < p) := c1483
                    refine T_p xr_188_91 xn_188 (pc' := 92) (ls' := [(7, .int (iI p)), (5, .long (gW G w e)), (4, .int (iI e)), (3, .int (iI (30 * b + w))), (2, .int (iI j)), (1, .int (iI w)), (0, .ref 530)]) (st' := [.long (iL 0)]) rfl ?_
                    refine T_p xr_188_92 xn_188 (pc' := 94) (ls' := [(8, .long (iL 0)), (7, .int (iI p)), (5, .long (gW G w e)), (4, .int (iI e)), (3, .int (iI (30 * b + w))), (2, .int (iI j)), (1, .int (iI w)), (0, .ref 530)]) (st' := []) rfl ?_
                    refine T_p xr_188_94 xn_188 (pc' := 96) (ls' := [(8, .long (iL 0)), (7, .int (iI p)), (5, .long (gW G w e)), (4, .int (iI e)), (3, .int (iI (30 * b + w))), (2, .int (iI j)), (1, .int (iI w)), (0, .ref 530)]) (st' := [.long (gW G w e)]) rfl ?_
                    refine T_p xr_188_96 xn_188 (pc' := 97) (ls' := [(8, .long (iL 0)), (7, .int (iI p)), (5, .long (gW G w e)), (4, .int (iI e)), (3, .int (iI (30 * b + w))), (2, .int (iI j)), (1, .int (iI w)), (0, .ref 530)]) (st' := [.long (iL 0), .long (gW G w e)]) rfl ?_
                    refine T_lc_eq xr_188_97 xr_188_98 (t := 146) (pc' := 101) rfl rfl (fun c1484 => ?_) (fun c1484 => ?_)
                    · skip
                      have c1484 : (gW G w e) = (iL 0) := c1484
                      have hq0 : gW G w e = 0 := by first | assumption | exact Classical.not_not.mp (by assumption)
                      have hh8 := hgw.hole he.1 (show e < gD G w 3 0 by omega) hq0
                      refine T_p xr_188_146 xn_188 (pc' := 148) (ls' := [(8, .long (iL 0)), (7, .int (iI p)), (5, .long (gW G w e)), (4, .int (iI e)), (3, .int (iI (30 * b + w))), (2, .int (iI j)), (1, .int (iI w)), (0, .ref 530)]) (st' := [.int (iI p)]) rfl ?_
                      refine T_p xr_188_148 xn_188 (pc' := 149) (ls' := [(8, .long (iL 0)), (7, .int (iI p)), (5, .long (gW G w e)), (4, .int (iI e)), (3, .int (iI (30 * b + w))), (2, .int (iI j)), (1, .int (iI w)), (0, .ref 530)]) (st' := [.int (iI 1), .int (iI p)]) rfl ?_
                      refine T_ziadd xr_188_149 (z := p + 1) rfl (pc' := 150) rfl ?_
                      refine T_p xr_188_150 xn_188 (pc' := 152) (ls' := [(10, .int (iI (p + 1))), (8, .long (iL 0)), (7, .int (iI p)), (5, .long (gW G w e)), (4, .int (iI e)), (3, .int (iI (30 * b + w))), (2, .int (iI j)), (1, .int (iI w)), (0, .ref 530)]) (st' := []) rfl ?_
                      have L1485 : ∀ (m1487 : Nat) (q : Int) (s8 : Int64) (hq : p + 1 ≤ q ∧ q ≤ j + 1) (hs8 : s8 = X_st (-1) (X_Su (fun q => X_Hw G (X_T_ G) w e p q * X_Ew G (X_T_ G) w (e + 1) q j) (p + 1) q)) (hm1488 : j + 1 - q < m1487), X_T sc 188 (152, [(10, .int (iI q)), (8, .long s8), (7, .int (iI p)), (5, .long (gW G w e)), (4, .int (iI e)), (3, .int (iI (30 * b + w))), (2, .int (iI j)), (1, .int (iI w)), (0, .ref 530)], [], S1482) Q := by
                        intro m1487
                        induction m1487 with
                        | zero =>
                          intro q s8 hq hs8 hm1488
                          exact (show False by omega).elim
                        | succ m1487 ih1486 =>
                          intro q s8 hq hs8 hm1488
                          refine T_p xr_188_152 xn_188 (pc' := 154) (ls' := [(10, .int (iI q)), (8, .long s8), (7, .int (iI p)), (5, .long (gW G w e)), (4, .int (iI e)), (3, .int (iI (30 * b + w))), (2, .int (iI j)), (1, .int (iI w)), (0, .ref 530)]) (st' := [.int (iI q)]) rfl ?_
                          refine T_p xr_188_154 xn_188 (pc' := 155) (ls' := [(10, .int (iI q)), (8, .long s8), (7, .int (iI p)), (5, .long (gW G w e)), (4, .int (iI e)), (3, .int (iI (30 * b + w))), (2, .int (iI j)), (1, .int (iI w)), (0, .ref 530)]) (st' := [.int (iI j), .int (iI q)]) rfl ?_
                          refine T_zicmp_gt xr_188_155 (t := 222) (pc' := 158) rfl rfl (fun c1490 => ?_) (fun c1490 => ?_)
                          · skip
                            have c1490 : j < q := c1490
                            refine T_p xr_188_222 xn_188 (pc' := 223) (ls' := [(10, .int (iI q)), (8, .long s8), (7, .int (iI p)), (5, .long (gW G w e)), (4, .int (iI e)), (3, .int (iI (30 * b + w))), (2, .int (iI j)), (1, .int (iI w)), (0, .ref 530)]) (st' := [.ref 530]) rfl ?_
                            have h1491 := (hF1481.1 530 (by omega)).trans (h1475)
                            refine T_get xr_188_223 h1491 rfl (v := .ref 573) rfl (pc' := 226) rfl ?_
                            refine T_p xr_188_226 xn_188 (pc' := 228) (ls' := [(10, .int (iI q)), (8, .long s8), (7, .int (iI p)), (5, .long (gW G w e)), (4, .int (iI e)), (3, .int (iI (30 * b + w))), (2, .int (iI j)), (1, .int (iI w)), (0, .ref 530)]) (st' := [.int (iI 32), .ref 573]) rfl ?_
                            refine T_p xr_188_228 xn_188 (pc' := 230) (ls' := [(10, .int (iI q)), (8, .long s8), (7, .int (iI p)), (5, .long (gW G w e)), (4, .int (iI e)), (3, .int (iI (30 * b + w))), (2, .int (iI j)), (1, .int (iI w)), (0, .ref 530)]) (st' := [.int (iI e), .int (iI 32), .ref 573]) rfl ?_
                            refine T_zimul xr_188_230 (z := 32 * e) rfl (pc' := 231) rfl ?_
                            refine T_p xr_188_231 xn_188 (pc' := 233) (ls' := [(10, .int (iI q)), (8, .long s8), (7, .int (iI p)), (5, .long (gW G w e)), (4, .int (iI e)), (3, .int (iI (30 * b + w))), (2, .int (iI j)), (1, .int (iI w)), (0, .ref 530)]) (st' := [.int (iI p), .int (iI (32 * e)), .ref 573]) rfl ?_
                            refine T_ziadd xr_188_233 (z := (32 * e) + p) rfl (pc' := 234) rfl ?_
                            refine T_p xr_188_234 xn_188 (pc' := 236) (ls' := [(10, .int (iI q)), (8, .long s8), (7, .int (iI p)), (5, .long (gW G w e)), (4, .int (iI e)), (3, .int (iI (30 * b + w))), (2, .int (iI j)), (1, .int (iI w)), (0, .ref 530)]) (st' := [.long s8, .int (iI ((32 * e) + p)), .ref 573]) rfl ?_
                            refine T_zlast xr_188_236 hrc (pc' := 237) rfl (fun S1492 h1493 n1494 e1495 => ?_)
                            refine T_ziinc xr_188_237 xn_188 (a := p) (z := p + 1) rfl (Nat.le_of_ble_eq_true rfl) (by omega) (ls' := [(7, .int (iI (p + 1))), (10, .int (iI q)), (8, .long s8), (5, .long (gW G w e)), (4, .int (iI e)), (3, .int (iI (30 * b + w))), (2, .int (iI j)), (1, .int (iI w)), (0, .ref 530)]) rfl (pc' := 240) rfl ?_
                            refine T_p xr_188_240 xn_188 (pc' := 85) (ls' := [(7, .int (iI (p + 1))), (10, .int (iI q)), (8, .long s8), (5, .long (gW G w e)), (4, .int (iI e)), (3, .int (iI (30 * b + w))), (2, .int (iI j)), (1, .int (iI w)), (0, .ref 530)]) (st' := []) rfl ?_
                            refine T_sub (ls := [(7, .int (iI (p + 1))), (5, .long (gW G w e)), (4, .int (iI e)), (3, .int (iI (30 * b + w))), (2, .int (iI j)), (1, .int (iI w)), (0, .ref 530)]) ⟨rfl, rfl, rfl, rfl, rfl, rfl, rfl, trivial⟩ rfl rfl ?_
                            exact ih1478 S1492 (p + 1) (X_ug rc_ ((32 * e) + p) s8) h1493 (hF1481.tr ((X_Fr.rf).tr (X_Fr.of n1494 e1495 (by omega)))) (by omega) (by omega) (fun e2 p2 h1 h2 h3 h4 => by rw [X_ug_n _ _ (by omega)]; exact hR2 e2 p2 h1 h2 h3 h4) (fun p2 h1 h2 => by
                                  by_cases hp : p2 = p
                                  · rw [hp]
                                    rw [X_ug_s, hs8, X_Ew_h (by omega) hq0, show q = j + 1 by omega]
                                  · rw [X_ug_n _ _ (by omega)]; exact hRp p2 h1 (by omega)) (by omega)
                          · skip
                            have c1490 : ¬ (j < q) := c1490
                            refine T_p xr_188_158 xn_188 (pc' := 160) (ls' := [(10, .int (iI q)), (8, .long s8), (7, .int (iI p)), (5, .long (gW G w e)), (4, .int (iI e)), (3, .int (iI (30 * b + w))), (2, .int (iI j)), (1, .int (iI w)), (0, .ref 530)]) (st' := [.long s8]) rfl ?_
                            refine T_le (y := (X_st (-1) (X_Su (fun q => X_Hw G (X_T_ G) w e p q * X_Ew G (X_T_ G) w (e + 1) q j) (p + 1) q))) hs8 ?_
                            refine T_p xr_188_160 xn_188 (pc' := 161) (ls' := [(10, .int (iI q)), (8, .long s8), (7, .int (iI p)), (5, .long (gW G w e)), (4, .int (iI e)), (3, .int (iI (30 * b + w))), (2, .int (iI j)), (1, .int (iI w)), (0, .ref 530)]) (st' := [.ref 530, .long (X_st (-1) (X_Su (fun q => X_Hw G (X_T_ G) w e p q * X_Ew G (X_T_ G) w (e + 1) q j) (p + 1) q))]) rfl ?_
                            have h1496 := (hF1481.1 530 (by omega)).trans (h1475)
                            refine T_get xr_188_161 h1496 rfl (v := .ref 554) rfl (pc' := 164) rfl ?_
                            refine T_p xr_188_164 xn_188 (pc' := 167) (ls' := [(10, .int (iI q)), (8, .long s8), (7, .int (iI p)), (5, .long (gW G w e)), (4, .int (iI e)), (3, .int (iI (30 * b + w))), (2, .int (iI j)), (1, .int (iI w)), (0, .ref 530)]) (st' := [.int (iI 961), .ref 554, .long (X_st (-1) (X_Su (fun q => X_Hw G (X_T_ G) w e p q * X_Ew G (X_T_ G) w (e + 1) q j) (p + 1) q))]) rfl ?_
                            refine T_p xr_188_167 xn_188 (pc' := 168) (ls' := [(10, .int (iI q)), (8, .long s8), (7, .int (iI p)), (5, .long (gW G w e)), (4, .int (iI e)), (3, .int (iI (30 * b + w))), (2, .int (iI j)), (1, .int (iI w)), (0, .ref 530)]) (st' := [.int (iI 4), .int (iI 961), .ref 554, .long (X_st (-1) (X_Su (fun q => X_Hw G (X_T_ G) w e p q * X_Ew G (X_T_ G) w (e + 1) q j) (p + 1) q))]) rfl ?_
                            refine T_p xr_188_168 xn_188 (pc' := 169) (ls' := [(10, .int (iI q)), (8, .long s8), (7, .int (iI p)), (5, .long (gW G w e)), (4, .int (iI e)), (3, .int (iI (30 * b + w))), (2, .int (iI j)), (1, .int (iI w)), (0, .ref 530)]) (st' := [.int (iI w), .int (iI 4), .int (iI 961), .ref 554, .long (X_st (-1) (X_Su (fun q => X_Hw G (X_T_ G) w e p q * X_Ew G (X_T_ G) w (e + 1) q j) (p + 1) q))]) rfl ?_
                            refine T_zimul xr_188_169 (z := 4 * w) rfl (pc' := 170) rfl ?_
                            refine T_p xr_188_170 xn_188 (pc' := 171) (ls' := [(10, .int (iI q)), (8, .long s8), (7, .int (iI p)), (5, .long (gW G w e)), (4, .int (iI e)), (3, .int (iI (30 * b + w))), (2, .int (iI j)), (1, .int (iI w)), (0, .ref 530)]) (st' := [.ref 530, .int (iI (4 * w)), .int (iI 961), .ref 554, .long (X_st (-1) (X_Su (fun q => X_Hw G (X_T_ G) w e p q * X_Ew G (X_T_ G) w (e + 1) q j) (p + 1) q))]) rfl ?_
                            refine T_get xr_188_171 h1496 rfl (v := .ref 546) rfl (pc' := 174) rfl ?_
                            refine T_p xr_188_174 xn_188 (pc' := 176) (ls' := [(10, .int (iI q)), (8, .long s8), (7, .int (iI p)), (5, .long (gW G w e)), (4, .int (iI e)), (3, .int (iI (30 * b + w))), (2, .int (iI j)), (1, .int (iI w)), (0, .ref 530)]) (st' := [.int (iI 8), .ref 546, .int (iI (4 * w)), .int (iI 961), .ref 554, .long (X_st (-1) (X_Su (fun q => X_Hw G (X_T_ G) w e p q * X_Ew G (X_T_ G) w (e + 1) q j) (p + 1) q))]) rfl ?_
                            refine T_p xr_188_176 xn_188 (pc' := 177) (ls' := [(10, .int (iI q)), (8, .long s8), (7, .int (iI p)), (5, .long (gW G w e)), (4, .int (iI e)), (3, .int (iI (30 * b + w))), (2, .int (iI j)), (1, .int (iI w)), (0, .ref 530)]) (st' := [.int (iI (30 * b + w)), .int (iI 8), .ref 546, .int (iI (4 * w)), .int (iI 961), .ref 554, .long (X_st (-1) (X_Su (fun q => X_Hw G (X_T_ G) w e p q * X_Ew G (X_T_ G) w (e + 1) q j) (p + 1) q))]) rfl ?_
                            refine T_zimul xr_188_177 (z := 8 * (30 * b + w)) rfl (pc' := 178) rfl ?_
                            refine T_p xr_188_178 xn_188 (pc' := 180) (ls' := [(10, .int (iI q)), (8, .long s8), (7, .int (iI p)), (5, .long (gW G w e)), (4, .int (iI e)), (3, .int (iI (30 * b + w))), (2, .int (iI j)), (1, .int (iI w)), (0, .ref 530)]) (st' := [.int (iI e), .int (iI (8 * (30 * b + w))), .ref 546, .int (iI (4 * w)), .int (iI 961), .ref 554, .long (X_st (-1) (X_Su (fun q => X_Hw G (X_T_ G) w e p q * X_Ew G (X_T_ G) w (e + 1) q j) (p + 1) q))]) rfl ?_
                            refine T_ziadd xr_188_180 (z := (8 * (30 * b + w)) + e) rfl (pc' := 181) rfl ?_
                            have h1497 := (hF1481.1 546 (by omega)).trans ((hF1472.1 546 (by omega)).trans ((hF1463.1 546 (by omega)).trans (hA546)))
                            refine T_ziald xr_188_181 h1497 (pc' := 182) rfl ?_
                            refine T_ie (y := iI (gD G w 8 e)) (by rw [← hEH w hw.1 hw.2 e he.1 (by omega) hq0]) ?_
                            refine T_ziadd xr_188_182 (z := (4 * w) + (gD G w 8 e)) rfl (pc' := 183) rfl ?_
                            refine T_zimul xr_188_183 (z := 961 * ((4 * w) + (gD G w 8 e))) rfl (pc' := 184) rfl ?_
                            refine T_p xr_188_184 xn_188 (pc' := 186) (ls' := [(10, .int (iI q)), (8, .long s8), (7, .int (iI p)), (5, .long (gW G w e)), (4, .int (iI e)), (3, .int (iI (30 * b + w))), (2, .int (iI j)), (1, .int (iI w)), (0, .ref 530)]) (st' := [.int (iI p), .int (iI (961 * ((4 * w) + (gD G w 8 e)))), .ref 554, .long (X_st (-1) (X_Su (fun q => X_Hw G (X_T_ G) w e p q * X_Ew G (X_T_ G) w (e + 1) q j) (p + 1) q))]) rfl ?_
                            refine T_p xr_188_186 xn_188 (pc' := 188) (ls' := [(10, .int (iI q)), (8, .long s8), (7, .int (iI p)), (5, .long (gW G w e)), (4, .int (iI e)), (3, .int (iI (30 * b + w))), (2, .int (iI j)), (1, .int (iI w)), (0, .ref 530)]) (st' := [.int (iI q), .int (iI p), .int (iI (961 * ((4 * w) + (gD G w 8 e)))), .ref 554, .long (X_st (-1) (X_Su (fun q => X_Hw G (X_T_ G) w e p q * X_Ew G (X_T_ G) w (e + 1) q j) (p + 1) q))]) rfl ?_
                            refine T_cs xr_188_188 (by decide) xf_173.1 xn_173 (as := [.int (iI p), .int (iI q)]) (r := [.int (iI (961 * ((4 * w) + (gD G w 8 e)))), .ref 554, .long (X_st (-1) (X_Su (fun q => X_Hw G (X_T_ G) w e p q * X_Ew G (X_T_ G) w (e + 1) q j) (p + 1) q))]) rfl (Nat.le_of_ble_eq_true rfl) (Nat.le_of_ble_eq_true rfl) (pc' := 191) rfl (ls' := [(0, .int (iI p)), (1, .int (iI q))]) rfl ?_
                            refine T_p xr_173_0 xn_173 (pc' := 2) (ls' := [(0, .int (iI p)), (1, .int (iI q))]) (st' := [.int (iI 31)]) rfl ?_
                            refine T_p xr_173_2 xn_173 (pc' := 3) (ls' := [(0, .int (iI p)), (1, .int (iI q))]) (st' := [.int (iI p), .int (iI 31)]) rfl ?_
                            refine T_zimul xr_173_3 (z := 31 * p) rfl (pc' := 4) rfl ?_
                            refine T_p xr_173_4 xn_173 (pc' := 5) (ls' := [(0, .int (iI p)), (1, .int (iI q))]) (st' := [.int (iI q), .int (iI (31 * p))]) rfl ?_
                            refine T_ziadd xr_173_5 (z := (31 * p) + q) rfl (pc' := 6) rfl ?_
                            refine T_iret xr_173_6 xf_173.2.2 rfl ?_
                            show X_T sc 188 (191, [(10, .int (iI q)), (8, .long s8), (7, .int (iI p)), (5, .long (gW G w e)), (4, .int (iI e)), (3, .int (iI (30 * b + w))), (2, .int (iI j)), (1, .int (iI w)), (0, .ref 530)], [.int (iI ((31 * p) + q)), .int (iI (961 * ((4 * w) + (gD G w 8 e)))), .ref 554, .long (X_st (-1) (X_Su (fun q => X_Hw G (X_T_ G) w e p q * X_Ew G (X_T_ G) w (e + 1) q j) (p + 1) q))], S1482) _
                            refine T_ziadd xr_188_191 (z := (961 * ((4 * w) + (gD G w 8 e))) + ((31 * p) + q)) rfl (pc' := 192) rfl ?_
                            have h1498 := (hF1481.1 554 (by omega)).trans ((hF1472.1 554 (by omega)).trans ((hF1463.1 554 (by omega)).trans (hA554)))
                            refine T_zlald xr_188_192 h1498 (pc' := 193) rfl ?_
                            refine T_le (y := (X_st (-1) (X_Hw G (X_T_ G) w e p q))) (by
                                    have hr := (hCt p q (by omega) (by omega) (by omega)).2.2 w (by omega) (by omega) (gD G w 8 e) hh8.1 hh8.2
                                    rw [hr, X_Hw_h hgw he.1 (by omega) hq0]) ?_
                            refine T_p xr_188_193 xn_188 (pc' := 194) (ls' := [(10, .int (iI q)), (8, .long s8), (7, .int (iI p)), (5, .long (gW G w e)), (4, .int (iI e)), (3, .int (iI (30 * b + w))), (2, .int (iI j)), (1, .int (iI w)), (0, .ref 530)]) (st' := [.ref 530, .long (X_st (-1) (X_Hw G (X_T_ G) w e p q)), .long (X_st (-1) (X_Su (fun q => X_Hw G (X_T_ G) w e p q * X_Ew G (X_T_ G) w (e + 1) q j) (p + 1) q))]) rfl ?_
                            refine T_get xr_188_194 h1496 rfl (v := .ref 573) rfl (pc' := 197) rfl ?_
                            refine T_p xr_188_197 xn_188 (pc' := 199) (ls' := [(10, .int (iI q)), (8, .long s8), (7, .int (iI p)), (5, .long (gW G w e)), (4, .int (iI e)), (3, .int (iI (30 * b + w))), (2, .int (iI j)), (1, .int (iI w)), (0, .ref 530)]) (st' := [.int (iI 32), .ref 573, .long (X_st (-1) (X_Hw G (X_T_ G) w e p q)), .long (X_st (-1) (X_Su (fun q => X_Hw G (X_T_ G) w e p q * X_Ew G (X_T_ G) w (e + 1) q j) (p + 1) q))]) rfl ?_
                            refine T_p xr_188_199 xn_188 (pc' := 201) (ls' := [(10, .int (iI q)), (8, .long s8), (7, .int (iI p)), (5, .long (gW G w e)), (4, .int (iI e)), (3, .int (iI (30 * b + w))), (2, .int (iI j)), (1, .int (iI w)), (0, .ref 530)]) (st' := [.int (iI e), .int (iI 32), .ref 573, .long (X_st (-1) (X_Hw G (X_T_ G) w e p q)), .long (X_st (-1) (X_Su (fun q => X_Hw G (X_T_ G) w e p q * X_Ew G (X_T_ G) w (e + 1) q j) (p + 1) q))]) rfl ?_
                            refine T_p xr_188_201 xn_188 (pc' := 202) (ls' := [(10, .int (iI q)), (8, .long s8), (7, .int (iI p)), (5, .long (gW G w e)), (4, .int (iI e)), (3, .int (iI (30 * b + w))), (2, .int (iI j)), (1, .int (iI w)), (0, .ref 530)]) (st' := [.int (iI 1), .int (iI e), .int (iI 32), .ref 573, .long (X_st (-1) (X_Hw G (X_T_ G) w e p q)), .long (X_st (-1) (X_Su (fun q => X_Hw G (X_T_ G) w e p q * X_Ew G (X_T_ G) w (e + 1) q j) (p + 1) q))]) rfl ?_
                            refine T_ziadd xr_188_202 (z := e + 1) rfl (pc' := 203) rfl ?_
                            refine T_zimul xr_188_203 (z := 32 * (e + 1)) rfl (pc' := 204) rfl ?_
                            refine T_p xr_188_204 xn_188 (pc' := 206) (ls' := [(10, .int (iI q)), (8, .long s8), (7, .int (iI p)), (5, .long (gW G w e)), (4, .int (iI e)), (3, .int (iI (30 * b + w))), (2, .int (iI j)), (1, .int (iI w)), (0, .ref 530)]) (st' := [.int (iI q), .int (iI (32 * (e + 1))), .ref 573, .long (X_st (-1) (X_Hw G (X_T_ G) w e p q)), .long (X_st (-1) (X_Su (fun q => X_Hw G (X_T_ G) w e p q * X_Ew G (X_T_ G) w (e + 1) q j) (p + 1) q))]) rfl ?_
                            refine T_ziadd xr_188_206 (z := (32 * (e + 1)) + q) rfl (pc' := 207) rfl ?_
                            refine T_zlald xr_188_207 hrc (pc' := 208) rfl ?_
                            refine T_le (y := (X_st (-1) (X_Ew G (X_T_ G) w (e + 1) q j))) (hR2 (e + 1) q (by omega) (by omega) (by omega) (by omega)) ?_
                            refine T_cs xr_188_208 (by decide) xf_172.1 xn_172 (as := [.long (X_st (-1) (X_Hw G (X_T_ G) w e p q)), .long (X_st (-1) (X_Ew G (X_T_ G) w (e + 1) q j))]) (r := [.long (X_st (-1) (X_Su (fun q => X_Hw G (X_T_ G) w e p q * X_Ew G (X_T_ G) w (e + 1) q j) (p + 1) q))]) rfl (Nat.le_of_ble_eq_true rfl) (Nat.le_of_ble_eq_true rfl) (pc' := 211) rfl (ls' := [(0, .long (X_st (-1) (X_Hw G (X_T_ G) w e p q))), (2, .long (X_st (-1) (X_Ew G (X_T_ G) w (e + 1) q j)))]) rfl ?_
                            refine T_mono (r_product sc S1482 (X_Hw G (X_T_ G) w e p q) (X_Ew G (X_T_ G) w (e + 1) q j)) (fun v1499 S1500 h1501 => ?_)
                            rcases h1501 with ⟨hv1502, hf1503⟩
                            rw [hv1502]
                            rw [hf1503]
                            show X_T sc 188 (211, [(10, .int (iI q)), (8, .long s8), (7, .int (iI p)), (5, .long (gW G w e)), (4, .int (iI e)), (3, .int (iI (30 * b + w))), (2, .int (iI j)), (1, .int (iI w)), (0, .ref 530)], [.long (X_st (-1) ((X_Hw G (X_T_ G) w e p q) * (X_Ew G (X_T_ G) w (e + 1) q j))), .long (X_st (-1) (X_Su (fun q => X_Hw G (X_T_ G) w e p q * X_Ew G (X_T_ G) w (e + 1) q j) (p + 1) q))], S1482) _
                            refine T_cs xr_188_211 (by decide) xf_171.1 xn_171 (as := [.long (X_st (-1) (X_Su (fun q => X_Hw G (X_T_ G) w e p q * X_Ew G (X_T_ G) w (e + 1) q j) (p + 1) q)), .long (X_st (-1) ((X_Hw G (X_T_ G) w e p q) * (X_Ew G (X_T_ G) w (e + 1) q j)))]) (r := []) rfl (Nat.le_of_ble_eq_true rfl) (Nat.le_of_ble_eq_true rfl) (pc' := 214) rfl (ls' := [(0, .long (X_st (-1) (X_Su (fun q => X_Hw G (X_T_ G) w e p q * X_Ew G (X_T_ G) w (e + 1) q j) (p + 1) q))), (2, .long (X_st (-1) ((X_Hw G (X_T_ G) w e p q) * (X_Ew G (X_T_ G) w (e + 1) q j))))]) rfl ?_
                            refine T_mono (r_sum sc S1482 (X_Su (fun q => X_Hw G (X_T_ G) w e p q * X_Ew G (X_T_ G) w (e + 1) q j) (p + 1) q) ((X_Hw G (X_T_ G) w e p q) * (X_Ew G (X_T_ G) w (e + 1) q j))) (fun v1504 S1505 h1506 => ?_)
                            rcases h1506 with ⟨hv1507, hf1508⟩
                            rw [hv1507]
                            rw [hf1508]
                            show X_T sc 188 (214, [(10, .int (iI q)), (8, .long s8), (7, .int (iI p)), (5, .long (gW G w e)), (4, .int (iI e)), (3, .int (iI (30 * b + w))), (2, .int (iI j)), (1, .int (iI w)), (0, .ref 530)], [.long (X_st (-1) ((X_Su (fun q => X_Hw G (X_T_ G) w e p q * X_Ew G (X_T_ G) w (e + 1) q j) (p + 1) q) + ((X_Hw G (X_T_ G) w e p q) * (X_Ew G (X_T_ G) w (e + 1) q j))))], S1482) _
                            refine T_p xr_188_214 xn_188 (pc' := 216) (ls' := [(8, .long (X_st (-1) ((X_Su (fun q => X_Hw G (X_T_ G) w e p q * X_Ew G (X_T_ G) w (e + 1) q j) (p + 1) q) + ((X_Hw G (X_T_ G) w e p q) * (X_Ew G (X_T_ G) w (e + 1) q j))))), (10, .int (iI q)), (7, .int (iI p)), (5, .long (gW G w e)), (4, .int (iI e)), (3, .int (iI (30 * b + w))), (2, .int (iI j)), (1, .int (iI w)), (0, .ref 530)]) (st' := []) rfl ?_
                            refine T_ziinc xr_188_216 xn_188 (a := q) (z := q + 1) rfl (Nat.le_of_ble_eq_true rfl) (by omega) (ls' := [(10, .int (iI (q + 1))), (8, .long (X_st (-1) ((X_Su (fun q => X_Hw G (X_T_ G) w e p q * X_Ew G (X_T_ G) w (e + 1) q j) (p + 1) q) + ((X_Hw G (X_T_ G) w e p q) * (X_Ew G (X_T_ G) w (e + 1) q j))))), (7, .int (iI p)), (5, .long (gW G w e)), (4, .int (iI e)), (3, .int (iI (30 * b + w))), (2, .int (iI j)), (1, .int (iI w)), (0, .ref 530)]) rfl (pc' := 219) rfl ?_
                            refine T_p xr_188_219 xn_188 (pc' := 152) (ls' := [(10, .int (iI (q + 1))), (8, .long (X_st (-1) ((X_Su (fun q => X_Hw G (X_T_ G) w e p q * X_Ew G (X_T_ G) w (e + 1) q j) (p + 1) q) + ((X_Hw G (X_T_ G) w e p q) * (X_Ew G (X_T_ G) w (e + 1) q j))))), (7, .int (iI p)), (5, .long (gW G w e)), (4, .int (iI e)), (3, .int (iI (30 * b + w))), (2, .int (iI j)), (1, .int (iI w)), (0, .ref 530)]) (st' := []) rfl ?_
                            exact ih1486 (q + 1) (X_st (-1) ((X_Su (fun q => X_Hw G (X_T_ G) w e p q * X_Ew G (X_T_ G) w (e + 1) q j) (p + 1) q) + ((X_Hw G (X_T_ G) w e p q) * (X_Ew G (X_T_ G) w (e + 1) q j))))  (by omega) (by rw [X_Su_s (by omega)]) (by omega)
                      exact L1485 ((j + 1) + 1).toNat (p + 1) (iL 0)  (by omega) (by rw [X_Su_e (Int.le_refl (p + 1))]; rfl) (by omega)
                    · skip
                      have c1484 : ¬ ((gW G w e) = (iL 0)) := c1484
                      have hq1 : ¬ gW G w e = 0 := by first | assumption | exact fun z => absurd z (by assumption)
                      refine T_p xr_188_101 xn_188 (pc' := 103) (ls' := [(8, .long (iL 0)), (7, .int (iI p)), (5, .long (gW G w e)), (4, .int (iI e)), (3, .int (iI (30 * b + w))), (2, .int (iI j)), (1, .int (iI w)), (0, .ref 530)]) (st' := [.int (iI p)]) rfl ?_
                      refine T_p xr_188_103 xn_188 (pc' := 104) (ls' := [(8, .long (iL 0)), (7, .int (iI p)), (5, .long (gW G w e)), (4, .int (iI e)), (3, .int (iI (30 * b + w))), (2, .int (iI j)), (1, .int (iI w)), (0, .ref 530)]) (st' := [.int (iI j), .int (iI p)]) rfl ?_
                      refine T_zicmp_ge xr_188_104 (t := 140) (pc' := 107) rfl rfl (fun c1509 => ?_) (fun c1509 => ?_)
                      · skip
                        have c1509 : j ≤ p := c1509
                        refine T_p xr_188_140 xn_188 (pc' := 141) (ls' := [(8, .long (iL 0)), (7, .int (iI p)), (5, .long (gW G w e)), (4, .int (iI e)), (3, .int (iI (30 * b + w))), (2, .int (iI j)), (1, .int (iI w)), (0, .ref 530)]) (st' := [.long (iL 0)]) rfl ?_
                        refine T_p xr_188_141 xn_188 (pc' := 143) (ls' := [(8, .long (iL 0)), (7, .int (iI p)), (5, .long (gW G w e)), (4, .int (iI e)), (3, .int (iI (30 * b + w))), (2, .int (iI j)), (1, .int (iI w)), (0, .ref 530)]) (st' := []) rfl ?_
                        refine T_p xr_188_143 xn_188 (pc' := 222) (ls' := [(8, .long (iL 0)), (7, .int (iI p)), (5, .long (gW G w e)), (4, .int (iI e)), (3, .int (iI (30 * b + w))), (2, .int (iI j)), (1, .int (iI w)), (0, .ref 530)]) (st' := []) rfl ?_
                        refine T_p xr_188_222 xn_188 (pc' := 223) (ls' := [(8, .long (iL 0)), (7, .int (iI p)), (5, .long (gW G w e)), (4, .int (iI e)), (3, .int (iI (30 * b + w))), (2, .int (iI j)), (1, .int (iI w)), (0, .ref 530)]) (st' := [.ref 530]) rfl ?_
                        have h1510 := (hF1481.1 530 (by omega)).trans (h1475)
                        refine T_get xr_188_223 h1510 rfl (v := .ref 573) rfl (pc' := 226) rfl ?_
                        refine T_p xr_188_226 xn_188 (pc' := 228) (ls' := [(8, .long (iL 0)), (7, .int (iI p)), (5, .long (gW G w e)), (4, .int (iI e)), (3, .int (iI (30 * b + w))), (2, .int (iI j)), (1, .int (iI w)), (0, .ref 530)]) (st' := [.int (iI 32), .ref 573]) rfl ?_
                        refine T_p xr_188_228 xn_188 (pc' := 230) (ls' := [(8, .long (iL 0)), (7, .int (iI p)), (5, .long (gW G w e)), (4, .int (iI e)), (3, .int (iI (30 * b + w))), (2, .int (iI j)), (1, .int (iI w)), (0, .ref 530)]) (st' := [.int (iI e), .int (iI 32), .ref 573]) rfl ?_
                        refine T_zimul xr_188_230 (z := 32 * e) rfl (pc' := 231) rfl ?_
                        refine T_p xr_188_231 xn_188 (pc' := 233) (ls' := [(8, .long (iL 0)), (7, .int (iI p)), (5, .long (gW G w e)), (4, .int (iI e)), (3, .int (iI (30 * b + w))), (2, .int (iI j)), (1, .int (iI w)), (0, .ref 530)]) (st' := [.int (iI p), .int (iI (32 * e)), .ref 573]) rfl ?_
                        refine T_ziadd xr_188_233 (z := (32 * e) + p) rfl (pc' := 234) rfl ?_
                        refine T_p xr_188_234 xn_188 (pc' := 236) (ls' := [(8, .long (iL 0)), (7, .int (iI p)), (5, .long (gW G w e)), (4, .int (iI e)), (3, .int (iI (30 * b + w))), (2, .int (iI j)), (1, .int (iI w)), (0, .ref 530)]) (st' := [.long (iL 0), .int (iI ((32 * e) + p)), .ref 573]) rfl ?_
                        refine T_zlast xr_188_236 hrc (pc' := 237) rfl (fun S1511 h1512 n1513 e1514 => ?_)
                        refine T_ziinc xr_188_237 xn_188 (a := p) (z := p + 1) rfl (Nat.le_of_ble_eq_true rfl) (by omega) (ls' := [(7, .int (iI (p + 1))), (8, .long (iL 0)), (5, .long (gW G w e)), (4, .int (iI e)), (3, .int (iI (30 * b + w))), (2, .int (iI j)), (1, .int (iI w)), (0, .ref 530)]) rfl (pc' := 240) rfl ?_
                        refine T_p xr_188_240 xn_188 (pc' := 85) (ls' := [(7, .int (iI (p + 1))), (8, .long (iL 0)), (5, .long (gW G w e)), (4, .int (iI e)), (3, .int (iI (30 * b + w))), (2, .int (iI j)), (1, .int (iI w)), (0, .ref 530)]) (st' := []) rfl ?_
                        refine T_sub (ls := [(7, .int (iI (p + 1))), (5, .long (gW G w e)), (4, .int (iI e)), (3, .int (iI (30 * b + w))), (2, .int (iI j)), (1, .int (iI w)), (0, .ref 530)]) ⟨rfl, rfl, rfl, rfl, rfl, rfl, rfl, trivial⟩ rfl rfl ?_
                        exact ih1478 S1511 (p + 1) (X_ug rc_ ((32 * e) + p) (iL 0)) h1512 (hF1481.tr ((X_Fr.rf).tr (X_Fr.of n1513 e1514 (by omega)))) (by omega) (by omega) (fun e2 p2 h1 h2 h3 h4 => by rw [X_ug_n _ _ (by omega)]; exact hR2 e2 p2 h1 h2 h3 h4) (fun p2 h1 h2 => by
                              by_cases hp : p2 = p
                              · rw [hp]
                                rw [X_ug_s, X_Ew_p (by omega) hq1]
                                first
                                | (rw [X_if_t ⟨by omega, by first | assumption | exact Classical.not_not.mp (by assumption)⟩]; done)
                                | (rw [X_if_t ⟨by omega, by first | assumption | exact Classical.not_not.mp (by assumption)⟩, hR2 (e + 1) (p + 1) (by omega) (by omega) (by omega) (by omega)])
                                | (rw [X_if_f (fun z => by first | exact absurd z.1 (by omega) | exact absurd z.2 (by assumption))]; rfl)
                              · rw [X_ug_n _ _ (by omega)]; exact hRp p2 h1 (by omega)) (by omega)
                      · skip
                        have c1509 : ¬ (j ≤ p) := c1509
                        refine T_p xr_188_107 xn_188 (pc' := 108) (ls' := [(8, .long (iL 0)), (7, .int (iI p)), (5, .long (gW G w e)), (4, .int (iI e)), (3, .int (iI (30 * b + w))), (2, .int (iI j)), (1, .int (iI w)), (0, .ref 530)]) (st' := [.ref 530]) rfl ?_
                        have h1515 := (hF1481.1 530 (by omega)).trans (h1475)
                        refine T_get xr_188_108 h1515 rfl (v := .ref 548) rfl (pc' := 111) rfl ?_
                        refine T_p xr_188_111 xn_188 (pc' := 113) (ls' := [(8, .long (iL 0)), (7, .int (iI p)), (5, .long (gW G w e)), (4, .int (iI e)), (3, .int (iI (30 * b + w))), (2, .int (iI j)), (1, .int (iI w)), (0, .ref 530)]) (st' := [.int (iI p), .ref 548]) rfl ?_
                        have h1516 := (hF1481.1 548 (by omega)).trans ((hF1472.1 548 (by omega)).trans ((hF1463.1 548 (by omega)).trans (hA548)))
                        refine T_zlald xr_188_113 h1516 (pc' := 114) rfl ?_
                        refine T_le (y := (gt G p)) (hTT p (by omega) (by omega)) ?_
                        refine T_p xr_188_114 xn_188 (pc' := 116) (ls' := [(8, .long (iL 0)), (7, .int (iI p)), (5, .long (gW G w e)), (4, .int (iI e)), (3, .int (iI (30 * b + w))), (2, .int (iI j)), (1, .int (iI w)), (0, .ref 530)]) (st' := [.long (gW G w e), .long (gt G p)]) rfl ?_
                        refine T_lc_ne xr_188_116 xr_188_117 (t := 140) (pc' := 120) rfl rfl (fun c1517 => ?_) (fun c1517 => ?_)
                        · skip
                          have c1517 : ¬ (gt G p) = (gW G w e) := c1517
                          refine T_p xr_188_140 xn_188 (pc' := 141) (ls' := [(8, .long (iL 0)), (7, .int (iI p)), (5, .long (gW G w e)), (4, .int (iI e)), (3, .int (iI (30 * b + w))), (2, .int (iI j)), (1, .int (iI w)), (0, .ref 530)]) (st' := [.long (iL 0)]) rfl ?_
                          refine T_p xr_188_141 xn_188 (pc' := 143) (ls' := [(8, .long (iL 0)), (7, .int (iI p)), (5, .long (gW G w e)), (4, .int (iI e)), (3, .int (iI (30 * b + w))), (2, .int (iI j)), (1, .int (iI w)), (0, .ref 530)]) (st' := []) rfl ?_
                          refine T_p xr_188_143 xn_188 (pc' := 222) (ls' := [(8, .long (iL 0)), (7, .int (iI p)), (5, .long (gW G w e)), (4, .int (iI e)), (3, .int (iI (30 * b + w))), (2, .int (iI j)), (1, .int (iI w)), (0, .ref 530)]) (st' := []) rfl ?_
                          refine T_p xr_188_222 xn_188 (pc' := 223) (ls' := [(8, .long (iL 0)), (7, .int (iI p)), (5, .long (gW G w e)), (4, .int (iI e)), (3, .int (iI (30 * b + w))), (2, .int (iI j)), (1, .int (iI w)), (0, .ref 530)]) (st' := [.ref 530]) rfl ?_
                          refine T_get xr_188_223 h1515 rfl (v := .ref 573) rfl (pc' := 226) rfl ?_
                          refine T_p xr_188_226 xn_188 (pc' := 228) (ls' := [(8, .long (iL 0)), (7, .int (iI p)), (5, .long (gW G w e)), (4, .int (iI e)), (3, .int (iI (30 * b + w))), (2, .int (iI j)), (1, .int (iI w)), (0, .ref 530)]) (st' := [.int (iI 32), .ref 573]) rfl ?_
                          refine T_p xr_188_228 xn_188 (pc' := 230) (ls' := [(8, .long (iL 0)), (7, .int (iI p)), (5, .long (gW G w e)), (4, .int (iI e)), (3, .int (iI (30 * b + w))), (2, .int (iI j)), (1, .int (iI w)), (0, .ref 530)]) (st' := [.int (iI e), .int (iI 32), .ref 573]) rfl ?_
                          refine T_zimul xr_188_230 (z := 32 * e) rfl (pc' := 231) rfl ?_
                          refine T_p xr_188_231 xn_188 (pc' := 233) (ls' := [(8, .long (iL 0)), (7, .int (iI p)), (5, .long (gW G w e)), (4, .int (iI e)), (3, .int (iI (30 * b + w))), (2, .int (iI j)), (1, .int (iI w)), (0, .ref 530)]) (st' := [.int (iI p), .int (iI (32 * e)), .ref 573]) rfl ?_
                          refine T_ziadd xr_188_233 (z := (32 * e) + p) rfl (pc' := 234) rfl ?_
                          refine T_p xr_188_234 xn_188 (pc' := 236) (ls' := [(8, .long (iL 0)), (7, .int (iI p)), (5, .long (gW G w e)), (4, .int (iI e)), (3, .int (iI (30 * b + w))), (2, .int (iI j)), (1, .int (iI w)), (0, .ref 530)]) (st' := [.long (iL 0), .int (iI ((32 * e) + p)), .ref 573]) rfl ?_
                          refine T_zlast xr_188_236 hrc (pc' := 237) rfl (fun S1518 h1519 n1520 e1521 => ?_)
                          refine T_ziinc xr_188_237 xn_188 (a := p) (z := p + 1) rfl (Nat.le_of_ble_eq_true rfl) (by omega) (ls' := [(7, .int (iI (p + 1))), (8, .long (iL 0)), (5, .long (gW G w e)), (4, .int (iI e)), (3, .int (iI (30 * b + w))), (2, .int (iI j)), (1, .int (iI w)), (0, .ref 530)]) rfl (pc' := 240) rfl ?_
                          refine T_p xr_188_240 xn_188 (pc' := 85) (ls' := [(7, .int (iI (p + 1))), (8, .long (iL 0)), (5, .long (gW G w e)), (4, .int (iI e)), (3, .int (iI (30 * b + w))), (2, .int (iI j)), (1, .int (iI w)), (0, .ref 530)]) (st' := []) rfl ?_
                          refine T_sub (ls := [(7, .int (iI (p + 1))), (5, .long (gW G w e)), (4, .int (iI e)), (3, .int (iI (30 * b + w))), (2, .int (iI j)), (1, .int (iI w)), (0, .ref 530)]) ⟨rfl, rfl, rfl, rfl, rfl, rfl, rfl, trivial⟩ rfl rfl ?_
                          exact ih1478 S1518 (p + 1) (X_ug rc_ ((32 * e) + p) (iL 0)) h1519 (hF1481.tr ((X_Fr.rf).tr (X_Fr.of n1520 e1521 (by omega)))) (by omega) (by omega) (fun e2 p2 h1 h2 h3 h4 => by rw [X_ug_n _ _ (by omega)]; exact hR2 e2 p2 h1 h2 h3 h4) (fun p2 h1 h2 => by
                                by_cases hp : p2 = p
                                · rw [hp]
                                  rw [X_ug_s, X_Ew_p (by omega) hq1]
                                  first
                                  | (rw [X_if_t ⟨by omega, by first | assumption | exact Classical.not_not.mp (by assumption)⟩]; done)
                                  | (rw [X_if_t ⟨by omega, by first | assumption | exact Classical.not_not.mp (by assumption)⟩, hR2 (e + 1) (p + 1) (by omega) (by omega) (by omega) (by omega)])
                                  | (rw [X_if_f (fun z => by first | exact absurd z.1 (by omega) | exact absurd z.2 (by assumption))]; rfl)
                                · rw [X_ug_n _ _ (by omega)]; exact hRp p2 h1 (by omega)) (by omega)
                        · skip
                          have c1517 : ¬ (¬ (gt G p) = (gW G w e)) := c1517
                          refine T_p xr_188_120 xn_188 (pc' := 121) (ls' := [(8, .long (iL 0)), (7, .int (iI p)), (5, .long (gW G w e)), (4, .int (iI e)), (3, .int (iI (30 * b + w))), (2, .int (iI j)), (1, .int (iI w)), (0, .ref 530)]) (st' := [.ref 530]) rfl ?_
                          refine T_get xr_188_121 h1515 rfl (v := .ref 573) rfl (pc' := 124) rfl ?_
                          refine T_p xr_188_124 xn_188 (pc' := 126) (ls' := [(8, .long (iL 0)), (7, .int (iI p)), (5, .long (gW G w e)), (4, .int (iI e)), (3, .int (iI (30 * b + w))), (2, .int (iI j)), (1, .int (iI w)), (0, .ref 530)]) (st' := [.int (iI 32), .ref 573]) rfl ?_
                          refine T_p xr_188_126 xn_188 (pc' := 128) (ls' := [(8, .long (iL 0)), (7, .int (iI p)), (5, .long (gW G w e)), (4, .int (iI e)), (3, .int (iI (30 * b + w))), (2, .int (iI j)), (1, .int (iI w)), (0, .ref 530)]) (st' := [.int (iI e), .int (iI 32), .ref 573]) rfl ?_
                          refine T_p xr_188_128 xn_188 (pc' := 129) (ls' := [(8, .long (iL 0)), (7, .int (iI p)), (5, .long (gW G w e)), (4, .int (iI e)), (3, .int (iI (30 * b + w))), (2, .int (iI j)), (1, .int (iI w)), (0, .ref 530)]) (st' := [.int (iI 1), .int (iI e), .int (iI 32), .ref 573]) rfl ?_
                          refine T_ziadd xr_188_129 (z := e + 1) rfl (pc' := 130) rfl ?_
                          refine T_zimul xr_188_130 (z := 32 * (e + 1)) rfl (pc' := 131) rfl ?_
                          refine T_p xr_188_131 xn_188 (pc' := 133) (ls' := [(8, .long (iL 0)), (7, .int (iI p)), (5, .long (gW G w e)), (4, .int (iI e)), (3, .int (iI (30 * b + w))), (2, .int (iI j)), (1, .int (iI w)), (0, .ref 530)]) (st' := [.int (iI p), .int (iI (32 * (e + 1))), .ref 573]) rfl ?_
                          refine T_ziadd xr_188_133 (z := (32 * (e + 1)) + p) rfl (pc' := 134) rfl ?_
                          refine T_p xr_188_134 xn_188 (pc' := 135) (ls' := [(8, .long (iL 0)), (7, .int (iI p)), (5, .long (gW G w e)), (4, .int (iI e)), (3, .int (iI (30 * b + w))), (2, .int (iI j)), (1, .int (iI w)), (0, .ref 530)]) (st' := [.int (iI 1), .int (iI ((32 * (e + 1)) + p)), .ref 573]) rfl ?_
                          refine T_ziadd xr_188_135 (z := ((32 * (e + 1)) + p) + 1) rfl (pc' := 136) rfl ?_
                          refine T_zlald xr_188_136 hrc (pc' := 137) rfl ?_
                          refine T_le (y := (X_st (-1) (X_Ew G (X_T_ G) w (e + 1) (p + 1) j))) (by rw [← hR2 (e + 1) (p + 1) (by omega) (by omega) (by omega) (by omega)]; congr 1; omega) ?_
                          refine T_p xr_188_137 xn_188 (pc' := 141) (ls' := [(8, .long (iL 0)), (7, .int (iI p)), (5, .long (gW G w e)), (4, .int (iI e)), (3, .int (iI (30 * b + w))), (2, .int (iI j)), (1, .int (iI w)), (0, .ref 530)]) (st' := [.long (X_st (-1) (X_Ew G (X_T_ G) w (e + 1) (p + 1) j))]) rfl ?_
                          refine T_p xr_188_141 xn_188 (pc' := 143) (ls' := [(8, .long (X_st (-1) (X_Ew G (X_T_ G) w (e + 1) (p + 1) j))), (7, .int (iI p)), (5, .long (gW G w e)), (4, .int (iI e)), (3, .int (iI (30 * b + w))), (2, .int (iI j)), (1, .int (iI w)), (0, .ref 530)]) (st' := []) rfl ?_
                          refine T_p xr_188_143 xn_188 (pc' := 222) (ls' := [(8, .long (X_st (-1) (X_Ew G (X_T_ G) w (e + 1) (p + 1) j))), (7, .int (iI p)), (5, .long (gW G w e)), (4, .int (iI e)), (3, .int (iI (30 * b + w))), (2, .int (iI j)), (1, .int (iI w)), (0, .ref 530)]) (st' := []) rfl ?_
                          refine T_p xr_188_222 xn_188 (pc' := 223) (ls' := [(8, .long (X_st (-1) (X_Ew G (X_T_ G) w (e + 1) (p + 1) j))), (7, .int (iI p)), (5, .long (gW G w e)), (4, .int (iI e)), (3, .int (iI (30 * b + w))), (2, .int (iI j)), (1, .int (iI w)), (0, .ref 530)]) (st' := [.ref 530]) rfl ?_
                          refine T_get xr_188_223 h1515 rfl (v := .ref 573) rfl (pc' := 226) rfl ?_
                          refine T_p xr_188_226 xn_188 (pc' := 228) (ls' := [(8, .long (X_st (-1) (X_Ew G (X_T_ G) w (e + 1) (p + 1) j))), (7, .int (iI p)), (5, .long (gW G w e)), (4, .int (iI e)), (3, .int (iI (30 * b + w))), (2, .int (iI j)), (1, .int (iI w)), (0, .ref 530)]) (st' := [.int (iI 32), .ref 573]) rfl ?_
                          refine T_p xr_188_228 xn_188 (pc' := 230) (ls' := [(8, .long (X_st (-1) (X_Ew G (X_T_ G) w (e + 1) (p + 1) j))), (7, .int (iI p)), (5, .long (gW G w e)), (4, .int (iI e)), (3, .int (iI (30 * b + w))), (2, .int (iI j)), (1, .int (iI w)), (0, .ref 530)]) (st' := [.int (iI e), .int (iI 32), .ref 573]) rfl ?_
                          refine T_zimul xr_188_230 (z := 32 * e) rfl (pc' := 231) rfl ?_
                          refine T_p xr_188_231 xn_188 (pc' := 233) (ls' := [(8, .long (X_st (-1) (X_Ew G (X_T_ G) w (e + 1) (p + 1) j))), (7, .int (iI p)), (5, .long (gW G w e)), (4, .int (iI e)), (3, .int (iI (30 * b + w))), (2, .int (iI j)), (1, .int (iI w)), (0, .ref 530)]) (st' := [.int (iI p), .int (iI (32 * e)), .ref 573]) rfl ?_
                          refine T_ziadd xr_188_233 (z := (32 * e) + p) rfl (pc' := 234) rfl ?_
                          refine T_p xr_188_234 xn_188 (pc' := 236) (ls' := [(8, .long (X_st (-1) (X_Ew G (X_T_ G) w (e + 1) (p + 1) j))), (7, .int (iI p)), (5, .long (gW G w e)), (4, .int (iI e)), (3, .int (iI (30 * b + w))), (2, .int (iI j)), (1, .int (iI w)), (0, .ref 530)]) (st' := [.long (X_st (-1) (X_Ew G (X_T_ G) w (e + 1) (p + 1) j)), .int (iI ((32 * e) + p)), .ref 573]) rfl ?_
                          refine T_zlast xr_188_236 hrc (pc' := 237) rfl (fun S1522 h1523 n1524 e1525 => ?_)
                          refine T_ziinc xr_188_237 xn_188 (a := p) (z := p + 1) rfl (Nat.le_of_ble_eq_true rfl) (by omega) (ls' := [(7, .int (iI (p + 1))), (8, .long (X_st (-1) (X_Ew G (X_T_ G) w (e + 1) (p + 1) j))), (5, .long (gW G w e)), (4, .int (iI e)), (3, .int (iI (30 * b + w))), (2, .int (iI j)), (1, .int (iI w)), (0, .ref 530)]) rfl (pc' := 240) rfl ?_
                          refine T_p xr_188_240 xn_188 (pc' := 85) (ls' := [(7, .int (iI (p + 1))), (8, .long (X_st (-1) (X_Ew G (X_T_ G) w (e + 1) (p + 1) j))), (5, .long (gW G w e)), (4, .int (iI e)), (3, .int (iI (30 * b + w))), (2, .int (iI j)), (1, .int (iI w)), (0, .ref 530)]) (st' := []) rfl ?_
                          refine T_sub (ls := [(7, .int (iI (p + 1))), (5, .long (gW G w e)), (4, .int (iI e)), (3, .int (iI (30 * b + w))), (2, .int (iI j)), (1, .int (iI w)), (0, .ref 530)]) ⟨rfl, rfl, rfl, rfl, rfl, rfl, rfl, trivial⟩ rfl rfl ?_
                          exact ih1478 S1522 (p + 1) (X_ug rc_ ((32 * e) + p) (X_st (-1) (X_Ew G (X_T_ G) w (e + 1) (p + 1) j))) h1523 (hF1481.tr ((X_Fr.rf).tr (X_Fr.of n1524 e1525 (by omega)))) (by omega) (by omega) (fun e2 p2 h1 h2 h3 h4 => by rw [X_ug_n _ _ (by omega)]; exact hR2 e2 p2 h1 h2 h3 h4) (fun p2 h1 h2 => by
                                by_cases hp : p2 = p
                                · rw [hp]
                                  rw [X_ug_s, X_Ew_p (by omega) hq1]
                                  first
                                  | (rw [X_if_t ⟨by omega, by first | assumption | exact Classical.not_not.mp (by assumption)⟩]; done)
                                  | (rw [X_if_t ⟨by omega, by first | assumption | exact Classical.not_not.mp (by assumption)⟩, hR2 (e + 1) (p + 1) (by omega) (by omega) (by omega) (by omega)])
                                  | (rw [X_if_f (fun z => by first | exact absurd z.1 (by omega) | exact absurd z.2 (by assumption))]; rfl)
                                · rw [X_ug_n _ _ (by omega)]; exact hRp p2 h1 (by omega)) (by omega)
              exact L1477 ((j + 1) + 1).toNat S1473 0 rb hrb ((X_Fr.rf)) (by omega) (by omega) hR (fun q h1 h2 => absurd h2 (by omega)) (by omega)
        exact L1468 ((gD G w 3 0) + 1).toNat S1464 ((gD G w 3 0) - 1) ra hra ((X_Fr.rf)) (by omega) (fun e2 p2 h1 h2 h3 h4 => by rw [show e2 = gD G w 3 0 by omega, h0 p2 h3 (by omega), X_Ew_e rfl]) (by omega)
      · skip
        have c1465 : ¬ (j < p1) := c1465
        refine T_p xr_188_19 xn_188 (pc' := 20) (ls' := [(4, .int (iI p1)), (3, .int (iI (30 * b + w))), (2, .int (iI j)), (1, .int (iI w)), (0, .ref 530)]) (st' := [.ref 530]) rfl ?_
        have h1526 := (hF1463.1 530 (by omega)).trans (hO530)
        refine T_get xr_188_20 h1526 rfl (v := .ref 573) rfl (pc' := 23) rfl ?_
        refine T_p xr_188_23 xn_188 (pc' := 25) (ls' := [(4, .int (iI p1)), (3, .int (iI (30 * b + w))), (2, .int (iI j)), (1, .int (iI w)), (0, .ref 530)]) (st' := [.int (iI 32), .ref 573]) rfl ?_
        refine T_p xr_188_25 xn_188 (pc' := 26) (ls' := [(4, .int (iI p1)), (3, .int (iI (30 * b + w))), (2, .int (iI j)), (1, .int (iI w)), (0, .ref 530)]) (st' := [.ref 530, .int (iI 32), .ref 573]) rfl ?_
        refine T_get xr_188_26 h1526 rfl (v := .ref 540) rfl (pc' := 29) rfl ?_
        refine T_p xr_188_29 xn_188 (pc' := 30) (ls' := [(4, .int (iI p1)), (3, .int (iI (30 * b + w))), (2, .int (iI j)), (1, .int (iI w)), (0, .ref 530)]) (st' := [.int (iI (30 * b + w)), .ref 540, .int (iI 32), .ref 573]) rfl ?_
        have h1527 := (hF1463.1 540 (by omega)).trans (hA540)
        refine T_ziald xr_188_30 h1527 (pc' := 31) rfl ?_
        refine T_ie (y := iI (gD G w 3 0)) (by rw [hWM w hw.1 hw.2]) ?_
        refine T_zimul xr_188_31 (z := 32 * (gD G w 3 0)) rfl (pc' := 32) rfl ?_
        refine T_p xr_188_32 xn_188 (pc' := 34) (ls' := [(4, .int (iI p1)), (3, .int (iI (30 * b + w))), (2, .int (iI j)), (1, .int (iI w)), (0, .ref 530)]) (st' := [.int (iI p1), .int (iI (32 * (gD G w 3 0))), .ref 573]) rfl ?_
        refine T_ziadd xr_188_34 (z := (32 * (gD G w 3 0)) + p1) rfl (pc' := 35) rfl ?_
        refine T_p xr_188_35 xn_188 (pc' := 37) (ls' := [(4, .int (iI p1)), (3, .int (iI (30 * b + w))), (2, .int (iI j)), (1, .int (iI w)), (0, .ref 530)]) (st' := [.int (iI p1), .int (iI ((32 * (gD G w 3 0)) + p1)), .ref 573]) rfl ?_
        refine T_p xr_188_37 xn_188 (pc' := 38) (ls' := [(4, .int (iI p1)), (3, .int (iI (30 * b + w))), (2, .int (iI j)), (1, .int (iI w)), (0, .ref 530)]) (st' := [.int (iI j), .int (iI p1), .int (iI ((32 * (gD G w 3 0)) + p1)), .ref 573]) rfl ?_
        refine T_zicmp_ne xr_188_38 (t := 45) (pc' := 41) rfl rfl (fun c1528 => ?_) (fun c1528 => ?_)
        · skip
          have c1528 : ¬ p1 = j := c1528
          refine T_p xr_188_45 xn_188 (pc' := 46) (ls' := [(4, .int (iI p1)), (3, .int (iI (30 * b + w))), (2, .int (iI j)), (1, .int (iI w)), (0, .ref 530)]) (st' := [.long (iL 0), .int (iI ((32 * (gD G w 3 0)) + p1)), .ref 573]) rfl ?_
          refine T_zlast xr_188_46 hra (pc' := 47) rfl (fun S1529 h1530 n1531 e1532 => ?_)
          refine T_ziinc xr_188_47 xn_188 (a := p1) (z := p1 + 1) rfl (Nat.le_of_ble_eq_true rfl) (by omega) (ls' := [(4, .int (iI (p1 + 1))), (3, .int (iI (30 * b + w))), (2, .int (iI j)), (1, .int (iI w)), (0, .ref 530)]) rfl (pc' := 50) rfl ?_
          refine T_p xr_188_50 xn_188 (pc' := 13) (ls' := [(4, .int (iI (p1 + 1))), (3, .int (iI (30 * b + w))), (2, .int (iI j)), (1, .int (iI w)), (0, .ref 530)]) (st' := []) rfl ?_
          exact ih1460 S1529 (p1 + 1) (X_ug ra ((32 * (gD G w 3 0)) + p1) (iL 0)) h1530 (hF1463.tr ((X_Fr.rf).tr (X_Fr.of n1531 e1532 (by omega)))) (by omega) (fun q h1 h2 => by
                by_cases hq : q = p1
                · rw [hq, X_ug_s]; first | (rw [if_pos (by omega)]; rfl) | (rw [if_neg (by omega)]; rfl)
                · rw [X_ug_n _ _ (by omega)]; exact h0 q h1 (by omega)) (by omega)
        · skip
          have c1528 : ¬ (¬ p1 = j) := c1528
          refine T_p xr_188_41 xn_188 (pc' := 42) (ls' := [(4, .int (iI p1)), (3, .int (iI (30 * b + w))), (2, .int (iI j)), (1, .int (iI w)), (0, .ref 530)]) (st' := [.long (iL 1), .int (iI ((32 * (gD G w 3 0)) + p1)), .ref 573]) rfl ?_
          refine T_p xr_188_42 xn_188 (pc' := 46) (ls' := [(4, .int (iI p1)), (3, .int (iI (30 * b + w))), (2, .int (iI j)), (1, .int (iI w)), (0, .ref 530)]) (st' := [.long (iL 1), .int (iI ((32 * (gD G w 3 0)) + p1)), .ref 573]) rfl ?_
          refine T_zlast xr_188_46 hra (pc' := 47) rfl (fun S1533 h1534 n1535 e1536 => ?_)
          refine T_ziinc xr_188_47 xn_188 (a := p1) (z := p1 + 1) rfl (Nat.le_of_ble_eq_true rfl) (by omega) (ls' := [(4, .int (iI (p1 + 1))), (3, .int (iI (30 * b + w))), (2, .int (iI j)), (1, .int (iI w)), (0, .ref 530)]) rfl (pc' := 50) rfl ?_
          refine T_p xr_188_50 xn_188 (pc' := 13) (ls' := [(4, .int (iI (p1 + 1))), (3, .int (iI (30 * b + w))), (2, .int (iI j)), (1, .int (iI w)), (0, .ref 530)]) (st' := []) rfl ?_
          exact ih1460 S1533 (p1 + 1) (X_ug ra ((32 * (gD G w 3 0)) + p1) (iL 1)) h1534 (hF1463.tr ((X_Fr.rf).tr (X_Fr.of n1535 e1536 (by omega)))) (by omega) (fun q h1 h2 => by
                by_cases hq : q = p1
                · rw [hq, X_ug_s]; first | (rw [if_pos (by omega)]; rfl) | (rw [if_neg (by omega)]; rfl)
                · rw [X_ug_n _ _ (by omega)]; exact h0 q h1 (by omega)) (by omega)
  refine T_sub (ls := [(4, .int (iI 0)), (3, .int (iI ((30 * b) + w))), (2, .int (iI j)), (1, .int (iI w)), (0, .ref 530)]) ⟨rfl, rfl, rfl, rfl, rfl, trivial⟩ rfl rfl ?_
  exact L1459 ((j + 1) + 1).toNat S 0 rr hA573 ((X_Fr.rf)) (by omega) (fun q h1 h2 => absurd h2 (by omega)) (by omega)
theorem r_pile (sc : X_Sc) (S : X_S) (pF : Int → Int) (pT : Int → Int) (pS : Int → Int) (pH : Int → Int) (pW : Int → Int) (pP : Int → Int) (pQ : Int → Int) (pN : Int → Int64) (o : Nat → Int) (nm : Int64) (b : Int) (rc : Int) (G : X_G) (tn : Int) (hp : Int) (a1 : Int) (a2 : Int) (a3 : Int) (a4 : Int) (a5 : Int) (a6 : Int) (a7 : Int) (kn : Int64) (hO530 : S.1 530 = .inr (11, [.ref 531, .int (iI (o 1)), .ref 532, .int (iI (o 3)), .int (iI b), .int (iI (o 5)), .int (iI (o 6)), .int (iI (o 7)), .int (iI (o 8)), .int (iI (o 9)), .int (iI (o 10)), .int (iI (o 11)), .long nm, .ref 533, .ref 534, .ref 535, .ref 536, .ref 537, .ref 538, .ref 539, .ref 540, .ref 541, .ref 542, .ref 543, .ref 544, .ref 545, .ref 546, .ref 547, .int (iI rc), .int (iI (gk G)), .int (iI (gw G)), .int (iI (o 31)), .int (iI (o 32)), .int (iI (o 33)), .ref 548, .ref 549, .ref 550, .ref 551, .int (iI tn), .ref 552, .ref 553, .ref 554, .ref 555, .ref 556, .ref 557, .ref 558, .ref 559, .ref 560, .ref 561, .int (iI (o 49)), .ref 562, .ref 563, .ref 564, .ref 565, .ref 566, .ref 567, .ref 568, .ref 569, .int (iI hp), .ref 570, .ref 571, .ref 572, .ref 573, .ref 574, .ref 575, .ref 576, .ref 577, .ref 578, .int (iI (o 68)), .int (iI (o 69)), .int (iI (o 70)), .ref 579])) (hA562 : S.1 562 = .inl (.int, 160, .inl fun k : Nat => iI (pF (k : Int)))) (hA563 : S.1 563 = .inl (.int, 160, .inl fun k : Nat => iI (pT (k : Int)))) (hA564 : S.1 564 = .inl (.int, 160, .inl fun k : Nat => iI (pS (k : Int)))) (hA565 : S.1 565 = .inl (.int, 160, .inl fun k : Nat => iI (pH (k : Int)))) (hA566 : S.1 566 = .inl (.int, 160, .inl fun k : Nat => iI (pW (k : Int)))) (hA567 : S.1 567 = .inl (.int, 160, .inl fun k : Nat => iI (pP (k : Int)))) (hA568 : S.1 568 = .inl (.int, 160, .inl fun k : Nat => iI (pQ (k : Int)))) (hA569 : S.1 569 = .inl (.long, 160, .inr (.inl fun k : Nat => pN (k : Int)))) (hhp : 0 ≤ hp ∧ hp < 160) : X_T sc 185 (0, [(0, .ref 530), (1, .int (iI a1)), (2, .int (iI a2)), (3, .int (iI a3)), (4, .int (iI a4)), (5, .int (iI a5)), (6, .long kn), (8, .int (iI a6)), (9, .int (iI a7))], [], S) (fun v S' => ∃ (pF1 : Int → Int) (pT1 : Int → Int) (pS1 : Int → Int) (pH1 : Int → Int) (pW1 : Int → Int) (pP1 : Int → Int) (pQ1 : Int → Int) (pN1 : Int → Int64), v = none ∧ pF1 = X_ug pF hp a1 ∧ pT1 = X_ug pT hp a2 ∧ pS1 = X_ug pS hp a3 ∧ pH1 = X_ug pH hp a4 ∧ pW1 = X_ug pW hp a5 ∧ pP1 = X_ug pP hp a6 ∧ pQ1 = X_ug pQ hp a7 ∧ pN1 = X_ug pN hp kn ∧ S'.1 530 = .inr (11, [.ref 531, .int (iI (o 1)), .ref 532, .int (iI (o 3)), .int (iI b), .int (iI (o 5)), .int (iI (o 6)), .int (iI (o 7)), .int (iI (o 8)), .int (iI (o 9)), .int (iI (o 10)), .int (iI (o 11)), .long nm, .ref 533, .ref 534, .ref 535, .ref 536, .ref 537, .ref 538, .ref 539, .ref 540, .ref 541, .ref 542, .ref 543, .ref 544, .ref 545, .ref 546, .ref 547, .int (iI rc), .int (iI (gk G)), .int (iI (gw G)), .int (iI (o 31)), .int (iI (o 32)), .int (iI (o 33)), .ref 548, .ref 549, .ref 550, .ref 551, .int (iI tn), .ref 552, .ref 553, .ref 554, .ref 555, .ref 556, .ref 557, .ref 558, .ref 559, .ref 560, .ref 561, .int (iI (o 49)), .ref 562, .ref 563, .ref 564, .ref 565, .ref 566, .ref 567, .ref 568, .ref 569, .int (iI (hp + 1)), .ref 570, .ref 571, .ref 572, .ref 573, .ref 574, .ref 575, .ref 576, .ref 577, .ref 578, .int (iI (o 68)), .int (iI (o 69)), .int (iI (o 70)), .ref 579]) ∧ S'.1 562 = .inl (.int, 160, .inl fun k : Nat => iI (pF1 (k : Int))) ∧ S'.1 563 = .inl (.int, 160, .inl fun k : Nat => iI (pT1 (k : Int))) ∧ S'.1 564 = .inl (.int, 160, .inl fun k : Nat => iI (pS1 (k : Int))) ∧ S'.1 565 = .inl (.int, 160, .inl fun k : Nat => iI (pH1 (k : Int))) ∧ S'.1 566 = .inl (.int, 160, .inl fun k : Nat => iI (pW1 (k : Int))) ∧ S'.1 567 = .inl (.int, 160, .inl fun k : Nat => iI (pP1 (k : Int))) ∧ S'.1 568 = .inl (.int, 160, .inl fun k : Nat => iI (pQ1 (k : Int))) ∧ S'.1 569 = .inl (.long, 160, .inr (.inl fun k : Nat => pN1 (k : Int))) ∧ (X_Fr (fun q => q = 530 ∨ (562 ≤ q ∧ q ≤ 569)) S S')) := by
  refine X_QI (fun Q hQ => ?_)
  refine T_p xr_185_0 xn_185 (pc' := 1) (ls' := [(0, .ref 530), (1, .int (iI a1)), (2, .int (iI a2)), (3, .int (iI a3)), (4, .int (iI a4)), (5, .int (iI a5)), (6, .long kn), (8, .int (iI a6)), (9, .int (iI a7))]) (st' := [.ref 530]) rfl ?_
  refine T_get xr_185_1 hO530 rfl (v := .ref 562) rfl (pc' := 4) rfl ?_
  refine T_p xr_185_4 xn_185 (pc' := 5) (ls' := [(0, .ref 530), (1, .int (iI a1)), (2, .int (iI a2)), (3, .int (iI a3)), (4, .int (iI a4)), (5, .int (iI a5)), (6, .long kn), (8, .int (iI a6)), (9, .int (iI a7))]) (st' := [.ref 530, .ref 562]) rfl ?_
  refine T_get xr_185_5 hO530 rfl (v := .int (iI hp)) rfl (pc' := 8) rfl ?_
  refine T_p xr_185_8 xn_185 (pc' := 9) (ls' := [(0, .ref 530), (1, .int (iI a1)), (2, .int (iI a2)), (3, .int (iI a3)), (4, .int (iI a4)), (5, .int (iI a5)), (6, .long kn), (8, .int (iI a6)), (9, .int (iI a7))]) (st' := [.int (iI a1), .int (iI hp), .ref 562]) rfl ?_
  refine T_ziast xr_185_9 hA562 (pc' := 10) rfl (fun S1537 h1538 n1539 e1540 => ?_)
  refine T_p xr_185_10 xn_185 (pc' := 11) (ls' := [(0, .ref 530), (1, .int (iI a1)), (2, .int (iI a2)), (3, .int (iI a3)), (4, .int (iI a4)), (5, .int (iI a5)), (6, .long kn), (8, .int (iI a6)), (9, .int (iI a7))]) (st' := [.ref 530]) rfl ?_
  have h1541 := (n1539 530 (by decide)).trans (hO530)
  refine T_get xr_185_11 h1541 rfl (v := .ref 563) rfl (pc' := 14) rfl ?_
  refine T_p xr_185_14 xn_185 (pc' := 15) (ls' := [(0, .ref 530), (1, .int (iI a1)), (2, .int (iI a2)), (3, .int (iI a3)), (4, .int (iI a4)), (5, .int (iI a5)), (6, .long kn), (8, .int (iI a6)), (9, .int (iI a7))]) (st' := [.ref 530, .ref 563]) rfl ?_
  refine T_get xr_185_15 h1541 rfl (v := .int (iI hp)) rfl (pc' := 18) rfl ?_
  refine T_p xr_185_18 xn_185 (pc' := 19) (ls' := [(0, .ref 530), (1, .int (iI a1)), (2, .int (iI a2)), (3, .int (iI a3)), (4, .int (iI a4)), (5, .int (iI a5)), (6, .long kn), (8, .int (iI a6)), (9, .int (iI a7))]) (st' := [.int (iI a2), .int (iI hp), .ref 563]) rfl ?_
  have h1542 := (n1539 563 (by decide)).trans (hA563)
  refine T_ziast xr_185_19 h1542 (pc' := 20) rfl (fun S1543 h1544 n1545 e1546 => ?_)
  refine T_p xr_185_20 xn_185 (pc' := 21) (ls' := [(0, .ref 530), (1, .int (iI a1)), (2, .int (iI a2)), (3, .int (iI a3)), (4, .int (iI a4)), (5, .int (iI a5)), (6, .long kn), (8, .int (iI a6)), (9, .int (iI a7))]) (st' := [.ref 530]) rfl ?_
  have h1547 := (n1545 530 (by decide)).trans (h1541)
  refine T_get xr_185_21 h1547 rfl (v := .ref 564) rfl (pc' := 24) rfl ?_
  refine T_p xr_185_24 xn_185 (pc' := 25) (ls' := [(0, .ref 530), (1, .int (iI a1)), (2, .int (iI a2)), (3, .int (iI a3)), (4, .int (iI a4)), (5, .int (iI a5)), (6, .long kn), (8, .int (iI a6)), (9, .int (iI a7))]) (st' := [.ref 530, .ref 564]) rfl ?_
  refine T_get xr_185_25 h1547 rfl (v := .int (iI hp)) rfl (pc' := 28) rfl ?_
  refine T_p xr_185_28 xn_185 (pc' := 29) (ls' := [(0, .ref 530), (1, .int (iI a1)), (2, .int (iI a2)), (3, .int (iI a3)), (4, .int (iI a4)), (5, .int (iI a5)), (6, .long kn), (8, .int (iI a6)), (9, .int (iI a7))]) (st' := [.int (iI a3), .int (iI hp), .ref 564]) rfl ?_
  have h1548 := (n1545 564 (by decide)).trans ((n1539 564 (by decide)).trans (hA564))
  refine T_ziast xr_185_29 h1548 (pc' := 30) rfl (fun S1549 h1550 n1551 e1552 => ?_)
  refine T_p xr_185_30 xn_185 (pc' := 31) (ls' := [(0, .ref 530), (1, .int (iI a1)), (2, .int (iI a2)), (3, .int (iI a3)), (4, .int (iI a4)), (5, .int (iI a5)), (6, .long kn), (8, .int (iI a6)), (9, .int (iI a7))]) (st' := [.ref 530]) rfl ?_
  have h1553 := (n1551 530 (by decide)).trans (h1547)
  refine T_get xr_185_31 h1553 rfl (v := .ref 565) rfl (pc' := 34) rfl ?_
  refine T_p xr_185_34 xn_185 (pc' := 35) (ls' := [(0, .ref 530), (1, .int (iI a1)), (2, .int (iI a2)), (3, .int (iI a3)), (4, .int (iI a4)), (5, .int (iI a5)), (6, .long kn), (8, .int (iI a6)), (9, .int (iI a7))]) (st' := [.ref 530, .ref 565]) rfl ?_
  refine T_get xr_185_35 h1553 rfl (v := .int (iI hp)) rfl (pc' := 38) rfl ?_
  refine T_p xr_185_38 xn_185 (pc' := 40) (ls' := [(0, .ref 530), (1, .int (iI a1)), (2, .int (iI a2)), (3, .int (iI a3)), (4, .int (iI a4)), (5, .int (iI a5)), (6, .long kn), (8, .int (iI a6)), (9, .int (iI a7))]) (st' := [.int (iI a4), .int (iI hp), .ref 565]) rfl ?_
  have h1554 := (n1551 565 (by decide)).trans ((n1545 565 (by decide)).trans ((n1539 565 (by decide)).trans (hA565)))
  refine T_ziast xr_185_40 h1554 (pc' := 41) rfl (fun S1555 h1556 n1557 e1558 => ?_)
  refine T_p xr_185_41 xn_185 (pc' := 42) (ls' := [(0, .ref 530), (1, .int (iI a1)), (2, .int (iI a2)), (3, .int (iI a3)), (4, .int (iI a4)), (5, .int (iI a5)), (6, .long kn), (8, .int (iI a6)), (9, .int (iI a7))]) (st' := [.ref 530]) rfl ?_
  have h1559 := (n1557 530 (by decide)).trans (h1553)
  refine T_get xr_185_42 h1559 rfl (v := .ref 566) rfl (pc' := 45) rfl ?_
  refine T_p xr_185_45 xn_185 (pc' := 46) (ls' := [(0, .ref 530), (1, .int (iI a1)), (2, .int (iI a2)), (3, .int (iI a3)), (4, .int (iI a4)), (5, .int (iI a5)), (6, .long kn), (8, .int (iI a6)), (9, .int (iI a7))]) (st' := [.ref 530, .ref 566]) rfl ?_
  refine T_get xr_185_46 h1559 rfl (v := .int (iI hp)) rfl (pc' := 49) rfl ?_
  refine T_p xr_185_49 xn_185 (pc' := 51) (ls' := [(0, .ref 530), (1, .int (iI a1)), (2, .int (iI a2)), (3, .int (iI a3)), (4, .int (iI a4)), (5, .int (iI a5)), (6, .long kn), (8, .int (iI a6)), (9, .int (iI a7))]) (st' := [.int (iI a5), .int (iI hp), .ref 566]) rfl ?_
  have h1560 := (n1557 566 (by decide)).trans ((n1551 566 (by decide)).trans ((n1545 566 (by decide)).trans ((n1539 566 (by decide)).trans (hA566))))
  refine T_ziast xr_185_51 h1560 (pc' := 52) rfl (fun S1561 h1562 n1563 e1564 => ?_)
  refine T_p xr_185_52 xn_185 (pc' := 53) (ls' := [(0, .ref 530), (1, .int (iI a1)), (2, .int (iI a2)), (3, .int (iI a3)), (4, .int (iI a4)), (5, .int (iI a5)), (6, .long kn), (8, .int (iI a6)), (9, .int (iI a7))]) (st' := [.ref 530]) rfl ?_
  have h1565 := (n1563 530 (by decide)).trans (h1559)
  refine T_get xr_185_53 h1565 rfl (v := .ref 569) rfl (pc' := 56) rfl ?_
  refine T_p xr_185_56 xn_185 (pc' := 57) (ls' := [(0, .ref 530), (1, .int (iI a1)), (2, .int (iI a2)), (3, .int (iI a3)), (4, .int (iI a4)), (5, .int (iI a5)), (6, .long kn), (8, .int (iI a6)), (9, .int (iI a7))]) (st' := [.ref 530, .ref 569]) rfl ?_
  refine T_get xr_185_57 h1565 rfl (v := .int (iI hp)) rfl (pc' := 60) rfl ?_
  refine T_p xr_185_60 xn_185 (pc' := 62) (ls' := [(0, .ref 530), (1, .int (iI a1)), (2, .int (iI a2)), (3, .int (iI a3)), (4, .int (iI a4)), (5, .int (iI a5)), (6, .long kn), (8, .int (iI a6)), (9, .int (iI a7))]) (st' := [.long kn, .int (iI hp), .ref 569]) rfl ?_
  have h1566 := (n1563 569 (by decide)).trans ((n1557 569 (by decide)).trans ((n1551 569 (by decide)).trans ((n1545 569 (by decide)).trans ((n1539 569 (by decide)).trans (hA569)))))
  refine T_zlast xr_185_62 h1566 (pc' := 63) rfl (fun S1567 h1568 n1569 e1570 => ?_)
  refine T_p xr_185_63 xn_185 (pc' := 64) (ls' := [(0, .ref 530), (1, .int (iI a1)), (2, .int (iI a2)), (3, .int (iI a3)), (4, .int (iI a4)), (5, .int (iI a5)), (6, .long kn), (8, .int (iI a6)), (9, .int (iI a7))]) (st' := [.ref 530]) rfl ?_
  have h1571 := (n1569 530 (by decide)).trans (h1565)
  refine T_get xr_185_64 h1571 rfl (v := .ref 567) rfl (pc' := 67) rfl ?_
  refine T_p xr_185_67 xn_185 (pc' := 68) (ls' := [(0, .ref 530), (1, .int (iI a1)), (2, .int (iI a2)), (3, .int (iI a3)), (4, .int (iI a4)), (5, .int (iI a5)), (6, .long kn), (8, .int (iI a6)), (9, .int (iI a7))]) (st' := [.ref 530, .ref 567]) rfl ?_
  refine T_get xr_185_68 h1571 rfl (v := .int (iI hp)) rfl (pc' := 71) rfl ?_
  refine T_p xr_185_71 xn_185 (pc' := 73) (ls' := [(0, .ref 530), (1, .int (iI a1)), (2, .int (iI a2)), (3, .int (iI a3)), (4, .int (iI a4)), (5, .int (iI a5)), (6, .long kn), (8, .int (iI a6)), (9, .int (iI a7))]) (st' := [.int (iI a6), .int (iI hp), .ref 567]) rfl ?_
  have h1572 := (n1569 567 (by decide)).trans ((n1563 567 (by decide)).trans ((n1557 567 (by decide)).trans ((n1551 567 (by decide)).trans ((n1545 567 (by decide)).trans ((n1539 567 (by decide)).trans (hA567))))))
  refine T_ziast xr_185_73 h1572 (pc' := 74) rfl (fun S1573 h1574 n1575 e1576 => ?_)
  refine T_p xr_185_74 xn_185 (pc' := 75) (ls' := [(0, .ref 530), (1, .int (iI a1)), (2, .int (iI a2)), (3, .int (iI a3)), (4, .int (iI a4)), (5, .int (iI a5)), (6, .long kn), (8, .int (iI a6)), (9, .int (iI a7))]) (st' := [.ref 530]) rfl ?_
  have h1577 := (n1575 530 (by decide)).trans (h1571)
  refine T_get xr_185_75 h1577 rfl (v := .ref 568) rfl (pc' := 78) rfl ?_
  refine T_p xr_185_78 xn_185 (pc' := 79) (ls' := [(0, .ref 530), (1, .int (iI a1)), (2, .int (iI a2)), (3, .int (iI a3)), (4, .int (iI a4)), (5, .int (iI a5)), (6, .long kn), (8, .int (iI a6)), (9, .int (iI a7))]) (st' := [.ref 530, .ref 568]) rfl ?_
  refine T_get xr_185_79 h1577 rfl (v := .int (iI hp)) rfl (pc' := 82) rfl ?_
  refine T_p xr_185_82 xn_185 (pc' := 84) (ls' := [(0, .ref 530), (1, .int (iI a1)), (2, .int (iI a2)), (3, .int (iI a3)), (4, .int (iI a4)), (5, .int (iI a5)), (6, .long kn), (8, .int (iI a6)), (9, .int (iI a7))]) (st' := [.int (iI a7), .int (iI hp), .ref 568]) rfl ?_
  have h1578 := (n1575 568 (by decide)).trans ((n1569 568 (by decide)).trans ((n1563 568 (by decide)).trans ((n1557 568 (by decide)).trans ((n1551 568 (by decide)).trans ((n1545 568 (by decide)).trans ((n1539 568 (by decide)).trans (hA568)))))))
  refine T_ziast xr_185_84 h1578 (pc' := 85) rfl (fun S1579 h1580 n1581 e1582 => ?_)
  refine T_p xr_185_85 xn_185 (pc' := 86) (ls' := [(0, .ref 530), (1, .int (iI a1)), (2, .int (iI a2)), (3, .int (iI a3)), (4, .int (iI a4)), (5, .int (iI a5)), (6, .long kn), (8, .int (iI a6)), (9, .int (iI a7))]) (st' := [.ref 530]) rfl ?_
  refine T_p xr_185_86 xn_185 (pc' := 87) (ls' := [(0, .ref 530), (1, .int (iI a1)), (2, .int (iI a2)), (3, .int (iI a3)), (4, .int (iI a4)), (5, .int (iI a5)), (6, .long kn), (8, .int (iI a6)), (9, .int (iI a7))]) (st' := [.ref 530, .ref 530]) rfl ?_
  have h1583 := (n1581 530 (by decide)).trans (h1577)
  refine T_get xr_185_87 h1583 rfl (v := .int (iI hp)) rfl (pc' := 90) rfl ?_
  refine T_p xr_185_90 xn_185 (pc' := 91) (ls' := [(0, .ref 530), (1, .int (iI a1)), (2, .int (iI a2)), (3, .int (iI a3)), (4, .int (iI a4)), (5, .int (iI a5)), (6, .long kn), (8, .int (iI a6)), (9, .int (iI a7))]) (st' := [.int (iI 1), .int (iI hp), .ref 530]) rfl ?_
  refine T_ziadd xr_185_91 (z := hp + 1) rfl (pc' := 92) rfl ?_
  refine T_put xr_185_92 h1583 rfl (Nat.le_of_ble_eq_true rfl) rfl (fs' := [.ref 531, .int (iI (o 1)), .ref 532, .int (iI (o 3)), .int (iI b), .int (iI (o 5)), .int (iI (o 6)), .int (iI (o 7)), .int (iI (o 8)), .int (iI (o 9)), .int (iI (o 10)), .int (iI (o 11)), .long nm, .ref 533, .ref 534, .ref 535, .ref 536, .ref 537, .ref 538, .ref 539, .ref 540, .ref 541, .ref 542, .ref 543, .ref 544, .ref 545, .ref 546, .ref 547, .int (iI rc), .int (iI (gk G)), .int (iI (gw G)), .int (iI (o 31)), .int (iI (o 32)), .int (iI (o 33)), .ref 548, .ref 549, .ref 550, .ref 551, .int (iI tn), .ref 552, .ref 553, .ref 554, .ref 555, .ref 556, .ref 557, .ref 558, .ref 559, .ref 560, .ref 561, .int (iI (o 49)), .ref 562, .ref 563, .ref 564, .ref 565, .ref 566, .ref 567, .ref 568, .ref 569, .int (iI (hp + 1)), .ref 570, .ref 571, .ref 572, .ref 573, .ref 574, .ref 575, .ref 576, .ref 577, .ref 578, .int (iI (o 68)), .int (iI (o 69)), .int (iI (o 70)), .ref 579]) rfl (pc' := 95) rfl (fun S1584 h1585 n1586 e1587 => ?_)
  refine T_vret xr_185_95 xf_185.2.2 ?_
  refine hQ _ _ ?_
  have h1588 := (n1586 562 (by decide)).trans ((n1581 562 (by decide)).trans ((n1575 562 (by decide)).trans ((n1569 562 (by decide)).trans ((n1563 562 (by decide)).trans ((n1557 562 (by decide)).trans ((n1551 562 (by decide)).trans ((n1545 562 (by decide)).trans (h1538))))))))
  have h1589 := (n1586 563 (by decide)).trans ((n1581 563 (by decide)).trans ((n1575 563 (by decide)).trans ((n1569 563 (by decide)).trans ((n1563 563 (by decide)).trans ((n1557 563 (by decide)).trans ((n1551 563 (by decide)).trans (h1544)))))))
  have h1590 := (n1586 564 (by decide)).trans ((n1581 564 (by decide)).trans ((n1575 564 (by decide)).trans ((n1569 564 (by decide)).trans ((n1563 564 (by decide)).trans ((n1557 564 (by decide)).trans (h1550))))))
  have h1591 := (n1586 565 (by decide)).trans ((n1581 565 (by decide)).trans ((n1575 565 (by decide)).trans ((n1569 565 (by decide)).trans ((n1563 565 (by decide)).trans (h1556)))))
  have h1592 := (n1586 566 (by decide)).trans ((n1581 566 (by decide)).trans ((n1575 566 (by decide)).trans ((n1569 566 (by decide)).trans (h1562))))
  have h1593 := (n1586 567 (by decide)).trans ((n1581 567 (by decide)).trans (h1574))
  have h1594 := (n1586 568 (by decide)).trans (h1580)
  have h1595 := (n1586 569 (by decide)).trans ((n1581 569 (by decide)).trans ((n1575 569 (by decide)).trans (h1568)))
  exact ⟨(X_ug pF hp a1), (X_ug pT hp a2), (X_ug pS hp a3), (X_ug pH hp a4), (X_ug pW hp a5), (X_ug pP hp a6), (X_ug pQ hp a7), (X_ug pN hp kn), rfl, rfl, rfl, rfl, rfl, rfl, rfl, rfl, rfl, h1585, h1588, h1589, h1590, h1591, h1592, h1593, h1594, h1595, (((((((((X_Fr.rf).tr (X_Fr.of n1539 e1540 (by omega))).tr (X_Fr.of n1545 e1546 (by omega))).tr (X_Fr.of n1551 e1552 (by omega))).tr (X_Fr.of n1557 e1558 (by omega))).tr (X_Fr.of n1563 e1564 (by omega))).tr (X_Fr.of n1569 e1570 (by omega))).tr (X_Fr.of n1575 e1576 (by omega))).tr (X_Fr.of n1581 e1582 (by omega))).tr (X_Fr.of n1586 e1587 (by omega))⟩
