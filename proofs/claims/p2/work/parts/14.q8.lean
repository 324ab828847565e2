theorem xr_186_0 : X_row 186 0 = some (0, (.aload_n 0, 1), (0, 0, 0)) := by decide +kernel
theorem xr_186_1 : X_row 186 1 = some (1, (.getfield 314, 3), (11, 38, 76)) := by decide +kernel
theorem xr_186_4 : X_row 186 4 = some (4, (.ifCond .ne 7, 3), (0, 0, 0)) := by decide +kernel
theorem xr_186_7 : X_row 186 7 = some (7, (.lconst 0, 1), (0, 0, 0)) := by decide +kernel
theorem xr_186_8 : X_row 186 8 = some (8, (.goto 12, 3), (0, 0, 0)) := by decide +kernel
theorem xr_186_11 : X_row 186 11 = some (11, (.aload_n 0, 1), (0, 0, 0)) := by decide +kernel
theorem xr_186_12 : X_row 186 12 = some (12, (.iconst 0, 1), (0, 0, 0)) := by decide +kernel
theorem xr_186_13 : X_row 186 13 = some (13, (.aload_n 0, 1), (0, 0, 0)) := by decide +kernel
theorem xr_186_14 : X_row 186 14 = some (14, (.getfield 314, 3), (11, 38, 76)) := by decide +kernel
theorem xr_186_17 : X_row 186 17 = some (17, (.invokevirtual 376, 3), (182, 76, 0)) := by decide +kernel
theorem xr_186_20 : X_row 186 20 = some (20, (.lstore_n 3, 1), (0, 0, 0)) := by decide +kernel
theorem xr_186_21 : X_row 186 21 = some (21, (.lload_n 1, 1), (0, 0, 0)) := by decide +kernel
theorem xr_186_22 : X_row 186 22 = some (22, (.lconst 0, 1), (0, 0, 0)) := by decide +kernel
theorem xr_186_23 : X_row 186 23 = some (23, (.lcmp, 1), (0, 0, 0)) := by decide +kernel
theorem xr_186_24 : X_row 186 24 = some (24, (.ifCond .lt 15, 3), (0, 0, 0)) := by decide +kernel
theorem xr_186_27 : X_row 186 27 = some (27, (.lload_n 3, 1), (0, 0, 0)) := by decide +kernel
theorem xr_186_28 : X_row 186 28 = some (28, (.lconst 0, 1), (0, 0, 0)) := by decide +kernel
theorem xr_186_29 : X_row 186 29 = some (29, (.lcmp, 1), (0, 0, 0)) := by decide +kernel
theorem xr_186_30 : X_row 186 30 = some (30, (.ifCond .lt 11, 3), (0, 0, 0)) := by decide +kernel
theorem xr_186_33 : X_row 186 33 = some (33, (.lload_n 1, 1), (0, 0, 0)) := by decide +kernel
theorem xr_186_34 : X_row 186 34 = some (34, (.lload_n 3, 1), (0, 0, 0)) := by decide +kernel
theorem xr_186_35 : X_row 186 35 = some (35, (.lcmp, 1), (0, 0, 0)) := by decide +kernel
theorem xr_186_36 : X_row 186 36 = some (36, (.ifCond .lt 5, 3), (0, 0, 0)) := by decide +kernel
theorem xr_186_39 : X_row 186 39 = some (39, (.iconst (-1), 1), (0, 0, 0)) := by decide +kernel
theorem xr_186_40 : X_row 186 40 = some (40, (.ireturn, 1), (0, 0, 0)) := by decide +kernel
theorem xr_186_41 : X_row 186 41 = some (41, (.aload_n 0, 1), (0, 0, 0)) := by decide +kernel
theorem xr_186_42 : X_row 186 42 = some (42, (.iconst 0, 1), (0, 0, 0)) := by decide +kernel
theorem xr_186_43 : X_row 186 43 = some (43, (.putfield 317, 3), (11, 49, 98)) := by decide +kernel
theorem xr_186_46 : X_row 186 46 = some (46, (.aload_n 0, 1), (0, 0, 0)) := by decide +kernel
theorem xr_186_47 : X_row 186 47 = some (47, (.iconst 0, 1), (0, 0, 0)) := by decide +kernel
theorem xr_186_48 : X_row 186 48 = some (48, (.putfield 320, 3), (11, 68, 136)) := by decide +kernel
theorem xr_186_51 : X_row 186 51 = some (51, (.aload_n 0, 1), (0, 0, 0)) := by decide +kernel
theorem xr_186_52 : X_row 186 52 = some (52, (.iconst 0, 1), (0, 0, 0)) := by decide +kernel
theorem xr_186_53 : X_row 186 53 = some (53, (.putfield 382, 3), (11, 58, 116)) := by decide +kernel
theorem xr_186_56 : X_row 186 56 = some (56, (.aload_n 0, 1), (0, 0, 0)) := by decide +kernel
theorem xr_186_57 : X_row 186 57 = some (57, (.iconst 0, 1), (0, 0, 0)) := by decide +kernel
theorem xr_186_58 : X_row 186 58 = some (58, (.aload_n 0, 1), (0, 0, 0)) := by decide +kernel
theorem xr_186_59 : X_row 186 59 = some (59, (.getfield 314, 3), (11, 38, 76)) := by decide +kernel
theorem xr_186_62 : X_row 186 62 = some (62, (.iconst 0, 1), (0, 0, 0)) := by decide +kernel
theorem xr_186_63 : X_row 186 63 = some (63, (.iconst 0, 1), (0, 0, 0)) := by decide +kernel
theorem xr_186_64 : X_row 186 64 = some (64, (.iconst 0, 1), (0, 0, 0)) := by decide +kernel
theorem xr_186_65 : X_row 186 65 = some (65, (.lload_n 1, 1), (0, 0, 0)) := by decide +kernel
theorem xr_186_66 : X_row 186 66 = some (66, (.iconst (-1), 1), (0, 0, 0)) := by decide +kernel
theorem xr_186_67 : X_row 186 67 = some (67, (.iconst (-1), 1), (0, 0, 0)) := by decide +kernel
theorem xr_186_68 : X_row 186 68 = some (68, (.invokevirtual 385, 3), (185, 78, 0)) := by decide +kernel
theorem xr_186_71 : X_row 186 71 = some (71, (.aload_n 0, 1), (0, 0, 0)) := by decide +kernel
theorem xr_186_72 : X_row 186 72 = some (72, (.getfield 382, 3), (11, 58, 116)) := by decide +kernel
theorem xr_186_75 : X_row 186 75 = some (75, (.ifCond .le 24, 3), (0, 0, 0)) := by decide +kernel
theorem xr_186_78 : X_row 186 78 = some (78, (.aload_n 0, 1), (0, 0, 0)) := by decide +kernel
theorem xr_186_79 : X_row 186 79 = some (79, (.dup, 1), (0, 0, 0)) := by decide +kernel
theorem xr_186_80 : X_row 186 80 = some (80, (.getfield 382, 3), (11, 58, 116)) := by decide +kernel
theorem xr_186_83 : X_row 186 83 = some (83, (.iconst 1, 1), (0, 0, 0)) := by decide +kernel
theorem xr_186_84 : X_row 186 84 = some (84, (.isub, 1), (0, 0, 0)) := by decide +kernel
theorem xr_186_85 : X_row 186 85 = some (85, (.putfield 382, 3), (11, 58, 116)) := by decide +kernel
theorem xr_186_88 : X_row 186 88 = some (88, (.aload_n 0, 1), (0, 0, 0)) := by decide +kernel
theorem xr_186_89 : X_row 186 89 = some (89, (.aload_n 0, 1), (0, 0, 0)) := by decide +kernel
theorem xr_186_90 : X_row 186 90 = some (90, (.getfield 382, 3), (11, 58, 116)) := by decide +kernel
theorem xr_186_93 : X_row 186 93 = some (93, (.invokevirtual 389, 3), (187, 80, 0)) := by decide +kernel
theorem xr_186_96 : X_row 186 96 = some (96, (.goto (-25), 3), (0, 0, 0)) := by decide +kernel
theorem xr_186_99 : X_row 186 99 = some (99, (.aload_n 0, 1), (0, 0, 0)) := by decide +kernel
theorem xr_186_100 : X_row 186 100 = some (100, (.getfield 317, 3), (11, 49, 98)) := by decide +kernel
theorem xr_186_103 : X_row 186 103 = some (103, (.ireturn, 1), (0, 0, 0)) := by decide +kernel
theorem xr_187_0 : X_row 187 0 = some (0, (.aload_n 0, 1), (0, 0, 0)) := by decide +kernel
theorem xr_187_1 : X_row 187 1 = some (1, (.getfield 237, 3), (11, 50, 100)) := by decide +kernel
theorem xr_187_4 : X_row 187 4 = some (4, (.iload_n 1, 1), (0, 0, 0)) := by decide +kernel
theorem xr_187_5 : X_row 187 5 = some (5, (.iaload, 1), (0, 0, 0)) := by decide +kernel
theorem xr_187_6 : X_row 187 6 = some (6, (.istore_n 2, 1), (0, 0, 0)) := by decide +kernel
theorem xr_187_7 : X_row 187 7 = some (7, (.aload_n 0, 1), (0, 0, 0)) := by decide +kernel
theorem xr_187_8 : X_row 187 8 = some (8, (.getfield 240, 3), (11, 51, 102)) := by decide +kernel
theorem xr_187_11 : X_row 187 11 = some (11, (.iload_n 1, 1), (0, 0, 0)) := by decide +kernel
theorem xr_187_12 : X_row 187 12 = some (12, (.iaload, 1), (0, 0, 0)) := by decide +kernel
theorem xr_187_13 : X_row 187 13 = some (13, (.istore_n 3, 1), (0, 0, 0)) := by decide +kernel
theorem xr_187_14 : X_row 187 14 = some (14, (.aload_n 0, 1), (0, 0, 0)) := by decide +kernel
theorem xr_187_15 : X_row 187 15 = some (15, (.getfield 243, 3), (11, 52, 104)) := by decide +kernel
theorem xr_187_18 : X_row 187 18 = some (18, (.iload_n 1, 1), (0, 0, 0)) := by decide +kernel
theorem xr_187_19 : X_row 187 19 = some (19, (.iaload, 1), (0, 0, 0)) := by decide +kernel
theorem xr_187_20 : X_row 187 20 = some (20, (.istore 4, 2), (0, 0, 0)) := by decide +kernel
theorem xr_187_22 : X_row 187 22 = some (22, (.aload_n 0, 1), (0, 0, 0)) := by decide +kernel
theorem xr_187_23 : X_row 187 23 = some (23, (.getfield 317, 3), (11, 49, 98)) := by decide +kernel
theorem xr_187_26 : X_row 187 26 = some (26, (.istore 5, 2), (0, 0, 0)) := by decide +kernel
theorem xr_187_28 : X_row 187 28 = some (28, (.aload_n 0, 1), (0, 0, 0)) := by decide +kernel
theorem xr_187_29 : X_row 187 29 = some (29, (.getfield 225, 3), (11, 45, 90)) := by decide +kernel
theorem xr_187_32 : X_row 187 32 = some (32, (.iload 5, 2), (0, 0, 0)) := by decide +kernel
theorem xr_187_34 : X_row 187 34 = some (34, (.iload_n 2, 1), (0, 0, 0)) := by decide +kernel
theorem xr_187_35 : X_row 187 35 = some (35, (.iastore, 1), (0, 0, 0)) := by decide +kernel
theorem xr_187_36 : X_row 187 36 = some (36, (.aload_n 0, 1), (0, 0, 0)) := by decide +kernel
theorem xr_187_37 : X_row 187 37 = some (37, (.getfield 228, 3), (11, 46, 92)) := by decide +kernel
theorem xr_187_40 : X_row 187 40 = some (40, (.iload 5, 2), (0, 0, 0)) := by decide +kernel
theorem xr_187_42 : X_row 187 42 = some (42, (.iload_n 3, 1), (0, 0, 0)) := by decide +kernel
theorem xr_187_43 : X_row 187 43 = some (43, (.iload_n 2, 1), (0, 0, 0)) := by decide +kernel
theorem xr_187_44 : X_row 187 44 = some (44, (.isub, 1), (0, 0, 0)) := by decide +kernel
theorem xr_187_45 : X_row 187 45 = some (45, (.iastore, 1), (0, 0, 0)) := by decide +kernel
theorem xr_187_46 : X_row 187 46 = some (46, (.aload_n 0, 1), (0, 0, 0)) := by decide +kernel
theorem xr_187_47 : X_row 187 47 = some (47, (.getfield 231, 3), (11, 47, 94)) := by decide +kernel
theorem xr_187_50 : X_row 187 50 = some (50, (.iload 5, 2), (0, 0, 0)) := by decide +kernel
theorem xr_187_52 : X_row 187 52 = some (52, (.aload_n 0, 1), (0, 0, 0)) := by decide +kernel
theorem xr_187_53 : X_row 187 53 = some (53, (.getfield 252, 3), (11, 55, 110)) := by decide +kernel
theorem xr_187_56 : X_row 187 56 = some (56, (.iload_n 1, 1), (0, 0, 0)) := by decide +kernel
theorem xr_187_57 : X_row 187 57 = some (57, (.iaload, 1), (0, 0, 0)) := by decide +kernel
theorem xr_187_58 : X_row 187 58 = some (58, (.iastore, 1), (0, 0, 0)) := by decide +kernel
theorem xr_187_59 : X_row 187 59 = some (59, (.aload_n 0, 1), (0, 0, 0)) := by decide +kernel
theorem xr_187_60 : X_row 187 60 = some (60, (.getfield 234, 3), (11, 48, 96)) := by decide +kernel
theorem xr_187_63 : X_row 187 63 = some (63, (.iload 5, 2), (0, 0, 0)) := by decide +kernel
theorem xr_187_65 : X_row 187 65 = some (65, (.aload_n 0, 1), (0, 0, 0)) := by decide +kernel
theorem xr_187_66 : X_row 187 66 = some (66, (.getfield 255, 3), (11, 56, 112)) := by decide +kernel
theorem xr_187_69 : X_row 187 69 = some (69, (.iload_n 1, 1), (0, 0, 0)) := by decide +kernel
theorem xr_187_70 : X_row 187 70 = some (70, (.iaload, 1), (0, 0, 0)) := by decide +kernel
theorem xr_187_71 : X_row 187 71 = some (71, (.iastore, 1), (0, 0, 0)) := by decide +kernel
theorem xr_187_72 : X_row 187 72 = some (72, (.aload_n 0, 1), (0, 0, 0)) := by decide +kernel
theorem xr_187_73 : X_row 187 73 = some (73, (.dup, 1), (0, 0, 0)) := by decide +kernel
theorem xr_187_74 : X_row 187 74 = some (74, (.getfield 317, 3), (11, 49, 98)) := by decide +kernel
theorem xr_187_77 : X_row 187 77 = some (77, (.iconst 1, 1), (0, 0, 0)) := by decide +kernel
theorem xr_187_78 : X_row 187 78 = some (78, (.iadd, 1), (0, 0, 0)) := by decide +kernel
theorem xr_187_79 : X_row 187 79 = some (79, (.putfield 317, 3), (11, 49, 98)) := by decide +kernel
theorem xr_187_82 : X_row 187 82 = some (82, (.aload_n 0, 1), (0, 0, 0)) := by decide +kernel
theorem xr_187_83 : X_row 187 83 = some (83, (.getfield 258, 3), (11, 57, 114)) := by decide +kernel
theorem xr_187_86 : X_row 187 86 = some (86, (.iload_n 1, 1), (0, 0, 0)) := by decide +kernel
theorem xr_187_87 : X_row 187 87 = some (87, (.laload, 1), (0, 0, 0)) := by decide +kernel
theorem xr_187_88 : X_row 187 88 = some (88, (.lstore 6, 2), (0, 0, 0)) := by decide +kernel
theorem xr_187_90 : X_row 187 90 = some (90, (.aload_n 0, 1), (0, 0, 0)) := by decide +kernel
theorem xr_187_91 : X_row 187 91 = some (91, (.getfield 249, 3), (11, 54, 108)) := by decide +kernel
theorem xr_187_94 : X_row 187 94 = some (94, (.iload_n 1, 1), (0, 0, 0)) := by decide +kernel
theorem xr_187_95 : X_row 187 95 = some (95, (.iaload, 1), (0, 0, 0)) := by decide +kernel
theorem xr_187_96 : X_row 187 96 = some (96, (.istore 8, 2), (0, 0, 0)) := by decide +kernel
theorem xr_187_98 : X_row 187 98 = some (98, (.aload_n 0, 1), (0, 0, 0)) := by decide +kernel
theorem xr_187_99 : X_row 187 99 = some (99, (.getfield 246, 3), (11, 53, 106)) := by decide +kernel
theorem xr_187_102 : X_row 187 102 = some (102, (.iload_n 1, 1), (0, 0, 0)) := by decide +kernel
theorem xr_187_103 : X_row 187 103 = some (103, (.iaload, 1), (0, 0, 0)) := by decide +kernel
theorem xr_187_104 : X_row 187 104 = some (104, (.istore 9, 2), (0, 0, 0)) := by decide +kernel
theorem xr_187_106 : X_row 187 106 = some (106, (.aload_n 0, 1), (0, 0, 0)) := by decide +kernel
theorem xr_187_107 : X_row 187 107 = some (107, (.iload_n 2, 1), (0, 0, 0)) := by decide +kernel
theorem xr_187_108 : X_row 187 108 = some (108, (.iload_n 3, 1), (0, 0, 0)) := by decide +kernel
theorem xr_187_109 : X_row 187 109 = some (109, (.invokevirtual 356, 3), (176, 66, 0)) := by decide +kernel
theorem xr_187_112 : X_row 187 112 = some (112, (.ifCond .eq 13, 3), (0, 0, 0)) := by decide +kernel
theorem xr_187_115 : X_row 187 115 = some (115, (.aload_n 0, 1), (0, 0, 0)) := by decide +kernel
theorem xr_187_116 : X_row 187 116 = some (116, (.getfield 222, 3), (11, 44, 88)) := by decide +kernel
theorem xr_187_119 : X_row 187 119 = some (119, (.iload 5, 2), (0, 0, 0)) := by decide +kernel
theorem xr_187_121 : X_row 187 121 = some (121, (.bipush (-2), 2), (0, 0, 0)) := by decide +kernel
theorem xr_187_123 : X_row 187 123 = some (123, (.iastore, 1), (0, 0, 0)) := by decide +kernel
theorem xr_187_124 : X_row 187 124 = some (124, (.return_, 1), (0, 0, 0)) := by decide +kernel
theorem xr_187_125 : X_row 187 125 = some (125, (.iconst 0, 1), (0, 0, 0)) := by decide +kernel
theorem xr_187_126 : X_row 187 126 = some (126, (.istore 10, 2), (0, 0, 0)) := by decide +kernel
theorem xr_187_128 : X_row 187 128 = some (128, (.iconst 0, 1), (0, 0, 0)) := by decide +kernel
theorem xr_187_129 : X_row 187 129 = some (129, (.istore 11, 2), (0, 0, 0)) := by decide +kernel
theorem xr_187_131 : X_row 187 131 = some (131, (.iload 11, 2), (0, 0, 0)) := by decide +kernel
theorem xr_187_133 : X_row 187 133 = some (133, (.aload_n 0, 1), (0, 0, 0)) := by decide +kernel
theorem xr_187_134 : X_row 187 134 = some (134, (.getfield 94, 3), (11, 29, 58)) := by decide +kernel
theorem xr_187_137 : X_row 187 137 = some (137, (.if_icmp .ge 43, 3), (0, 0, 0)) := by decide +kernel
theorem xr_187_140 : X_row 187 140 = some (140, (.iload 10, 2), (0, 0, 0)) := by decide +kernel
theorem xr_187_142 : X_row 187 142 = some (142, (.ifCond .ne 25, 3), (0, 0, 0)) := by decide +kernel
theorem xr_187_145 : X_row 187 145 = some (145, (.aload_n 0, 1), (0, 0, 0)) := by decide +kernel
theorem xr_187_146 : X_row 187 146 = some (146, (.getfield 209, 3), (11, 40, 80)) := by decide +kernel
theorem xr_187_149 : X_row 187 149 = some (149, (.sipush 961, 3), (0, 0, 0)) := by decide +kernel
theorem xr_187_152 : X_row 187 152 = some (152, (.iload 11, 2), (0, 0, 0)) := by decide +kernel
theorem xr_187_154 : X_row 187 154 = some (154, (.imul, 1), (0, 0, 0)) := by decide +kernel
theorem xr_187_155 : X_row 187 155 = some (155, (.iload_n 2, 1), (0, 0, 0)) := by decide +kernel
theorem xr_187_156 : X_row 187 156 = some (156, (.iload_n 3, 1), (0, 0, 0)) := by decide +kernel
theorem xr_187_157 : X_row 187 157 = some (157, (.invokestatic 337, 3), (173, 56, 0)) := by decide +kernel
theorem xr_187_160 : X_row 187 160 = some (160, (.iadd, 1), (0, 0, 0)) := by decide +kernel
theorem xr_187_161 : X_row 187 161 = some (161, (.laload, 1), (0, 0, 0)) := by decide +kernel
theorem xr_187_162 : X_row 187 162 = some (162, (.lconst 0, 1), (0, 0, 0)) := by decide +kernel
theorem xr_187_163 : X_row 187 163 = some (163, (.lcmp, 1), (0, 0, 0)) := by decide +kernel
theorem xr_187_164 : X_row 187 164 = some (164, (.ifCond .eq 7, 3), (0, 0, 0)) := by decide +kernel
theorem xr_187_167 : X_row 187 167 = some (167, (.iconst 1, 1), (0, 0, 0)) := by decide +kernel
theorem xr_187_168 : X_row 187 168 = some (168, (.goto 4, 3), (0, 0, 0)) := by decide +kernel
theorem xr_187_171 : X_row 187 171 = some (171, (.iconst 0, 1), (0, 0, 0)) := by decide +kernel
theorem xr_187_172 : X_row 187 172 = some (172, (.istore 10, 2), (0, 0, 0)) := by decide +kernel
theorem xr_187_174 : X_row 187 174 = some (174, (.iinc 11 1, 3), (0, 0, 0)) := by decide +kernel
theorem xr_187_177 : X_row 187 177 = some (177, (.goto (-46), 3), (0, 0, 0)) := by decide +kernel
theorem xr_187_180 : X_row 187 180 = some (180, (.iload 10, 2), (0, 0, 0)) := by decide +kernel
theorem xr_187_182 : X_row 187 182 = some (182, (.ifCond .eq 32, 3), (0, 0, 0)) := by decide +kernel
theorem xr_187_185 : X_row 187 185 = some (185, (.aload_n 0, 1), (0, 0, 0)) := by decide +kernel
theorem xr_187_186 : X_row 187 186 = some (186, (.getfield 222, 3), (11, 44, 88)) := by decide +kernel
theorem xr_187_189 : X_row 187 189 = some (189, (.iload 5, 2), (0, 0, 0)) := by decide +kernel
theorem xr_187_191 : X_row 187 191 = some (191, (.bipush (-3), 2), (0, 0, 0)) := by decide +kernel
theorem xr_187_193 : X_row 187 193 = some (193, (.iastore, 1), (0, 0, 0)) := by decide +kernel
theorem xr_187_194 : X_row 187 194 = some (194, (.aload_n 0, 1), (0, 0, 0)) := by decide +kernel
theorem xr_187_195 : X_row 187 195 = some (195, (.iload_n 2, 1), (0, 0, 0)) := by decide +kernel
theorem xr_187_196 : X_row 187 196 = some (196, (.iconst 1, 1), (0, 0, 0)) := by decide +kernel
theorem xr_187_197 : X_row 187 197 = some (197, (.iadd, 1), (0, 0, 0)) := by decide +kernel
theorem xr_187_198 : X_row 187 198 = some (198, (.iload_n 3, 1), (0, 0, 0)) := by decide +kernel
theorem xr_187_199 : X_row 187 199 = some (199, (.iconst 1, 1), (0, 0, 0)) := by decide +kernel
theorem xr_187_200 : X_row 187 200 = some (200, (.isub, 1), (0, 0, 0)) := by decide +kernel
theorem xr_187_201 : X_row 187 201 = some (201, (.iload 4, 2), (0, 0, 0)) := by decide +kernel
theorem xr_187_203 : X_row 187 203 = some (203, (.iconst 0, 1), (0, 0, 0)) := by decide +kernel
theorem xr_187_204 : X_row 187 204 = some (204, (.iconst 0, 1), (0, 0, 0)) := by decide +kernel
theorem xr_187_205 : X_row 187 205 = some (205, (.lload 6, 2), (0, 0, 0)) := by decide +kernel
theorem xr_187_207 : X_row 187 207 = some (207, (.iload 5, 2), (0, 0, 0)) := by decide +kernel
theorem xr_187_209 : X_row 187 209 = some (209, (.iconst 0, 1), (0, 0, 0)) := by decide +kernel
theorem xr_187_210 : X_row 187 210 = some (210, (.invokevirtual 385, 3), (185, 78, 0)) := by decide +kernel
theorem xr_187_213 : X_row 187 213 = some (213, (.return_, 1), (0, 0, 0)) := by decide +kernel
theorem xr_187_214 : X_row 187 214 = some (214, (.iconst 0, 1), (0, 0, 0)) := by decide +kernel
theorem xr_187_215 : X_row 187 215 = some (215, (.istore 11, 2), (0, 0, 0)) := by decide +kernel
theorem xr_187_217 : X_row 187 217 = some (217, (.iconst 0, 1), (0, 0, 0)) := by decide +kernel
theorem xr_187_218 : X_row 187 218 = some (218, (.istore 12, 2), (0, 0, 0)) := by decide +kernel
theorem xr_187_220 : X_row 187 220 = some (220, (.iload 12, 2), (0, 0, 0)) := by decide +kernel
theorem xr_187_222 : X_row 187 222 = some (222, (.ifCond .ne 118, 3), (0, 0, 0)) := by decide +kernel
theorem xr_187_225 : X_row 187 225 = some (225, (.aload_n 0, 1), (0, 0, 0)) := by decide +kernel
theorem xr_187_226 : X_row 187 226 = some (226, (.aload_n 0, 1), (0, 0, 0)) := by decide +kernel
theorem xr_187_227 : X_row 187 227 = some (227, (.getfield 147, 3), (11, 19, 38)) := by decide +kernel
theorem xr_187_230 : X_row 187 230 = some (230, (.bipush 30, 2), (0, 0, 0)) := by decide +kernel
theorem xr_187_232 : X_row 187 232 = some (232, (.aload_n 0, 1), (0, 0, 0)) := by decide +kernel
theorem xr_187_233 : X_row 187 233 = some (233, (.getfield 91, 3), (11, 4, 8)) := by decide +kernel
theorem xr_187_236 : X_row 187 236 = some (236, (.imul, 1), (0, 0, 0)) := by decide +kernel
theorem xr_187_237 : X_row 187 237 = some (237, (.iload 11, 2), (0, 0, 0)) := by decide +kernel
theorem xr_187_239 : X_row 187 239 = some (239, (.iadd, 1), (0, 0, 0)) := by decide +kernel
theorem xr_187_240 : X_row 187 240 = some (240, (.iaload, 1), (0, 0, 0)) := by decide +kernel
theorem xr_187_241 : X_row 187 241 = some (241, (.iload 4, 2), (0, 0, 0)) := by decide +kernel
theorem xr_187_243 : X_row 187 243 = some (243, (.invokevirtual 327, 3), (168, 52, 0)) := by decide +kernel
theorem xr_187_246 : X_row 187 246 = some (246, (.ifCond .eq 20, 3), (0, 0, 0)) := by decide +kernel
theorem xr_187_249 : X_row 187 249 = some (249, (.aload_n 0, 1), (0, 0, 0)) := by decide +kernel
theorem xr_187_250 : X_row 187 250 = some (250, (.iload 9, 2), (0, 0, 0)) := by decide +kernel
theorem xr_187_252 : X_row 187 252 = some (252, (.iload 8, 2), (0, 0, 0)) := by decide +kernel
theorem xr_187_254 : X_row 187 254 = some (254, (.iload 11, 2), (0, 0, 0)) := by decide +kernel
theorem xr_187_256 : X_row 187 256 = some (256, (.invokevirtual 372, 3), (179, 74, 0)) := by decide +kernel
theorem xr_187_259 : X_row 187 259 = some (259, (.ifCond .eq 7, 3), (0, 0, 0)) := by decide +kernel
theorem xr_187_262 : X_row 187 262 = some (262, (.iconst 1, 1), (0, 0, 0)) := by decide +kernel
theorem xr_187_263 : X_row 187 263 = some (263, (.goto 4, 3), (0, 0, 0)) := by decide +kernel
theorem xr_187_266 : X_row 187 266 = some (266, (.iconst 0, 1), (0, 0, 0)) := by decide +kernel
theorem xr_187_267 : X_row 187 267 = some (267, (.istore 13, 2), (0, 0, 0)) := by decide +kernel
theorem xr_187_269 : X_row 187 269 = some (269, (.iload 13, 2), (0, 0, 0)) := by decide +kernel
theorem xr_187_271 : X_row 187 271 = some (271, (.ifCond .eq 23, 3), (0, 0, 0)) := by decide +kernel
theorem xr_187_274 : X_row 187 274 = some (274, (.aload_n 0, 1), (0, 0, 0)) := by decide +kernel
theorem xr_187_275 : X_row 187 275 = some (275, (.getfield 206, 3), (11, 39, 78)) := by decide +kernel
theorem xr_187_278 : X_row 187 278 = some (278, (.sipush 961, 3), (0, 0, 0)) := by decide +kernel
theorem xr_187_281 : X_row 187 281 = some (281, (.iload 11, 2), (0, 0, 0)) := by decide +kernel
theorem xr_187_283 : X_row 187 283 = some (283, (.imul, 1), (0, 0, 0)) := by decide +kernel
theorem xr_187_284 : X_row 187 284 = some (284, (.iload_n 2, 1), (0, 0, 0)) := by decide +kernel
theorem xr_187_285 : X_row 187 285 = some (285, (.iload_n 3, 1), (0, 0, 0)) := by decide +kernel
theorem xr_187_286 : X_row 187 286 = some (286, (.invokestatic 337, 3), (173, 56, 0)) := by decide +kernel
theorem xr_187_289 : X_row 187 289 = some (289, (.iadd, 1), (0, 0, 0)) := by decide +kernel
theorem xr_187_290 : X_row 187 290 = some (290, (.laload, 1), (0, 0, 0)) := by decide +kernel
theorem xr_187_291 : X_row 187 291 = some (291, (.goto 4, 3), (0, 0, 0)) := by decide +kernel
theorem xr_187_294 : X_row 187 294 = some (294, (.lconst 0, 1), (0, 0, 0)) := by decide +kernel
theorem xr_187_295 : X_row 187 295 = some (295, (.lstore 14, 2), (0, 0, 0)) := by decide +kernel
theorem xr_187_297 : X_row 187 297 = some (297, (.lload 14, 2), (0, 0, 0)) := by decide +kernel
theorem xr_187_299 : X_row 187 299 = some (299, (.lconst 0, 1), (0, 0, 0)) := by decide +kernel
theorem xr_187_300 : X_row 187 300 = some (300, (.lcmp, 1), (0, 0, 0)) := by decide +kernel
theorem xr_187_301 : X_row 187 301 = some (301, (.ifCond .lt 11, 3), (0, 0, 0)) := by decide +kernel
theorem xr_187_304 : X_row 187 304 = some (304, (.lload 6, 2), (0, 0, 0)) := by decide +kernel
theorem xr_187_306 : X_row 187 306 = some (306, (.lload 14, 2), (0, 0, 0)) := by decide +kernel
theorem xr_187_308 : X_row 187 308 = some (308, (.lcmp, 1), (0, 0, 0)) := by decide +kernel
theorem xr_187_309 : X_row 187 309 = some (309, (.ifCond .ge 7, 3), (0, 0, 0)) := by decide +kernel
theorem xr_187_312 : X_row 187 312 = some (312, (.iconst 1, 1), (0, 0, 0)) := by decide +kernel
theorem xr_187_313 : X_row 187 313 = some (313, (.goto 4, 3), (0, 0, 0)) := by decide +kernel
theorem xr_187_316 : X_row 187 316 = some (316, (.iconst 0, 1), (0, 0, 0)) := by decide +kernel
theorem xr_187_317 : X_row 187 317 = some (317, (.istore 12, 2), (0, 0, 0)) := by decide +kernel
theorem xr_187_319 : X_row 187 319 = some (319, (.iload 12, 2), (0, 0, 0)) := by decide +kernel
theorem xr_187_321 : X_row 187 321 = some (321, (.ifCond .eq 6, 3), (0, 0, 0)) := by decide +kernel
theorem xr_187_324 : X_row 187 324 = some (324, (.goto (-104), 3), (0, 0, 0)) := by decide +kernel
theorem xr_187_327 : X_row 187 327 = some (327, (.lload 6, 2), (0, 0, 0)) := by decide +kernel
theorem xr_187_329 : X_row 187 329 = some (329, (.lload 14, 2), (0, 0, 0)) := by decide +kernel
theorem xr_187_331 : X_row 187 331 = some (331, (.lsub, 1), (0, 0, 0)) := by decide +kernel
theorem xr_187_332 : X_row 187 332 = some (332, (.lstore 6, 2), (0, 0, 0)) := by decide +kernel
theorem xr_187_334 : X_row 187 334 = some (334, (.iinc 11 1, 3), (0, 0, 0)) := by decide +kernel
theorem xr_187_337 : X_row 187 337 = some (337, (.goto (-117), 3), (0, 0, 0)) := by decide +kernel
theorem xr_187_340 : X_row 187 340 = some (340, (.aload_n 0, 1), (0, 0, 0)) := by decide +kernel
theorem xr_187_341 : X_row 187 341 = some (341, (.getfield 222, 3), (11, 44, 88)) := by decide +kernel
theorem xr_187_344 : X_row 187 344 = some (344, (.iload 5, 2), (0, 0, 0)) := by decide +kernel
theorem xr_187_346 : X_row 187 346 = some (346, (.iload 11, 2), (0, 0, 0)) := by decide +kernel
theorem xr_187_348 : X_row 187 348 = some (348, (.iastore, 1), (0, 0, 0)) := by decide +kernel
theorem xr_187_349 : X_row 187 349 = some (349, (.aload_n 0, 1), (0, 0, 0)) := by decide +kernel
theorem xr_187_350 : X_row 187 350 = some (350, (.iload 11, 2), (0, 0, 0)) := by decide +kernel
theorem xr_187_352 : X_row 187 352 = some (352, (.iload_n 2, 1), (0, 0, 0)) := by decide +kernel
theorem xr_187_353 : X_row 187 353 = some (353, (.iload_n 3, 1), (0, 0, 0)) := by decide +kernel
theorem xr_187_354 : X_row 187 354 = some (354, (.lload 6, 2), (0, 0, 0)) := by decide +kernel
theorem xr_187_356 : X_row 187 356 = some (356, (.iload 5, 2), (0, 0, 0)) := by decide +kernel
theorem xr_187_358 : X_row 187 358 = some (358, (.invokevirtual 392, 3), (189, 82, 0)) := by decide +kernel
theorem xr_187_361 : X_row 187 361 = some (361, (.return_, 1), (0, 0, 0)) := by decide +kernel
theorem xn_186 : X_nL 186 = 5 := by decide +kernel
theorem xf_186 : X_na 186 = 1 ∧ X_ci 186 = 11 ∧ X_rt 186 = (some .int) := by decide +kernel
theorem xn_187 : X_nL 187 = 16 := by decide +kernel
theorem xf_187 : X_na 187 = 1 ∧ X_ci 187 = 11 ∧ X_rt 187 = none := by decide +kernel
set_option maxHeartbeats 1600000 in
theorem r_open (sc : X_Sc) (S : X_S) (tg : Int → Int) (kU : Int → Int) (wR : Int → Int) (wL : Int → Int) (wK : Int → Int) (wM : Int → Int) (wH : Int → Int) (eP : Int → Int64) (eH : Int → Int) (hK : Int → Int) (tT : Int → Int64) (tU : Int → Int) (oW : Int → Int64) (oK : Int → Int64) (oH : Int → Int64) (nW : Int → Int) (nF : Int → Int) (nL : Int → Int) (nP : Int → Int) (nH : Int → Int) (pF : Int → Int) (pT : Int → Int) (pS : Int → Int) (pH : Int → Int) (pW : Int → Int) (pP : Int → Int) (pQ : Int → Int) (pN : Int → Int64) (cF : Int → Int) (cT : Int → Int) (cN : Int → Int64) (rr : Int → Int64) (o : Nat → Int) (nm : Int64) (b : Int) (rc : Int) (G : X_G) (tn : Int) (wt : Int) (nc : Int) (St : Int → X_It) (N : Int → Int → Int) (i : Int) (j : Int) (p : Int) (h5 : Int) (u : Int) (w5 : Int) (en : Int) (k : Nat) (hO530 : S.1 530 = .inr (11, [.ref 531, .int (iI (o 1)), .ref 532, .int (iI (o 3)), .int (iI b), .int (iI (o 5)), .int (iI (o 6)), .int (iI (o 7)), .int (iI (o 8)), .int (iI (o 9)), .int (iI (o 10)), .int (iI (o 11)), .long nm, .ref 533, .ref 534, .ref 535, .ref 536, .ref 537, .ref 538, .ref 539, .ref 540, .ref 541, .ref 542, .ref 543, .ref 544, .ref 545, .ref 546, .ref 547, .int (iI rc), .int (iI (gk G)), .int (iI (gw G)), .int (iI (o 31)), .int (iI (o 32)), .int (iI (o 33)), .ref 548, .ref 549, .ref 550, .ref 551, .int (iI tn), .ref 552, .ref 553, .ref 554, .ref 555, .ref 556, .ref 557, .ref 558, .ref 559, .ref 560, .ref 561, .int (iI nc), .ref 562, .ref 563, .ref 564, .ref 565, .ref 566, .ref 567, .ref 568, .ref 569, .int (iI (wt - 1)), .ref 570, .ref 571, .ref 572, .ref 573, .ref 574, .ref 575, .ref 576, .ref 577, .ref 578, .int (iI (o 68)), .int (iI (o 69)), .int (iI (o 70)), .ref 579])) (hA535 : S.1 535 = .inl (.boolean, 288, .inl fun k : Nat => iI (tg (k : Int)))) (hA536 : S.1 536 = .inl (.int, 22, .inl fun k : Nat => iI (kU (k : Int)))) (hA537 : S.1 537 = .inl (.int, 60, .inl fun k : Nat => iI (wR (k : Int)))) (hA538 : S.1 538 = .inl (.int, 60, .inl fun k : Nat => iI (wL (k : Int)))) (hA539 : S.1 539 = .inl (.int, 60, .inl fun k : Nat => iI (wK (k : Int)))) (hA540 : S.1 540 = .inl (.int, 60, .inl fun k : Nat => iI (wM (k : Int)))) (hA541 : S.1 541 = .inl (.int, 60, .inl fun k : Nat => iI (wH (k : Int)))) (hA545 : S.1 545 = .inl (.long, 480, .inr (.inl fun k : Nat => eP (k : Int)))) (hA546 : S.1 546 = .inl (.int, 480, .inl fun k : Nat => iI (eH (k : Int)))) (hA547 : S.1 547 = .inl (.int, 240, .inl fun k : Nat => iI (hK (k : Int)))) (hA548 : S.1 548 = .inl (.long, 30, .inr (.inl fun k : Nat => tT (k : Int)))) (hA550 : S.1 550 = .inl (.int, 30, .inl fun k : Nat => iI (tU (k : Int)))) (hA552 : S.1 552 = .inl (.long, 28830, .inr (.inl fun k : Nat => oW (k : Int)))) (hA553 : S.1 553 = .inl (.long, 10571, .inr (.inl fun k : Nat => oK (k : Int)))) (hA554 : S.1 554 = .inl (.long, 115320, .inr (.inl fun k : Nat => oH (k : Int)))) (hA557 : S.1 557 = .inl (.int, 40, .inl fun k : Nat => iI (nW (k : Int)))) (hA558 : S.1 558 = .inl (.int, 40, .inl fun k : Nat => iI (nF (k : Int)))) (hA559 : S.1 559 = .inl (.int, 40, .inl fun k : Nat => iI (nL (k : Int)))) (hA560 : S.1 560 = .inl (.int, 40, .inl fun k : Nat => iI (nP (k : Int)))) (hA561 : S.1 561 = .inl (.int, 40, .inl fun k : Nat => iI (nH (k : Int)))) (hA562 : S.1 562 = .inl (.int, 160, .inl fun k : Nat => iI (pF (k : Int)))) (hA563 : S.1 563 = .inl (.int, 160, .inl fun k : Nat => iI (pT (k : Int)))) (hA564 : S.1 564 = .inl (.int, 160, .inl fun k : Nat => iI (pS (k : Int)))) (hA565 : S.1 565 = .inl (.int, 160, .inl fun k : Nat => iI (pH (k : Int)))) (hA566 : S.1 566 = .inl (.int, 160, .inl fun k : Nat => iI (pW (k : Int)))) (hA567 : S.1 567 = .inl (.int, 160, .inl fun k : Nat => iI (pP (k : Int)))) (hA568 : S.1 568 = .inl (.int, 160, .inl fun k : Nat => iI (pQ (k : Int)))) (hA569 : S.1 569 = .inl (.long, 160, .inr (.inl fun k : Nat => pN (k : Int)))) (hA570 : S.1 570 = .inl (.int, 4, .inl fun k : Nat => iI (cF (k : Int)))) (hA571 : S.1 571 = .inl (.int, 4, .inl fun k : Nat => iI (cT (k : Int)))) (hA572 : S.1 572 = .inl (.long, 4, .inr (.inl fun k : Nat => cN (k : Int)))) (hA573 : S.1 573 = .inl (.long, 288, .inr (.inl fun k : Nat => rr (k : Int)))) (hbr : 0 ≤ b ∧ b ≤ 1) (hG : X_Gok G) (htn : 0 ≤ tn ∧ tn ≤ 30) (hTU : ∀ t, 0 ≤ t → t < tn → tU t = X_nv (gt G t)) (hTT : ∀ t, 0 ≤ t → t < tn → tT t = gt G t) (hKU : (∀ u, 0 ≤ u → u < 32 → (X_bt (ga G 0) u ↔ u = 0)) ∧ kU (11 * b) = -1 ∧ ∀ k, 1 ≤ k → k < gk G → (0 ≤ kU (11 * b + k) ∧ kU (11 * b + k) < k) ∧ ∀ u, 0 ≤ u → u < 32 → (X_bt (ga G k) u ↔ u = k ∨ X_bt (ga G (kU (11 * b + k))) u)) (hTG : (∀ i j, 0 ≤ i → i < rc → 0 ≤ j → j < rc → tg (144 * b + 12 * i + j) = bI (X_bt (gl G i) j)) ∧ ∀ w, 0 ≤ w → w < gw G → gD G w 0 0 < rc) (hWR : ∀ w, 0 ≤ w → w < gw G → wR (30 * b + w) = gD G w 0 0) (hWL : ∀ w, 0 ≤ w → w < gw G → wL (30 * b + w) = gD G w 1 0) (hWK : ∀ w, 0 ≤ w → w < gw G → wK (30 * b + w) = gD G w 2 0) (hWM : ∀ w, 0 ≤ w → w < gw G → wM (30 * b + w) = gD G w 3 0) (hWH : ∀ w, 0 ≤ w → w < gw G → wH (30 * b + w) = gD G w 4 0) (hEP : ∀ w, 0 ≤ w → w < gw G → ∀ e, 0 ≤ e → e < gD G w 3 0 → eP (8 * (30 * b + w) + e) = gW G w e) (hEH : ∀ w, 0 ≤ w → w < gw G → ∀ e, 0 ≤ e → e < gD G w 3 0 → gW G w e = 0 → eH (8 * (30 * b + w) + e) = gD G w 8 e) (hHK : ∀ w, 0 ≤ w → w < gw G → ∀ h, 0 ≤ h → h < gD G w 4 0 → hK (4 * (30 * b + w) + h) = gD G w 9 h) (hCt : R_ct G tn oW oK oH) (hwt : 0 < wt) (hM : X_Mok G tn (wt, St, nc, N)) (ht : St (wt - 1) = (i, j, p, h5, u, w5, en, k)) (hpl : R_pl wt St pF pT pS pH pW pP pQ pN) (hnd : R_nd nc N nW nF nL nP nH) : X_T sc 187 (0, [(0, .ref 530), (1, .int (iI (wt - 1)))], [], S) (fun v S' => ∃ (r1 : Int) (St1 : Int → X_It) (N1 : Int → Int → Int) (nW1 : Int → Int) (nF1 : Int → Int) (nL1 : Int → Int) (nP1 : Int → Int) (nH1 : Int → Int) (pF1 : Int → Int) (pT1 : Int → Int) (pS1 : Int → Int) (pH1 : Int → Int) (pW1 : Int → Int) (pP1 : Int → Int) (pQ1 : Int → Int) (pN1 : Int → Int64) (cF1 : Int → Int) (cT1 : Int → Int) (cN1 : Int → Int64) (rr1 : Int → Int64), v = none ∧ X_mk G (wt, St, nc, N) = (r1, St1, nc + 1, N1) ∧ R_pl r1 St1 pF1 pT1 pS1 pH1 pW1 pP1 pQ1 pN1 ∧ R_nd (nc + 1) N1 nW1 nF1 nL1 nP1 nH1 ∧ X_Mok G tn (r1, St1, nc + 1, N1) ∧ S'.1 530 = .inr (11, [.ref 531, .int (iI (o 1)), .ref 532, .int (iI (o 3)), .int (iI b), .int (iI (o 5)), .int (iI (o 6)), .int (iI (o 7)), .int (iI (o 8)), .int (iI (o 9)), .int (iI (o 10)), .int (iI (o 11)), .long nm, .ref 533, .ref 534, .ref 535, .ref 536, .ref 537, .ref 538, .ref 539, .ref 540, .ref 541, .ref 542, .ref 543, .ref 544, .ref 545, .ref 546, .ref 547, .int (iI rc), .int (iI (gk G)), .int (iI (gw G)), .int (iI (o 31)), .int (iI (o 32)), .int (iI (o 33)), .ref 548, .ref 549, .ref 550, .ref 551, .int (iI tn), .ref 552, .ref 553, .ref 554, .ref 555, .ref 556, .ref 557, .ref 558, .ref 559, .ref 560, .ref 561, .int (iI (nc + 1)), .ref 562, .ref 563, .ref 564, .ref 565, .ref 566, .ref 567, .ref 568, .ref 569, .int (iI r1), .ref 570, .ref 571, .ref 572, .ref 573, .ref 574, .ref 575, .ref 576, .ref 577, .ref 578, .int (iI (o 68)), .int (iI (o 69)), .int (iI (o 70)), .ref 579]) ∧ S'.1 557 = .inl (.int, 40, .inl fun k : Nat => iI (nW1 (k : Int))) ∧ S'.1 558 = .inl (.int, 40, .inl fun k : Nat => iI (nF1 (k : Int))) ∧ S'.1 559 = .inl (.int, 40, .inl fun k : Nat => iI (nL1 (k : Int))) ∧ S'.1 560 = .inl (.int, 40, .inl fun k : Nat => iI (nP1 (k : Int))) ∧ S'.1 561 = .inl (.int, 40, .inl fun k : Nat => iI (nH1 (k : Int))) ∧ S'.1 562 = .inl (.int, 160, .inl fun k : Nat => iI (pF1 (k : Int))) ∧ S'.1 563 = .inl (.int, 160, .inl fun k : Nat => iI (pT1 (k : Int))) ∧ S'.1 564 = .inl (.int, 160, .inl fun k : Nat => iI (pS1 (k : Int))) ∧ S'.1 565 = .inl (.int, 160, .inl fun k : Nat => iI (pH1 (k : Int))) ∧ S'.1 566 = .inl (.int, 160, .inl fun k : Nat => iI (pW1 (k : Int))) ∧ S'.1 567 = .inl (.int, 160, .inl fun k : Nat => iI (pP1 (k : Int))) ∧ S'.1 568 = .inl (.int, 160, .inl fun k : Nat => iI (pQ1 (k : Int))) ∧ S'.1 569 = .inl (.long, 160, .inr (.inl fun k : Nat => pN1 (k : Int))) ∧ S'.1 570 = .inl (.int, 4, .inl fun k : Nat => iI (cF1 (k : Int))) ∧ S'.1 571 = .inl (.int, 4, .inl fun k : Nat => iI (cT1 (k : Int))) ∧ S'.1 572 = .inl (.long, 4, .inr (.inl fun k : Nat => cN1 (k : Int))) ∧ S'.1 573 = .inl (.long, 288, .inr (.inl fun k : Nat => rr1 (k : Int))) ∧ (X_Fr (fun q => q = 530 ∨ (557 ≤ q ∧ q ≤ 573)) S S')) := by
  have hc1 := hG.1
  have hc2 := hG.2.1
  have hle := X_Mok.le hM
  have hM4 : nc + (X_Su (X_lw St) 0 wt : Int) ≤ tn := hM.2.2.2
  have hnc0 : 0 ≤ nc := hM.2.1
  have hi := hM.2.2.1 (wt - 1) (by omega) (show wt - 1 < wt by omega)
  rw [show (wt, St, nc, N).2.1 (wt - 1) = (i, j, p, h5, u, w5, en, k) from ht] at hi
  have hij : 0 ≤ i ∧ i < j ∧ j ≤ tn := hi.1
  have hu : 0 ≤ u ∧ u < gk G := hi.2.2.2.2.1
  have hw5 : 0 ≤ w5 ∧ (w5 < gw G ∨ en = 0) ∧ w5 < 30 := hi.2.2.2.2.2.1
  have hen : 0 ≤ en ∧ en ≤ 2 := hi.2.2.2.2.2.2.1
  have hkH : k < X_Hc G (X_T_ G) u w5 en i j := hi.2.2.2.2.2.2.2.1
  have hkm : k ≤ 9223372036854775807 := hi.2.2.2.2.2.2.2.2
  have hpq : pF (wt - 1) = i ∧ pT (wt - 1) = j ∧ pS (wt - 1) = u ∧ pH (wt - 1) = w5 ∧ pW (wt - 1) = en ∧ pP (wt - 1) = p ∧ pQ (wt - 1) = h5 ∧ pN (wt - 1) = iL (k : Int) := by
      have z := hpl (wt - 1) (by omega) (by omega)
      rw [ht] at z
      exact z
  refine X_QI (fun Q hQ => ?_)
  refine T_p xr_187_0 xn_187 (pc' := 1) (ls' := [(0, .ref 530), (1, .int (iI (wt - 1)))]) (st' := [.ref 530]) rfl ?_
  refine T_get xr_187_1 hO530 rfl (v := .ref 562) rfl (pc' := 4) rfl ?_
  refine T_p xr_187_4 xn_187 (pc' := 5) (ls' := [(0, .ref 530), (1, .int (iI (wt - 1)))]) (st' := [.int (iI (wt - 1)), .ref 562]) rfl ?_
  refine T_ziald xr_187_5 hA562 (pc' := 6) rfl ?_
  refine T_ie (y := iI i) (by rw [hpq.1]) ?_
  refine T_p xr_187_6 xn_187 (pc' := 7) (ls' := [(2, .int (iI i)), (0, .ref 530), (1, .int (iI (wt - 1)))]) (st' := []) rfl ?_
  refine T_p xr_187_7 xn_187 (pc' := 8) (ls' := [(2, .int (iI i)), (0, .ref 530), (1, .int (iI (wt - 1)))]) (st' := [.ref 530]) rfl ?_
  refine T_get xr_187_8 hO530 rfl (v := .ref 563) rfl (pc' := 11) rfl ?_
  refine T_p xr_187_11 xn_187 (pc' := 12) (ls' := [(2, .int (iI i)), (0, .ref 530), (1, .int (iI (wt - 1)))]) (st' := [.int (iI (wt - 1)), .ref 563]) rfl ?_
  refine T_ziald xr_187_12 hA563 (pc' := 13) rfl ?_
  refine T_ie (y := iI j) (by rw [hpq.2.1]) ?_
  refine T_p xr_187_13 xn_187 (pc' := 14) (ls' := [(3, .int (iI j)), (2, .int (iI i)), (0, .ref 530), (1, .int (iI (wt - 1)))]) (st' := []) rfl ?_
  refine T_p xr_187_14 xn_187 (pc' := 15) (ls' := [(3, .int (iI j)), (2, .int (iI i)), (0, .ref 530), (1, .int (iI (wt - 1)))]) (st' := [.ref 530]) rfl ?_
  refine T_get xr_187_15 hO530 rfl (v := .ref 564) rfl (pc' := 18) rfl ?_
  refine T_p xr_187_18 xn_187 (pc' := 19) (ls' := [(3, .int (iI j)), (2, .int (iI i)), (0, .ref 530), (1, .int (iI (wt - 1)))]) (st' := [.int (iI (wt - 1)), .ref 564]) rfl ?_
  refine T_ziald xr_187_19 hA564 (pc' := 20) rfl ?_
  refine T_ie (y := iI u) (by rw [hpq.2.2.1]) ?_
  refine T_p xr_187_20 xn_187 (pc' := 22) (ls' := [(4, .int (iI u)), (3, .int (iI j)), (2, .int (iI i)), (0, .ref 530), (1, .int (iI (wt - 1)))]) (st' := []) rfl ?_
  refine T_p xr_187_22 xn_187 (pc' := 23) (ls' := [(4, .int (iI u)), (3, .int (iI j)), (2, .int (iI i)), (0, .ref 530), (1, .int (iI (wt - 1)))]) (st' := [.ref 530]) rfl ?_
  refine T_get xr_187_23 hO530 rfl (v := .int (iI nc)) rfl (pc' := 26) rfl ?_
  refine T_p xr_187_26 xn_187 (pc' := 28) (ls' := [(5, .int (iI nc)), (4, .int (iI u)), (3, .int (iI j)), (2, .int (iI i)), (0, .ref 530), (1, .int (iI (wt - 1)))]) (st' := []) rfl ?_
  refine T_p xr_187_28 xn_187 (pc' := 29) (ls' := [(5, .int (iI nc)), (4, .int (iI u)), (3, .int (iI j)), (2, .int (iI i)), (0, .ref 530), (1, .int (iI (wt - 1)))]) (st' := [.ref 530]) rfl ?_
  refine T_get xr_187_29 hO530 rfl (v := .ref 558) rfl (pc' := 32) rfl ?_
  refine T_p xr_187_32 xn_187 (pc' := 34) (ls' := [(5, .int (iI nc)), (4, .int (iI u)), (3, .int (iI j)), (2, .int (iI i)), (0, .ref 530), (1, .int (iI (wt - 1)))]) (st' := [.int (iI nc), .ref 558]) rfl ?_
  refine T_p xr_187_34 xn_187 (pc' := 35) (ls' := [(5, .int (iI nc)), (4, .int (iI u)), (3, .int (iI j)), (2, .int (iI i)), (0, .ref 530), (1, .int (iI (wt - 1)))]) (st' := [.int (iI i), .int (iI nc), .ref 558]) rfl ?_
  refine T_ziast xr_187_35 hA558 (pc' := 36) rfl (fun S1728 h1729 n1730 e1731 => ?_)
  refine T_p xr_187_36 xn_187 (pc' := 37) (ls' := [(5, .int (iI nc)), (4, .int (iI u)), (3, .int (iI j)), (2, .int (iI i)), (0, .ref 530), (1, .int (iI (wt - 1)))]) (st' := [.ref 530]) rfl ?_
  have h1732 := (n1730 530 (by decide)).trans (hO530)
  refine T_get xr_187_37 h1732 rfl (v := .ref 559) rfl (pc' := 40) rfl ?_
  refine T_p xr_187_40 xn_187 (pc' := 42) (ls' := [(5, .int (iI nc)), (4, .int (iI u)), (3, .int (iI j)), (2, .int (iI i)), (0, .ref 530), (1, .int (iI (wt - 1)))]) (st' := [.int (iI nc), .ref 559]) rfl ?_
  refine T_p xr_187_42 xn_187 (pc' := 43) (ls' := [(5, .int (iI nc)), (4, .int (iI u)), (3, .int (iI j)), (2, .int (iI i)), (0, .ref 530), (1, .int (iI (wt - 1)))]) (st' := [.int (iI j), .int (iI nc), .ref 559]) rfl ?_
  refine T_p xr_187_43 xn_187 (pc' := 44) (ls' := [(5, .int (iI nc)), (4, .int (iI u)), (3, .int (iI j)), (2, .int (iI i)), (0, .ref 530), (1, .int (iI (wt - 1)))]) (st' := [.int (iI i), .int (iI j), .int (iI nc), .ref 559]) rfl ?_
  refine T_zisub xr_187_44 (z := j - i) rfl (pc' := 45) rfl ?_
  have h1733 := (n1730 559 (by decide)).trans (hA559)
  refine T_ziast xr_187_45 h1733 (pc' := 46) rfl (fun S1734 h1735 n1736 e1737 => ?_)
  refine T_p xr_187_46 xn_187 (pc' := 47) (ls' := [(5, .int (iI nc)), (4, .int (iI u)), (3, .int (iI j)), (2, .int (iI i)), (0, .ref 530), (1, .int (iI (wt - 1)))]) (st' := [.ref 530]) rfl ?_
  have h1738 := (n1736 530 (by decide)).trans (h1732)
  refine T_get xr_187_47 h1738 rfl (v := .ref 560) rfl (pc' := 50) rfl ?_
  refine T_p xr_187_50 xn_187 (pc' := 52) (ls' := [(5, .int (iI nc)), (4, .int (iI u)), (3, .int (iI j)), (2, .int (iI i)), (0, .ref 530), (1, .int (iI (wt - 1)))]) (st' := [.int (iI nc), .ref 560]) rfl ?_
  refine T_p xr_187_52 xn_187 (pc' := 53) (ls' := [(5, .int (iI nc)), (4, .int (iI u)), (3, .int (iI j)), (2, .int (iI i)), (0, .ref 530), (1, .int (iI (wt - 1)))]) (st' := [.ref 530, .int (iI nc), .ref 560]) rfl ?_
  refine T_get xr_187_53 h1738 rfl (v := .ref 567) rfl (pc' := 56) rfl ?_
  refine T_p xr_187_56 xn_187 (pc' := 57) (ls' := [(5, .int (iI nc)), (4, .int (iI u)), (3, .int (iI j)), (2, .int (iI i)), (0, .ref 530), (1, .int (iI (wt - 1)))]) (st' := [.int (iI (wt - 1)), .ref 567, .int (iI nc), .ref 560]) rfl ?_
  have h1739 := (n1736 567 (by decide)).trans ((n1730 567 (by decide)).trans (hA567))
  refine T_ziald xr_187_57 h1739 (pc' := 58) rfl ?_
  refine T_ie (y := iI p) (by rw [hpq.2.2.2.2.2.1]) ?_
  have h1740 := (n1736 560 (by decide)).trans ((n1730 560 (by decide)).trans (hA560))
  refine T_ziast xr_187_58 h1740 (pc' := 59) rfl (fun S1741 h1742 n1743 e1744 => ?_)
  refine T_p xr_187_59 xn_187 (pc' := 60) (ls' := [(5, .int (iI nc)), (4, .int (iI u)), (3, .int (iI j)), (2, .int (iI i)), (0, .ref 530), (1, .int (iI (wt - 1)))]) (st' := [.ref 530]) rfl ?_
  have h1745 := (n1743 530 (by decide)).trans (h1738)
  refine T_get xr_187_60 h1745 rfl (v := .ref 561) rfl (pc' := 63) rfl ?_
  refine T_p xr_187_63 xn_187 (pc' := 65) (ls' := [(5, .int (iI nc)), (4, .int (iI u)), (3, .int (iI j)), (2, .int (iI i)), (0, .ref 530), (1, .int (iI (wt - 1)))]) (st' := [.int (iI nc), .ref 561]) rfl ?_
  refine T_p xr_187_65 xn_187 (pc' := 66) (ls' := [(5, .int (iI nc)), (4, .int (iI u)), (3, .int (iI j)), (2, .int (iI i)), (0, .ref 530), (1, .int (iI (wt - 1)))]) (st' := [.ref 530, .int (iI nc), .ref 561]) rfl ?_
  refine T_get xr_187_66 h1745 rfl (v := .ref 568) rfl (pc' := 69) rfl ?_
  refine T_p xr_187_69 xn_187 (pc' := 70) (ls' := [(5, .int (iI nc)), (4, .int (iI u)), (3, .int (iI j)), (2, .int (iI i)), (0, .ref 530), (1, .int (iI (wt - 1)))]) (st' := [.int (iI (wt - 1)), .ref 568, .int (iI nc), .ref 561]) rfl ?_
  have h1746 := (n1743 568 (by decide)).trans ((n1736 568 (by decide)).trans ((n1730 568 (by decide)).trans (hA568)))
  refine T_ziald xr_187_70 h1746 (pc' := 71) rfl ?_
  refine T_ie (y := iI h5) (by rw [hpq.2.2.2.2.2.2.1]) ?_
  have h1747 := (n1743 561 (by decide)).trans ((n1736 561 (by decide)).trans ((n1730 561 (by decide)).trans (hA561)))
  refine T_ziast xr_187_71 h1747 (pc' := 72) rfl (fun S1748 h1749 n1750 e1751 => ?_)
  refine T_p xr_187_72 xn_187 (pc' := 73) (ls' := [(5, .int (iI nc)), (4, .int (iI u)), (3, .int (iI j)), (2, .int (iI i)), (0, .ref 530), (1, .int (iI (wt - 1)))]) (st' := [.ref 530]) rfl ?_
  refine T_p xr_187_73 xn_187 (pc' := 74) (ls' := [(5, .int (iI nc)), (4, .int (iI u)), (3, .int (iI j)), (2, .int (iI i)), (0, .ref 530), (1, .int (iI (wt - 1)))]) (st' := [.ref 530, .ref 530]) rfl ?_
  have h1752 := (n1750 530 (by decide)).trans (h1745)
  refine T_get xr_187_74 h1752 rfl (v := .int (iI nc)) rfl (pc' := 77) rfl ?_
  refine T_p xr_187_77 xn_187 (pc' := 78) (ls' := [(5, .int (iI nc)), (4, .int (iI u)), (3, .int (iI j)), (2, .int (iI i)), (0, .ref 530), (1, .int (iI (wt - 1)))]) (st' := [.int (iI 1), .int (iI nc), .ref 530]) rfl ?_
  refine T_ziadd xr_187_78 (z := nc + 1) rfl (pc' := 79) rfl ?_
  refine T_put xr_187_79 h1752 rfl (Nat.le_of_ble_eq_true rfl) rfl (fs' := [.ref 531, .int (iI (o 1)), .ref 532, .int (iI (o 3)), .int (iI b), .int (iI (o 5)), .int (iI (o 6)), .int (iI (o 7)), .int (iI (o 8)), .int (iI (o 9)), .int (iI (o 10)), .int (iI (o 11)), .long nm, .ref 533, .ref 534, .ref 535, .ref 536, .ref 537, .ref 538, .ref 539, .ref 540, .ref 541, .ref 542, .ref 543, .ref 544, .ref 545, .ref 546, .ref 547, .int (iI rc), .int (iI (gk G)), .int (iI (gw G)), .int (iI (o 31)), .int (iI (o 32)), .int (iI (o 33)), .ref 548, .ref 549, .ref 550, .ref 551, .int (iI tn), .ref 552, .ref 553, .ref 554, .ref 555, .ref 556, .ref 557, .ref 558, .ref 559, .ref 560, .ref 561, .int (iI (nc + 1)), .ref 562, .ref 563, .ref 564, .ref 565, .ref 566, .ref 567, .ref 568, .ref 569, .int (iI (wt - 1)), .ref 570, .ref 571, .ref 572, .ref 573, .ref 574, .ref 575, .ref 576, .ref 577, .ref 578, .int (iI (o 68)), .int (iI (o 69)), .int (iI (o 70)), .ref 579]) rfl (pc' := 82) rfl (fun S1753 h1754 n1755 e1756 => ?_)
  refine T_p xr_187_82 xn_187 (pc' := 83) (ls' := [(5, .int (iI nc)), (4, .int (iI u)), (3, .int (iI j)), (2, .int (iI i)), (0, .ref 530), (1, .int (iI (wt - 1)))]) (st' := [.ref 530]) rfl ?_
  refine T_get xr_187_83 h1754 rfl (v := .ref 569) rfl (pc' := 86) rfl ?_
  refine T_p xr_187_86 xn_187 (pc' := 87) (ls' := [(5, .int (iI nc)), (4, .int (iI u)), (3, .int (iI j)), (2, .int (iI i)), (0, .ref 530), (1, .int (iI (wt - 1)))]) (st' := [.int (iI (wt - 1)), .ref 569]) rfl ?_
  have h1757 := (n1755 569 (by decide)).trans ((n1750 569 (by decide)).trans ((n1743 569 (by decide)).trans ((n1736 569 (by decide)).trans ((n1730 569 (by decide)).trans (hA569)))))
  refine T_zlald xr_187_87 h1757 (pc' := 88) rfl ?_
  refine T_le (y := (iL (k : Int))) hpq.2.2.2.2.2.2.2 ?_
  refine T_p xr_187_88 xn_187 (pc' := 90) (ls' := [(6, .long (iL (k : Int))), (5, .int (iI nc)), (4, .int (iI u)), (3, .int (iI j)), (2, .int (iI i)), (0, .ref 530), (1, .int (iI (wt - 1)))]) (st' := []) rfl ?_
  refine T_p xr_187_90 xn_187 (pc' := 91) (ls' := [(6, .long (iL (k : Int))), (5, .int (iI nc)), (4, .int (iI u)), (3, .int (iI j)), (2, .int (iI i)), (0, .ref 530), (1, .int (iI (wt - 1)))]) (st' := [.ref 530]) rfl ?_
  refine T_get xr_187_91 h1754 rfl (v := .ref 566) rfl (pc' := 94) rfl ?_
  refine T_p xr_187_94 xn_187 (pc' := 95) (ls' := [(6, .long (iL (k : Int))), (5, .int (iI nc)), (4, .int (iI u)), (3, .int (iI j)), (2, .int (iI i)), (0, .ref 530), (1, .int (iI (wt - 1)))]) (st' := [.int (iI (wt - 1)), .ref 566]) rfl ?_
  have h1758 := (n1755 566 (by decide)).trans ((n1750 566 (by decide)).trans ((n1743 566 (by decide)).trans ((n1736 566 (by decide)).trans ((n1730 566 (by decide)).trans (hA566)))))
  refine T_ziald xr_187_95 h1758 (pc' := 96) rfl ?_
  refine T_ie (y := iI en) (by rw [hpq.2.2.2.2.1]) ?_
  refine T_p xr_187_96 xn_187 (pc' := 98) (ls' := [(8, .int (iI en)), (6, .long (iL (k : Int))), (5, .int (iI nc)), (4, .int (iI u)), (3, .int (iI j)), (2, .int (iI i)), (0, .ref 530), (1, .int (iI (wt - 1)))]) (st' := []) rfl ?_
  refine T_p xr_187_98 xn_187 (pc' := 99) (ls' := [(8, .int (iI en)), (6, .long (iL (k : Int))), (5, .int (iI nc)), (4, .int (iI u)), (3, .int (iI j)), (2, .int (iI i)), (0, .ref 530), (1, .int (iI (wt - 1)))]) (st' := [.ref 530]) rfl ?_
  refine T_get xr_187_99 h1754 rfl (v := .ref 565) rfl (pc' := 102) rfl ?_
  refine T_p xr_187_102 xn_187 (pc' := 103) (ls' := [(8, .int (iI en)), (6, .long (iL (k : Int))), (5, .int (iI nc)), (4, .int (iI u)), (3, .int (iI j)), (2, .int (iI i)), (0, .ref 530), (1, .int (iI (wt - 1)))]) (st' := [.int (iI (wt - 1)), .ref 565]) rfl ?_
  have h1759 := (n1755 565 (by decide)).trans ((n1750 565 (by decide)).trans ((n1743 565 (by decide)).trans ((n1736 565 (by decide)).trans ((n1730 565 (by decide)).trans (hA565)))))
  refine T_ziald xr_187_103 h1759 (pc' := 104) rfl ?_
  refine T_ie (y := iI w5) (by rw [hpq.2.2.2.1]) ?_
  refine T_p xr_187_104 xn_187 (pc' := 106) (ls' := [(9, .int (iI w5)), (8, .int (iI en)), (6, .long (iL (k : Int))), (5, .int (iI nc)), (4, .int (iI u)), (3, .int (iI j)), (2, .int (iI i)), (0, .ref 530), (1, .int (iI (wt - 1)))]) (st' := []) rfl ?_
  refine T_p xr_187_106 xn_187 (pc' := 107) (ls' := [(9, .int (iI w5)), (8, .int (iI en)), (6, .long (iL (k : Int))), (5, .int (iI nc)), (4, .int (iI u)), (3, .int (iI j)), (2, .int (iI i)), (0, .ref 530), (1, .int (iI (wt - 1)))]) (st' := [.ref 530]) rfl ?_
  refine T_p xr_187_107 xn_187 (pc' := 108) (ls' := [(9, .int (iI w5)), (8, .int (iI en)), (6, .long (iL (k : Int))), (5, .int (iI nc)), (4, .int (iI u)), (3, .int (iI j)), (2, .int (iI i)), (0, .ref 530), (1, .int (iI (wt - 1)))]) (st' := [.int (iI i), .ref 530]) rfl ?_
  refine T_p xr_187_108 xn_187 (pc' := 109) (ls' := [(9, .int (iI w5)), (8, .int (iI en)), (6, .long (iL (k : Int))), (5, .int (iI nc)), (4, .int (iI u)), (3, .int (iI j)), (2, .int (iI i)), (0, .ref 530), (1, .int (iI (wt - 1)))]) (st' := [.int (iI j), .int (iI i), .ref 530]) rfl ?_
  refine T_cv (S := S1753) (q := 530) xr_187_109 xf_176.1 xf_176.2.1 xn_176 (as := [.int (iI i), .int (iI j)]) (r := []) rfl h1754 (Nat.le_of_ble_eq_true rfl) (Nat.le_of_ble_eq_true rfl) (pc' := 112) rfl (ls' := [(0, .ref 530), (1, .int (iI i)), (2, .int (iI j))]) rfl ?_
  have h1760 := (n1755 550 (by decide)).trans ((n1750 550 (by decide)).trans ((n1743 550 (by decide)).trans ((n1736 550 (by decide)).trans ((n1730 550 (by decide)).trans (hA550)))))
  refine T_mono (r_isNumber sc S1753 tU (X_ou (X_ou o 49 (nc + 1)) 58 (wt - 1)) nm b rc G tn i j h1754 h1760 (by omega) hTU (by omega)) (fun v1761 S1762 h1763 => ?_)
  rcases h1763 with ⟨hv1764, hf1765⟩
  rw [hv1764]
  rw [hf1765]
  show X_T sc 187 (112, [(9, .int (iI w5)), (8, .int (iI en)), (6, .long (iL (k : Int))), (5, .int (iI nc)), (4, .int (iI u)), (3, .int (iI j)), (2, .int (iI i)), (0, .ref 530), (1, .int (iI (wt - 1)))], [.int (iI (bI (j = i + 1 ∧ 0 ≤ X_nv (gt G i))))], S1753) _
  refine T_bif_eq xr_187_112 (t := 125) (pc' := 115) rfl rfl (fun c1766 => ?_) (fun c1766 => ?_)
  · skip
    have c1766 : ¬ (j = i + 1 ∧ 0 ≤ X_nv (gt G i)) := c1766
    have hnum : ¬ (j = i + 1 ∧ 0 ≤ X_nv (gt G i)) := by assumption
    refine T_p xr_187_125 xn_187 (pc' := 126) (ls' := [(9, .int (iI w5)), (8, .int (iI en)), (6, .long (iL (k : Int))), (5, .int (iI nc)), (4, .int (iI u)), (3, .int (iI j)), (2, .int (iI i)), (0, .ref 530), (1, .int (iI (wt - 1)))]) (st' := [.int (iI 0)]) rfl ?_
    refine T_p xr_187_126 xn_187 (pc' := 128) (ls' := [(10, .int (iI 0)), (9, .int (iI w5)), (8, .int (iI en)), (6, .long (iL (k : Int))), (5, .int (iI nc)), (4, .int (iI u)), (3, .int (iI j)), (2, .int (iI i)), (0, .ref 530), (1, .int (iI (wt - 1)))]) (st' := []) rfl ?_
    refine T_p xr_187_128 xn_187 (pc' := 129) (ls' := [(10, .int (iI 0)), (9, .int (iI w5)), (8, .int (iI en)), (6, .long (iL (k : Int))), (5, .int (iI nc)), (4, .int (iI u)), (3, .int (iI j)), (2, .int (iI i)), (0, .ref 530), (1, .int (iI (wt - 1)))]) (st' := [.int (iI 0)]) rfl ?_
    refine T_p xr_187_129 xn_187 (pc' := 131) (ls' := [(11, .int (iI 0)), (10, .int (iI 0)), (9, .int (iI w5)), (8, .int (iI en)), (6, .long (iL (k : Int))), (5, .int (iI nc)), (4, .int (iI u)), (3, .int (iI j)), (2, .int (iI i)), (0, .ref 530), (1, .int (iI (wt - 1)))]) (st' := []) rfl ?_
    have L1767 : ∀ (m1769 : Nat) (x : Int) (fd : Int) (hx : 0 ≤ x ∧ x ≤ gk G) (hfd : (fd = 0 ∧ ∀ y, 0 ≤ y → y < x → (X_T_ G).2 y i j = 0) ∨ (fd = 1 ∧ ∃ y, ¬ (X_T_ G).2 y i j = 0)) (hm1770 : gk G - x < m1769), X_T sc 187 (131, [(11, .int (iI x)), (10, .int (iI fd)), (6, .long (iL (k : Int))), (9, .int (iI w5)), (8, .int (iI en)), (5, .int (iI nc)), (4, .int (iI u)), (3, .int (iI j)), (2, .int (iI i)), (1, .int (iI (wt - 1))), (0, .ref 530)], [], S1753) Q := by
      intro m1769
      induction m1769 with
      | zero =>
        intro x fd hx hfd hm1770
        exact (show False by omega).elim
      | succ m1769 ih1768 =>
        intro x fd hx hfd hm1770
        refine T_p xr_187_131 xn_187 (pc' := 133) (ls' := [(11, .int (iI x)), (10, .int (iI fd)), (6, .long (iL (k : Int))), (9, .int (iI w5)), (8, .int (iI en)), (5, .int (iI nc)), (4, .int (iI u)), (3, .int (iI j)), (2, .int (iI i)), (1, .int (iI (wt - 1))), (0, .ref 530)]) (st' := [.int (iI x)]) rfl ?_
        refine T_p xr_187_133 xn_187 (pc' := 134) (ls' := [(11, .int (iI x)), (10, .int (iI fd)), (6, .long (iL (k : Int))), (9, .int (iI w5)), (8, .int (iI en)), (5, .int (iI nc)), (4, .int (iI u)), (3, .int (iI j)), (2, .int (iI i)), (1, .int (iI (wt - 1))), (0, .ref 530)]) (st' := [.ref 530, .int (iI x)]) rfl ?_
        refine T_get xr_187_134 h1754 rfl (v := .int (iI (gk G))) rfl (pc' := 137) rfl ?_
        refine T_zicmp_ge xr_187_137 (t := 180) (pc' := 140) rfl rfl (fun c1772 => ?_) (fun c1772 => ?_)
        · skip
          have c1772 : (gk G) ≤ x := c1772
          refine T_p xr_187_180 xn_187 (pc' := 182) (ls' := [(11, .int (iI x)), (10, .int (iI fd)), (6, .long (iL (k : Int))), (9, .int (iI w5)), (8, .int (iI en)), (5, .int (iI nc)), (4, .int (iI u)), (3, .int (iI j)), (2, .int (iI i)), (1, .int (iI (wt - 1))), (0, .ref 530)]) (st' := [.int (iI fd)]) rfl ?_
          refine T_zif_eq xr_187_182 (t := 214) (pc' := 185) rfl rfl (fun c1773 => ?_) (fun c1773 => ?_)
          · skip
            have c1773 : fd = 0 := c1773
            have hq0 : X_Hq G (X_T_ G) u i j = 0 := by
              refine R_wrd hnum (fun y h1 h2 => ?_)
              rcases hfd with h | h
              · exact h.2 y h1 (by omega)
              · exact absurd h.1 (by omega)
            have hkq : ¬ k < X_Hq G (X_T_ G) u i j := by omega
            have hkV : k < X_Su (X_cF G u w5 en i j) 0 (gw G) := by
              have z : X_Hc G (X_T_ G) u w5 en i j = X_Hq G (X_T_ G) u i j + X_Su (X_cF G u w5 en i j) 0 (gw G) := rfl
              omega
            refine T_p xr_187_214 xn_187 (pc' := 215) (ls' := [(11, .int (iI x)), (10, .int (iI fd)), (6, .long (iL (k : Int))), (9, .int (iI w5)), (8, .int (iI en)), (5, .int (iI nc)), (4, .int (iI u)), (3, .int (iI j)), (2, .int (iI i)), (1, .int (iI (wt - 1))), (0, .ref 530)]) (st' := [.int (iI 0)]) rfl ?_
            refine T_p xr_187_215 xn_187 (pc' := 217) (ls' := [(11, .int (iI 0)), (10, .int (iI fd)), (6, .long (iL (k : Int))), (9, .int (iI w5)), (8, .int (iI en)), (5, .int (iI nc)), (4, .int (iI u)), (3, .int (iI j)), (2, .int (iI i)), (1, .int (iI (wt - 1))), (0, .ref 530)]) (st' := []) rfl ?_
            refine T_p xr_187_217 xn_187 (pc' := 218) (ls' := [(11, .int (iI 0)), (10, .int (iI fd)), (6, .long (iL (k : Int))), (9, .int (iI w5)), (8, .int (iI en)), (5, .int (iI nc)), (4, .int (iI u)), (3, .int (iI j)), (2, .int (iI i)), (1, .int (iI (wt - 1))), (0, .ref 530)]) (st' := [.int (iI 0)]) rfl ?_
            refine T_p xr_187_218 xn_187 (pc' := 220) (ls' := [(12, .int (iI 0)), (11, .int (iI 0)), (10, .int (iI fd)), (6, .long (iL (k : Int))), (9, .int (iI w5)), (8, .int (iI en)), (5, .int (iI nc)), (4, .int (iI u)), (3, .int (iI j)), (2, .int (iI i)), (1, .int (iI (wt - 1))), (0, .ref 530)]) (st' := []) rfl ?_
            have L1774 : ∀ (m1776 : Nat) (v : Int) (fv : Int) (k3 : Nat) (hvr : 0 ≤ v ∧ v ≤ gw G) (hk3 : k3 ≤ 9223372036854775807) (hfv : (fv = 0 ∧ k = X_Su (X_cF G u w5 en i j) 0 v + k3) ∨ (fv = 1 ∧ v < gw G ∧ k = X_Su (X_cF G u w5 en i j) 0 v + k3 ∧ k3 < X_cF G u w5 en i j v)) (hm1777 : 2 * (gw G - v) + 1 - fv < m1776), X_T sc 187 (220, [(12, .int (iI fv)), (11, .int (iI v)), (6, .long (iL (k3 : Int))), (9, .int (iI w5)), (8, .int (iI en)), (5, .int (iI nc)), (4, .int (iI u)), (3, .int (iI j)), (2, .int (iI i)), (1, .int (iI (wt - 1))), (0, .ref 530)], [], S1753) Q := by
              intro m1776
              induction m1776 with
              | zero =>
                intro v fv k3 hvr hk3 hfv hm1777
                exact (show False by omega).elim
              | succ m1776 ih1775 =>
                intro v fv k3 hvr hk3 hfv hm1777
                have hvv0 : fv = 0 → v < gw G ∧ k = X_Su (X_cF G u w5 en i j) 0 v + k3 := fun z => by
                  rcases hfv with h | h
                  · refine ⟨?_, h.2⟩
                    by_cases hj : v = gw G
                    · rw [hj] at h; omega
                    · omega
                  · exact absurd h.1 (by omega)
                refine T_p xr_187_220 xn_187 (pc' := 222) (ls' := [(12, .int (iI fv)), (11, .int (iI v)), (6, .long (iL (k3 : Int))), (9, .int (iI w5)), (8, .int (iI en)), (5, .int (iI nc)), (4, .int (iI u)), (3, .int (iI j)), (2, .int (iI i)), (1, .int (iI (wt - 1))), (0, .ref 530)]) (st' := [.int (iI fv)]) rfl ?_
                refine T_zif_ne xr_187_222 (t := 340) (pc' := 225) rfl rfl (fun c1779 => ?_) (fun c1779 => ?_)
                · skip
                  have c1779 : ¬ fv = 0 := c1779
                  have hfv2 : v < gw G ∧ k = X_Su (X_cF G u w5 en i j) 0 v + k3 ∧ k3 < X_cF G u w5 en i j v := by
                    rcases hfv with h | h
                    · exact absurd h.1 (by omega)
                    · exact h.2
                  have hv : 0 ≤ v ∧ v < gw G := ⟨by omega, hfv2.1⟩
                  have hkT : k3 < (X_T_ G).1 v i j := (X_if_p (Nat.lt_of_le_of_lt (Nat.zero_le _) hfv2.2.2)).1 |> fun z => by
                    have e := hfv2.2.2
                    rw [show X_cF G u w5 en i j v = (X_T_ G).1 v i j from X_if_t z] at e
                    exact e
                  have hfd : X_fd (X_cF G u w5 en i j) (gw G).toNat 0 (k - X_Hq G (X_T_ G) u i j) = (v, k3) := X_fd_u _ _ _ _ _ (by omega) (by omega) (by rw [hq0]; omega) hfv2.2.2
                  have hpl0 := hpl
                  have hpl := hpl0.less (show wt - 1 ≤ wt by omega)
                  refine T_p xr_187_340 xn_187 (pc' := 341) (ls' := [(12, .int (iI fv)), (11, .int (iI v)), (6, .long (iL (k3 : Int))), (9, .int (iI w5)), (8, .int (iI en)), (5, .int (iI nc)), (4, .int (iI u)), (3, .int (iI j)), (2, .int (iI i)), (1, .int (iI (wt - 1))), (0, .ref 530)]) (st' := [.ref 530]) rfl ?_
                  refine T_get xr_187_341 h1754 rfl (v := .ref 557) rfl (pc' := 344) rfl ?_
                  refine T_p xr_187_344 xn_187 (pc' := 346) (ls' := [(12, .int (iI fv)), (11, .int (iI v)), (6, .long (iL (k3 : Int))), (9, .int (iI w5)), (8, .int (iI en)), (5, .int (iI nc)), (4, .int (iI u)), (3, .int (iI j)), (2, .int (iI i)), (1, .int (iI (wt - 1))), (0, .ref 530)]) (st' := [.int (iI nc), .ref 557]) rfl ?_
                  refine T_p xr_187_346 xn_187 (pc' := 348) (ls' := [(12, .int (iI fv)), (11, .int (iI v)), (6, .long (iL (k3 : Int))), (9, .int (iI w5)), (8, .int (iI en)), (5, .int (iI nc)), (4, .int (iI u)), (3, .int (iI j)), (2, .int (iI i)), (1, .int (iI (wt - 1))), (0, .ref 530)]) (st' := [.int (iI v), .int (iI nc), .ref 557]) rfl ?_
                  have h1780 := (n1755 557 (by decide)).trans ((n1750 557 (by decide)).trans ((n1743 557 (by decide)).trans ((n1736 557 (by decide)).trans ((n1730 557 (by decide)).trans (hA557)))))
                  refine T_ziast xr_187_348 h1780 (pc' := 349) rfl (fun S1781 h1782 n1783 e1784 => ?_)
                  refine T_p xr_187_349 xn_187 (pc' := 350) (ls' := [(12, .int (iI fv)), (11, .int (iI v)), (6, .long (iL (k3 : Int))), (9, .int (iI w5)), (8, .int (iI en)), (5, .int (iI nc)), (4, .int (iI u)), (3, .int (iI j)), (2, .int (iI i)), (1, .int (iI (wt - 1))), (0, .ref 530)]) (st' := [.ref 530]) rfl ?_
                  refine T_p xr_187_350 xn_187 (pc' := 352) (ls' := [(12, .int (iI fv)), (11, .int (iI v)), (6, .long (iL (k3 : Int))), (9, .int (iI w5)), (8, .int (iI en)), (5, .int (iI nc)), (4, .int (iI u)), (3, .int (iI j)), (2, .int (iI i)), (1, .int (iI (wt - 1))), (0, .ref 530)]) (st' := [.int (iI v), .ref 530]) rfl ?_
                  refine T_p xr_187_352 xn_187 (pc' := 353) (ls' := [(12, .int (iI fv)), (11, .int (iI v)), (6, .long (iL (k3 : Int))), (9, .int (iI w5)), (8, .int (iI en)), (5, .int (iI nc)), (4, .int (iI u)), (3, .int (iI j)), (2, .int (iI i)), (1, .int (iI (wt - 1))), (0, .ref 530)]) (st' := [.int (iI i), .int (iI v), .ref 530]) rfl ?_
                  refine T_p xr_187_353 xn_187 (pc' := 354) (ls' := [(12, .int (iI fv)), (11, .int (iI v)), (6, .long (iL (k3 : Int))), (9, .int (iI w5)), (8, .int (iI en)), (5, .int (iI nc)), (4, .int (iI u)), (3, .int (iI j)), (2, .int (iI i)), (1, .int (iI (wt - 1))), (0, .ref 530)]) (st' := [.int (iI j), .int (iI i), .int (iI v), .ref 530]) rfl ?_
                  refine T_p xr_187_354 xn_187 (pc' := 356) (ls' := [(12, .int (iI fv)), (11, .int (iI v)), (6, .long (iL (k3 : Int))), (9, .int (iI w5)), (8, .int (iI en)), (5, .int (iI nc)), (4, .int (iI u)), (3, .int (iI j)), (2, .int (iI i)), (1, .int (iI (wt - 1))), (0, .ref 530)]) (st' := [.long (iL (k3 : Int)), .int (iI j), .int (iI i), .int (iI v), .ref 530]) rfl ?_
                  refine T_p xr_187_356 xn_187 (pc' := 358) (ls' := [(12, .int (iI fv)), (11, .int (iI v)), (6, .long (iL (k3 : Int))), (9, .int (iI w5)), (8, .int (iI en)), (5, .int (iI nc)), (4, .int (iI u)), (3, .int (iI j)), (2, .int (iI i)), (1, .int (iI (wt - 1))), (0, .ref 530)]) (st' := [.int (iI nc), .long (iL (k3 : Int)), .int (iI j), .int (iI i), .int (iI v), .ref 530]) rfl ?_
                  have h1785 := (n1783 530 (by decide)).trans (h1754)
                  refine T_cv (S := S1781) (q := 530) xr_187_358 xf_189.1 xf_189.2.1 xn_189 (as := [.int (iI v), .int (iI i), .int (iI j), .long (iL (k3 : Int)), .int (iI nc)]) (r := []) rfl h1785 (Nat.le_of_ble_eq_true rfl) (Nat.le_of_ble_eq_true rfl) (pc' := 361) rfl (ls' := [(0, .ref 530), (1, .int (iI v)), (2, .int (iI i)), (3, .int (iI j)), (4, .long (iL (k3 : Int))), (6, .int (iI nc))]) rfl ?_
                  have h1786 := (n1783 540 (by decide)).trans ((n1755 540 (by decide)).trans ((n1750 540 (by decide)).trans ((n1743 540 (by decide)).trans ((n1736 540 (by decide)).trans ((n1730 540 (by decide)).trans (hA540))))))
                  have h1787 := (n1783 541 (by decide)).trans ((n1755 541 (by decide)).trans ((n1750 541 (by decide)).trans ((n1743 541 (by decide)).trans ((n1736 541 (by decide)).trans ((n1730 541 (by decide)).trans (hA541))))))
                  have h1788 := (n1783 545 (by decide)).trans ((n1755 545 (by decide)).trans ((n1750 545 (by decide)).trans ((n1743 545 (by decide)).trans ((n1736 545 (by decide)).trans ((n1730 545 (by decide)).trans (hA545))))))
                  have h1789 := (n1783 546 (by decide)).trans ((n1755 546 (by decide)).trans ((n1750 546 (by decide)).trans ((n1743 546 (by decide)).trans ((n1736 546 (by decide)).trans ((n1730 546 (by decide)).trans (hA546))))))
                  have h1790 := (n1783 547 (by decide)).trans ((n1755 547 (by decide)).trans ((n1750 547 (by decide)).trans ((n1743 547 (by decide)).trans ((n1736 547 (by decide)).trans ((n1730 547 (by decide)).trans (hA547))))))
                  have h1791 := (n1783 548 (by decide)).trans ((n1755 548 (by decide)).trans ((n1750 548 (by decide)).trans ((n1743 548 (by decide)).trans ((n1736 548 (by decide)).trans ((n1730 548 (by decide)).trans (hA548))))))
                  have h1792 := (n1783 552 (by decide)).trans ((n1755 552 (by decide)).trans ((n1750 552 (by decide)).trans ((n1743 552 (by decide)).trans ((n1736 552 (by decide)).trans ((n1730 552 (by decide)).trans (hA552))))))
                  have h1793 := (n1783 553 (by decide)).trans ((n1755 553 (by decide)).trans ((n1750 553 (by decide)).trans ((n1743 553 (by decide)).trans ((n1736 553 (by decide)).trans ((n1730 553 (by decide)).trans (hA553))))))
                  have h1794 := (n1783 554 (by decide)).trans ((n1755 554 (by decide)).trans ((n1750 554 (by decide)).trans ((n1743 554 (by decide)).trans ((n1736 554 (by decide)).trans ((n1730 554 (by decide)).trans (hA554))))))
                  have h1795 := (n1783 562 (by decide)).trans ((n1755 562 (by decide)).trans ((n1750 562 (by decide)).trans ((n1743 562 (by decide)).trans ((n1736 562 (by decide)).trans ((n1730 562 (by decide)).trans (hA562))))))
                  have h1796 := (n1783 563 (by decide)).trans ((n1755 563 (by decide)).trans ((n1750 563 (by decide)).trans ((n1743 563 (by decide)).trans ((n1736 563 (by decide)).trans ((n1730 563 (by decide)).trans (hA563))))))
                  have h1797 := (n1783 564 (by decide)).trans ((n1755 564 (by decide)).trans ((n1750 564 (by decide)).trans ((n1743 564 (by decide)).trans ((n1736 564 (by decide)).trans ((n1730 564 (by decide)).trans (hA564))))))
                  have h1798 := (n1783 565 (by decide)).trans (h1759)
                  have h1799 := (n1783 566 (by decide)).trans (h1758)
                  have h1800 := (n1783 567 (by decide)).trans ((n1755 567 (by decide)).trans ((n1750 567 (by decide)).trans ((n1743 567 (by decide)).trans (h1739))))
                  have h1801 := (n1783 568 (by decide)).trans ((n1755 568 (by decide)).trans ((n1750 568 (by decide)).trans (h1746)))
                  have h1802 := (n1783 569 (by decide)).trans (h1757)
                  have h1803 := (n1783 570 (by decide)).trans ((n1755 570 (by decide)).trans ((n1750 570 (by decide)).trans ((n1743 570 (by decide)).trans ((n1736 570 (by decide)).trans ((n1730 570 (by decide)).trans (hA570))))))
                  have h1804 := (n1783 571 (by decide)).trans ((n1755 571 (by decide)).trans ((n1750 571 (by decide)).trans ((n1743 571 (by decide)).trans ((n1736 571 (by decide)).trans ((n1730 571 (by decide)).trans (hA571))))))
                  have h1805 := (n1783 572 (by decide)).trans ((n1755 572 (by decide)).trans ((n1750 572 (by decide)).trans ((n1743 572 (by decide)).trans ((n1736 572 (by decide)).trans ((n1730 572 (by decide)).trans (hA572))))))
                  have h1806 := (n1783 573 (by decide)).trans ((n1755 573 (by decide)).trans ((n1750 573 (by decide)).trans ((n1743 573 (by decide)).trans ((n1736 573 (by decide)).trans ((n1730 573 (by decide)).trans (hA573))))))
                  refine T_mono (r_cut sc S1781 wM wH eP eH hK tT oW oK oH pF pT pS pH pW pP pQ pN cF cT cN rr (X_ou (X_ou o 49 (nc + 1)) 58 (wt - 1)) nm b rc G tn (wt - 1) v i j k3 nc St h1785 h1786 h1787 h1788 h1789 h1790 h1791 h1792 h1793 h1794 h1795 h1796 h1797 h1798 h1799 h1800 h1801 h1802 h1803 h1804 h1805 h1806 (by omega) hG (by omega) hTT hWM hWH hEP hEH hHK (by omega) (by omega) hCt (by omega) (by omega) (by omega) hpl) (fun v1807 S1808 h1809 => ?_)
                  rcases h1809 with ⟨l1810, HF1811, HE1812, hp1813, St1814, pF1815, pT1816, pS1817, pH1818, pW1819, pP1820, pQ1821, pN1822, cF1823, cT1824, cN1825, rr1826, hv1827, hp1828, hp1829, hp1830, hp1831, ho1832, ha1833, ha1834, ha1835, ha1836, ha1837, ha1838, ha1839, ha1840, ha1841, ha1842, ha1843, ha1844, hf1845⟩
                  rw [hv1827]
                  show X_T sc 187 (361, [(12, .int (iI fv)), (11, .int (iI v)), (6, .long (iL (k3 : Int))), (9, .int (iI w5)), (8, .int (iI en)), (5, .int (iI nc)), (4, .int (iI u)), (3, .int (iI j)), (2, .int (iI i)), (1, .int (iI (wt - 1))), (0, .ref 530)], [], S1808) _
                  refine T_vret xr_187_361 xf_187.2.2 ?_
                  refine hQ _ _ ?_
                  have h1846 := (hf1845.1 557 (by omega)).trans (h1782)
                  have h1847 := (hf1845.1 558 (by omega)).trans ((n1783 558 (by decide)).trans ((n1755 558 (by decide)).trans ((n1750 558 (by decide)).trans ((n1743 558 (by decide)).trans ((n1736 558 (by decide)).trans (h1729))))))
                  have h1848 := (hf1845.1 559 (by omega)).trans ((n1783 559 (by decide)).trans ((n1755 559 (by decide)).trans ((n1750 559 (by decide)).trans ((n1743 559 (by decide)).trans (h1735)))))
                  have h1849 := (hf1845.1 560 (by omega)).trans ((n1783 560 (by decide)).trans ((n1755 560 (by decide)).trans ((n1750 560 (by decide)).trans (h1742))))
                  have h1850 := (hf1845.1 561 (by omega)).trans ((n1783 561 (by decide)).trans ((n1755 561 (by decide)).trans (h1749)))
                  exact ⟨hp1813, St1814, (X_nn N nc v i (j - i) p h5), (X_ug nW nc v), (X_ug nF nc i), (X_ug nL nc (j - i)), (X_ug nP nc p), (X_ug nH nc h5), pF1815, pT1816, pS1817, pH1818, pW1819, pP1820, pQ1821, pN1822, cF1823, cT1824, cN1825, rr1826, rfl, (by
                        have z := X_mk_w (N := N) (nc := nc) ht hkq hfd hp1828
                        rw [hp1829] at z
                        exact z), hp1830, (R_nd.add hnd _ _ _ _ _), (by
                        have z := (X_Mok_w (N' := X_nn N nc v i (j - i) p h5) hG htn.2 hM hwt ht hv hkT (by omega) hp1828 hp1831).2.2.2
                        rw [hp1829] at z
                        exact z), ho1832, h1846, h1847, h1848, h1849, h1850, ha1833, ha1834, ha1835, ha1836, ha1837, ha1838, ha1839, ha1840, ha1841, ha1842, ha1843, ha1844, (((((((X_Fr.rf).tr (X_Fr.of n1730 e1731 (by omega))).tr (X_Fr.of n1736 e1737 (by omega))).tr (X_Fr.of n1743 e1744 (by omega))).tr (X_Fr.of n1750 e1751 (by omega))).tr (X_Fr.of n1755 e1756 (by omega))).tr (X_Fr.of n1783 e1784 (by omega))).tr (X_Fr.mono ⟨hf1845.1, hf1845.2⟩ (fun q hq => (by omega)))⟩
                · skip
                  have c1779 : ¬ (¬ fv = 0) := c1779
                  have J1851 : X_T sc 187 (267, [(12, .int (iI fv)), (11, .int (iI v)), (6, .long (iL (k3 : Int))), (9, .int (iI w5)), (8, .int (iI en)), (5, .int (iI nc)), (4, .int (iI u)), (3, .int (iI j)), (2, .int (iI i)), (1, .int (iI (wt - 1))), (0, .ref 530)], [.int (iI (bI (X_bt (ga G (gD G v 2 0)) u ∧ X_lt G w5 en v)))], S1753) Q := by
                    have hvv := hvv0 (by omega)
                    have hkdv := hG.kd v (by omega) (by omega)
                    refine T_p xr_187_267 xn_187 (pc' := 269) (ls' := [(13, .int (iI (bI (X_bt (ga G (gD G v 2 0)) u ∧ X_lt G w5 en v)))), (12, .int (iI fv)), (11, .int (iI v)), (6, .long (iL (k3 : Int))), (9, .int (iI w5)), (8, .int (iI en)), (5, .int (iI nc)), (4, .int (iI u)), (3, .int (iI j)), (2, .int (iI i)), (1, .int (iI (wt - 1))), (0, .ref 530)]) (st' := []) rfl ?_
                    have J1852 : X_T sc 187 (295, [(13, .int (iI (bI (X_bt (ga G (gD G v 2 0)) u ∧ X_lt G w5 en v)))), (12, .int (iI fv)), (11, .int (iI v)), (6, .long (iL (k3 : Int))), (9, .int (iI w5)), (8, .int (iI en)), (5, .int (iI nc)), (4, .int (iI u)), (3, .int (iI j)), (2, .int (iI i)), (1, .int (iI (wt - 1))), (0, .ref 530)], [.long (X_st (-1) (X_cF G u w5 en i j v))], S1753) Q := by
                      refine T_p xr_187_295 xn_187 (pc' := 297) (ls' := [(14, .long (X_st (-1) (X_cF G u w5 en i j v))), (13, .int (iI (bI (X_bt (ga G (gD G v 2 0)) u ∧ X_lt G w5 en v)))), (12, .int (iI fv)), (11, .int (iI v)), (6, .long (iL (k3 : Int))), (9, .int (iI w5)), (8, .int (iI en)), (5, .int (iI nc)), (4, .int (iI u)), (3, .int (iI j)), (2, .int (iI i)), (1, .int (iI (wt - 1))), (0, .ref 530)]) (st' := []) rfl ?_
                      have J1853 : X_T sc 187 (317, [(14, .long (X_st (-1) (X_cF G u w5 en i j v))), (13, .int (iI (bI (X_bt (ga G (gD G v 2 0)) u ∧ X_lt G w5 en v)))), (12, .int (iI fv)), (11, .int (iI v)), (6, .long (iL (k3 : Int))), (9, .int (iI w5)), (8, .int (iI en)), (5, .int (iI nc)), (4, .int (iI u)), (3, .int (iI j)), (2, .int (iI i)), (1, .int (iI (wt - 1))), (0, .ref 530)], [.int (iI (bI (k3 < X_cF G u w5 en i j v)))], S1753) Q := by
                        refine T_p xr_187_317 xn_187 (pc' := 319) (ls' := [(12, .int (iI (bI (k3 < X_cF G u w5 en i j v)))), (14, .long (X_st (-1) (X_cF G u w5 en i j v))), (13, .int (iI (bI (X_bt (ga G (gD G v 2 0)) u ∧ X_lt G w5 en v)))), (11, .int (iI v)), (6, .long (iL (k3 : Int))), (9, .int (iI w5)), (8, .int (iI en)), (5, .int (iI nc)), (4, .int (iI u)), (3, .int (iI j)), (2, .int (iI i)), (1, .int (iI (wt - 1))), (0, .ref 530)]) (st' := []) rfl ?_
                        refine T_p xr_187_319 xn_187 (pc' := 321) (ls' := [(12, .int (iI (bI (k3 < X_cF G u w5 en i j v)))), (14, .long (X_st (-1) (X_cF G u w5 en i j v))), (13, .int (iI (bI (X_bt (ga G (gD G v 2 0)) u ∧ X_lt G w5 en v)))), (11, .int (iI v)), (6, .long (iL (k3 : Int))), (9, .int (iI w5)), (8, .int (iI en)), (5, .int (iI nc)), (4, .int (iI u)), (3, .int (iI j)), (2, .int (iI i)), (1, .int (iI (wt - 1))), (0, .ref 530)]) (st' := [.int (iI (bI (k3 < X_cF G u w5 en i j v)))]) rfl ?_
                        refine T_bif_eq xr_187_321 (t := 327) (pc' := 324) rfl rfl (fun c1854 => ?_) (fun c1854 => ?_)
                        · skip
                          have c1854 : ¬ (k3 < X_cF G u w5 en i j v) := c1854
                          have hbf : bI (k3 < X_cF G u w5 en i j v) = 0 := bI_f (by assumption)
                          refine T_p xr_187_327 xn_187 (pc' := 329) (ls' := [(12, .int (iI (bI (k3 < X_cF G u w5 en i j v)))), (14, .long (X_st (-1) (X_cF G u w5 en i j v))), (13, .int (iI (bI (X_bt (ga G (gD G v 2 0)) u ∧ X_lt G w5 en v)))), (11, .int (iI v)), (6, .long (iL (k3 : Int))), (9, .int (iI w5)), (8, .int (iI en)), (5, .int (iI nc)), (4, .int (iI u)), (3, .int (iI j)), (2, .int (iI i)), (1, .int (iI (wt - 1))), (0, .ref 530)]) (st' := [.long (iL (k3 : Int))]) rfl ?_
                          refine T_p xr_187_329 xn_187 (pc' := 331) (ls' := [(12, .int (iI (bI (k3 < X_cF G u w5 en i j v)))), (14, .long (X_st (-1) (X_cF G u w5 en i j v))), (13, .int (iI (bI (X_bt (ga G (gD G v 2 0)) u ∧ X_lt G w5 en v)))), (11, .int (iI v)), (6, .long (iL (k3 : Int))), (9, .int (iI w5)), (8, .int (iI en)), (5, .int (iI nc)), (4, .int (iI u)), (3, .int (iI j)), (2, .int (iI i)), (1, .int (iI (wt - 1))), (0, .ref 530)]) (st' := [.long (X_st (-1) (X_cF G u w5 en i j v)), .long (iL (k3 : Int))]) rfl ?_
                          refine T_p xr_187_331 xn_187 (pc' := 332) (ls' := [(12, .int (iI (bI (k3 < X_cF G u w5 en i j v)))), (14, .long (X_st (-1) (X_cF G u w5 en i j v))), (13, .int (iI (bI (X_bt (ga G (gD G v 2 0)) u ∧ X_lt G w5 en v)))), (11, .int (iI v)), (6, .long (iL (k3 : Int))), (9, .int (iI w5)), (8, .int (iI en)), (5, .int (iI nc)), (4, .int (iI u)), (3, .int (iI j)), (2, .int (iI i)), (1, .int (iI (wt - 1))), (0, .ref 530)]) (st' := [.long ((iL (k3 : Int)) - (X_st (-1) (X_cF G u w5 en i j v)))]) rfl ?_
                          refine T_le (y := (iL ((k3 - X_cF G u w5 en i j v : Nat) : Int))) (by
                                have hnl : ¬ k3 < X_cF G u w5 en i j v := by assumption
                                rw [X_st_lo (m := -1) (a := X_cF G u w5 en i j v) (by omega)]; exact iL_sub (by omega)) ?_
                          refine T_p xr_187_332 xn_187 (pc' := 334) (ls' := [(6, .long (iL ((k3 - X_cF G u w5 en i j v : Nat) : Int))), (12, .int (iI (bI (k3 < X_cF G u w5 en i j v)))), (14, .long (X_st (-1) (X_cF G u w5 en i j v))), (13, .int (iI (bI (X_bt (ga G (gD G v 2 0)) u ∧ X_lt G w5 en v)))), (11, .int (iI v)), (9, .int (iI w5)), (8, .int (iI en)), (5, .int (iI nc)), (4, .int (iI u)), (3, .int (iI j)), (2, .int (iI i)), (1, .int (iI (wt - 1))), (0, .ref 530)]) (st' := []) rfl ?_
                          refine T_ziinc xr_187_334 xn_187 (a := v) (z := v + 1) rfl (Nat.le_of_ble_eq_true rfl) (by omega) (ls' := [(11, .int (iI (v + 1))), (6, .long (iL ((k3 - X_cF G u w5 en i j v : Nat) : Int))), (12, .int (iI (bI (k3 < X_cF G u w5 en i j v)))), (14, .long (X_st (-1) (X_cF G u w5 en i j v))), (13, .int (iI (bI (X_bt (ga G (gD G v 2 0)) u ∧ X_lt G w5 en v)))), (9, .int (iI w5)), (8, .int (iI en)), (5, .int (iI nc)), (4, .int (iI u)), (3, .int (iI j)), (2, .int (iI i)), (1, .int (iI (wt - 1))), (0, .ref 530)]) rfl (pc' := 337) rfl ?_
                          refine T_p xr_187_337 xn_187 (pc' := 220) (ls' := [(11, .int (iI (v + 1))), (6, .long (iL ((k3 - X_cF G u w5 en i j v : Nat) : Int))), (12, .int (iI (bI (k3 < X_cF G u w5 en i j v)))), (14, .long (X_st (-1) (X_cF G u w5 en i j v))), (13, .int (iI (bI (X_bt (ga G (gD G v 2 0)) u ∧ X_lt G w5 en v)))), (9, .int (iI w5)), (8, .int (iI en)), (5, .int (iI nc)), (4, .int (iI u)), (3, .int (iI j)), (2, .int (iI i)), (1, .int (iI (wt - 1))), (0, .ref 530)]) (st' := []) rfl ?_
                          refine T_sub (ls := [(12, .int (iI (bI (k3 < X_cF G u w5 en i j v)))), (11, .int (iI (v + 1))), (6, .long (iL ((k3 - X_cF G u w5 en i j v : Nat) : Int))), (9, .int (iI w5)), (8, .int (iI en)), (5, .int (iI nc)), (4, .int (iI u)), (3, .int (iI j)), (2, .int (iI i)), (1, .int (iI (wt - 1))), (0, .ref 530)]) ⟨rfl, rfl, rfl, rfl, rfl, rfl, rfl, rfl, rfl, rfl, rfl, trivial⟩ rfl rfl ?_
                          exact ih1775 (v + 1) (bI (k3 < X_cF G u w5 en i j v)) (k3 - X_cF G u w5 en i j v)  (by omega) (by omega) (Or.inl ⟨hbf, by
                                have hnl : ¬ k3 < X_cF G u w5 en i j v := by assumption
                                rw [X_Su_s (by omega)]; omega⟩) (by omega)
                        · skip
                          have c1854 : (k3 < X_cF G u w5 en i j v) := c1854
                          have hbt : bI (k3 < X_cF G u w5 en i j v) = 1 := bI_t (by assumption)
                          refine T_p xr_187_324 xn_187 (pc' := 220) (ls' := [(12, .int (iI (bI (k3 < X_cF G u w5 en i j v)))), (14, .long (X_st (-1) (X_cF G u w5 en i j v))), (13, .int (iI (bI (X_bt (ga G (gD G v 2 0)) u ∧ X_lt G w5 en v)))), (11, .int (iI v)), (6, .long (iL (k3 : Int))), (9, .int (iI w5)), (8, .int (iI en)), (5, .int (iI nc)), (4, .int (iI u)), (3, .int (iI j)), (2, .int (iI i)), (1, .int (iI (wt - 1))), (0, .ref 530)]) (st' := []) rfl ?_
                          refine T_sub (ls := [(12, .int (iI (bI (k3 < X_cF G u w5 en i j v)))), (11, .int (iI v)), (6, .long (iL (k3 : Int))), (9, .int (iI w5)), (8, .int (iI en)), (5, .int (iI nc)), (4, .int (iI u)), (3, .int (iI j)), (2, .int (iI i)), (1, .int (iI (wt - 1))), (0, .ref 530)]) ⟨rfl, rfl, rfl, rfl, rfl, rfl, rfl, rfl, rfl, rfl, rfl, trivial⟩ rfl rfl ?_
                          exact ih1775 v (bI (k3 < X_cF G u w5 en i j v)) k3  (by omega) (by omega) (Or.inr ⟨bI_t (by assumption), hvv.1, hvv.2, by assumption⟩) (by omega)
                      refine T_p xr_187_297 xn_187 (pc' := 299) (ls' := [(14, .long (X_st (-1) (X_cF G u w5 en i j v))), (13, .int (iI (bI (X_bt (ga G (gD G v 2 0)) u ∧ X_lt G w5 en v)))), (12, .int (iI fv)), (11, .int (iI v)), (6, .long (iL (k3 : Int))), (9, .int (iI w5)), (8, .int (iI en)), (5, .int (iI nc)), (4, .int (iI u)), (3, .int (iI j)), (2, .int (iI i)), (1, .int (iI (wt - 1))), (0, .ref 530)]) (st' := [.long (X_st (-1) (X_cF G u w5 en i j v))]) rfl ?_
                      refine T_p xr_187_299 xn_187 (pc' := 300) (ls' := [(14, .long (X_st (-1) (X_cF G u w5 en i j v))), (13, .int (iI (bI (X_bt (ga G (gD G v 2 0)) u ∧ X_lt G w5 en v)))), (12, .int (iI fv)), (11, .int (iI v)), (6, .long (iL (k3 : Int))), (9, .int (iI w5)), (8, .int (iI en)), (5, .int (iI nc)), (4, .int (iI u)), (3, .int (iI j)), (2, .int (iI i)), (1, .int (iI (wt - 1))), (0, .ref 530)]) (st' := [.long (iL 0), .long (X_st (-1) (X_cF G u w5 en i j v))]) rfl ?_
                      refine T_lc_lt xr_187_300 xr_187_301 (t := 312) (pc' := 304) rfl rfl (fun c1855 => ?_) (fun c1855 => ?_)
                      · skip
                        have c1855 : (X_st (-1) (X_cF G u w5 en i j v)) < (iL 0) := c1855
                        refine T_p xr_187_312 xn_187 (pc' := 313) (ls' := [(14, .long (X_st (-1) (X_cF G u w5 en i j v))), (13, .int (iI (bI (X_bt (ga G (gD G v 2 0)) u ∧ X_lt G w5 en v)))), (12, .int (iI fv)), (11, .int (iI v)), (6, .long (iL (k3 : Int))), (9, .int (iI w5)), (8, .int (iI en)), (5, .int (iI nc)), (4, .int (iI u)), (3, .int (iI j)), (2, .int (iI i)), (1, .int (iI (wt - 1))), (0, .ref 530)]) (st' := [.int (iI 1)]) rfl ?_
                        refine T_p xr_187_313 xn_187 (pc' := 317) (ls' := [(14, .long (X_st (-1) (X_cF G u w5 en i j v))), (13, .int (iI (bI (X_bt (ga G (gD G v 2 0)) u ∧ X_lt G w5 en v)))), (12, .int (iI fv)), (11, .int (iI v)), (6, .long (iL (k3 : Int))), (9, .int (iI w5)), (8, .int (iI en)), (5, .int (iI nc)), (4, .int (iI u)), (3, .int (iI j)), (2, .int (iI i)), (1, .int (iI (wt - 1))), (0, .ref 530)]) (st' := [.int (iI 1)]) rfl ?_
                        refine T_ie (y := iI (bI (k3 < X_cF G u w5 en i j v))) (by rw [bI_t (by exact (by
                                by_cases hmx : X_cF G u w5 en i j v ≤ 9223372036854775807
                                · have h1 : iL (k3 : Int) < X_st (-1) (X_cF G u w5 en i j v) := by
                                    first
                                    | assumption
                                    | exact Int64.not_le.mp (by assumption)
                                    | exact absurd ((X_st_n (m := -1) (a := X_cF G u w5 en i j v) (by omega)).mp (by assumption)) (by omega)
                                  rw [X_st_lo hmx, iL_lt (by omega) (by omega) (by omega) (by omega)] at h1
                                  omega
                                · omega))]) ?_
                        exact J1853
                      · skip
                        have c1855 : ¬ ((X_st (-1) (X_cF G u w5 en i j v)) < (iL 0)) := c1855
                        refine T_p xr_187_304 xn_187 (pc' := 306) (ls' := [(14, .long (X_st (-1) (X_cF G u w5 en i j v))), (13, .int (iI (bI (X_bt (ga G (gD G v 2 0)) u ∧ X_lt G w5 en v)))), (12, .int (iI fv)), (11, .int (iI v)), (6, .long (iL (k3 : Int))), (9, .int (iI w5)), (8, .int (iI en)), (5, .int (iI nc)), (4, .int (iI u)), (3, .int (iI j)), (2, .int (iI i)), (1, .int (iI (wt - 1))), (0, .ref 530)]) (st' := [.long (iL (k3 : Int))]) rfl ?_
                        refine T_p xr_187_306 xn_187 (pc' := 308) (ls' := [(14, .long (X_st (-1) (X_cF G u w5 en i j v))), (13, .int (iI (bI (X_bt (ga G (gD G v 2 0)) u ∧ X_lt G w5 en v)))), (12, .int (iI fv)), (11, .int (iI v)), (6, .long (iL (k3 : Int))), (9, .int (iI w5)), (8, .int (iI en)), (5, .int (iI nc)), (4, .int (iI u)), (3, .int (iI j)), (2, .int (iI i)), (1, .int (iI (wt - 1))), (0, .ref 530)]) (st' := [.long (X_st (-1) (X_cF G u w5 en i j v)), .long (iL (k3 : Int))]) rfl ?_
                        refine T_lc_ge xr_187_308 xr_187_309 (t := 316) (pc' := 312) rfl rfl (fun c1856 => ?_) (fun c1856 => ?_)
                        · skip
                          have c1856 : (X_st (-1) (X_cF G u w5 en i j v)) ≤ (iL (k3 : Int)) := c1856
                          refine T_p xr_187_316 xn_187 (pc' := 317) (ls' := [(14, .long (X_st (-1) (X_cF G u w5 en i j v))), (13, .int (iI (bI (X_bt (ga G (gD G v 2 0)) u ∧ X_lt G w5 en v)))), (12, .int (iI fv)), (11, .int (iI v)), (6, .long (iL (k3 : Int))), (9, .int (iI w5)), (8, .int (iI en)), (5, .int (iI nc)), (4, .int (iI u)), (3, .int (iI j)), (2, .int (iI i)), (1, .int (iI (wt - 1))), (0, .ref 530)]) (st' := [.int (iI 0)]) rfl ?_
                          refine T_ie (y := iI (bI (k3 < X_cF G u w5 en i j v))) (by rw [bI_f (by exact (fun zk => by
                                  have h0 : ¬ X_st (-1) (X_cF G u w5 en i j v) < iL 0 := by first | assumption | exact Int64.not_lt.mpr (by assumption)
                                  have hmx : X_cF G u w5 en i j v ≤ 9223372036854775807 := Nat.le_of_not_lt (fun z => absurd ((X_st_n (m := -1) (a := X_cF G u w5 en i j v) (by omega)).mpr (by omega)) h0)
                                  have h1 : ¬ iL (k3 : Int) < X_st (-1) (X_cF G u w5 en i j v) := by first | assumption | exact Int64.not_lt.mpr (by first | assumption | exact Classical.not_not.mp (by assumption))
                                  rw [X_st_lo hmx, iL_lt (by omega) (by omega) (by omega) (by omega)] at h1
                                  omega))]) ?_
                          exact J1853
                        · skip
                          have c1856 : ¬ ((X_st (-1) (X_cF G u w5 en i j v)) ≤ (iL (k3 : Int))) := c1856
                          refine T_p xr_187_312 xn_187 (pc' := 313) (ls' := [(14, .long (X_st (-1) (X_cF G u w5 en i j v))), (13, .int (iI (bI (X_bt (ga G (gD G v 2 0)) u ∧ X_lt G w5 en v)))), (12, .int (iI fv)), (11, .int (iI v)), (6, .long (iL (k3 : Int))), (9, .int (iI w5)), (8, .int (iI en)), (5, .int (iI nc)), (4, .int (iI u)), (3, .int (iI j)), (2, .int (iI i)), (1, .int (iI (wt - 1))), (0, .ref 530)]) (st' := [.int (iI 1)]) rfl ?_
                          refine T_p xr_187_313 xn_187 (pc' := 317) (ls' := [(14, .long (X_st (-1) (X_cF G u w5 en i j v))), (13, .int (iI (bI (X_bt (ga G (gD G v 2 0)) u ∧ X_lt G w5 en v)))), (12, .int (iI fv)), (11, .int (iI v)), (6, .long (iL (k3 : Int))), (9, .int (iI w5)), (8, .int (iI en)), (5, .int (iI nc)), (4, .int (iI u)), (3, .int (iI j)), (2, .int (iI i)), (1, .int (iI (wt - 1))), (0, .ref 530)]) (st' := [.int (iI 1)]) rfl ?_
                          refine T_ie (y := iI (bI (k3 < X_cF G u w5 en i j v))) (by rw [bI_t (by exact (by
                                  by_cases hmx : X_cF G u w5 en i j v ≤ 9223372036854775807
                                  · have h1 : iL (k3 : Int) < X_st (-1) (X_cF G u w5 en i j v) := by
                                      first
                                      | assumption
                                      | exact Int64.not_le.mp (by assumption)
                                      | exact absurd ((X_st_n (m := -1) (a := X_cF G u w5 en i j v) (by omega)).mp (by assumption)) (by omega)
                                    rw [X_st_lo hmx, iL_lt (by omega) (by omega) (by omega) (by omega)] at h1
                                    omega
                                  · omega))]) ?_
                          exact J1853
                    refine T_p xr_187_269 xn_187 (pc' := 271) (ls' := [(13, .int (iI (bI (X_bt (ga G (gD G v 2 0)) u ∧ X_lt G w5 en v)))), (12, .int (iI fv)), (11, .int (iI v)), (6, .long (iL (k3 : Int))), (9, .int (iI w5)), (8, .int (iI en)), (5, .int (iI nc)), (4, .int (iI u)), (3, .int (iI j)), (2, .int (iI i)), (1, .int (iI (wt - 1))), (0, .ref 530)]) (st' := [.int (iI (bI (X_bt (ga G (gD G v 2 0)) u ∧ X_lt G w5 en v)))]) rfl ?_
                    refine T_bif_eq xr_187_271 (t := 294) (pc' := 274) rfl rfl (fun c1857 => ?_) (fun c1857 => ?_)
                    · skip
                      have c1857 : ¬ (X_bt (ga G (gD G v 2 0)) u ∧ X_lt G w5 en v) := c1857
                      refine T_p xr_187_294 xn_187 (pc' := 295) (ls' := [(13, .int (iI (bI (X_bt (ga G (gD G v 2 0)) u ∧ X_lt G w5 en v)))), (12, .int (iI fv)), (11, .int (iI v)), (6, .long (iL (k3 : Int))), (9, .int (iI w5)), (8, .int (iI en)), (5, .int (iI nc)), (4, .int (iI u)), (3, .int (iI j)), (2, .int (iI i)), (1, .int (iI (wt - 1))), (0, .ref 530)]) (st' := [.long (iL 0)]) rfl ?_
                      refine T_le (y := (X_st (-1) (X_cF G u w5 en i j v))) (by rw [show X_cF G u w5 en i j v = 0 from X_if_f (by assumption)]; rfl) ?_
                      exact J1852
                    · skip
                      have c1857 : (X_bt (ga G (gD G v 2 0)) u ∧ X_lt G w5 en v) := c1857
                      refine T_p xr_187_274 xn_187 (pc' := 275) (ls' := [(13, .int (iI (bI (X_bt (ga G (gD G v 2 0)) u ∧ X_lt G w5 en v)))), (12, .int (iI fv)), (11, .int (iI v)), (6, .long (iL (k3 : Int))), (9, .int (iI w5)), (8, .int (iI en)), (5, .int (iI nc)), (4, .int (iI u)), (3, .int (iI j)), (2, .int (iI i)), (1, .int (iI (wt - 1))), (0, .ref 530)]) (st' := [.ref 530]) rfl ?_
                      refine T_get xr_187_275 h1754 rfl (v := .ref 552) rfl (pc' := 278) rfl ?_
                      refine T_p xr_187_278 xn_187 (pc' := 281) (ls' := [(13, .int (iI (bI (X_bt (ga G (gD G v 2 0)) u ∧ X_lt G w5 en v)))), (12, .int (iI fv)), (11, .int (iI v)), (6, .long (iL (k3 : Int))), (9, .int (iI w5)), (8, .int (iI en)), (5, .int (iI nc)), (4, .int (iI u)), (3, .int (iI j)), (2, .int (iI i)), (1, .int (iI (wt - 1))), (0, .ref 530)]) (st' := [.int (iI 961), .ref 552]) rfl ?_
                      refine T_p xr_187_281 xn_187 (pc' := 283) (ls' := [(13, .int (iI (bI (X_bt (ga G (gD G v 2 0)) u ∧ X_lt G w5 en v)))), (12, .int (iI fv)), (11, .int (iI v)), (6, .long (iL (k3 : Int))), (9, .int (iI w5)), (8, .int (iI en)), (5, .int (iI nc)), (4, .int (iI u)), (3, .int (iI j)), (2, .int (iI i)), (1, .int (iI (wt - 1))), (0, .ref 530)]) (st' := [.int (iI v), .int (iI 961), .ref 552]) rfl ?_
                      refine T_zimul xr_187_283 (z := 961 * v) rfl (pc' := 284) rfl ?_
                      refine T_p xr_187_284 xn_187 (pc' := 285) (ls' := [(13, .int (iI (bI (X_bt (ga G (gD G v 2 0)) u ∧ X_lt G w5 en v)))), (12, .int (iI fv)), (11, .int (iI v)), (6, .long (iL (k3 : Int))), (9, .int (iI w5)), (8, .int (iI en)), (5, .int (iI nc)), (4, .int (iI u)), (3, .int (iI j)), (2, .int (iI i)), (1, .int (iI (wt - 1))), (0, .ref 530)]) (st' := [.int (iI i), .int (iI (961 * v)), .ref 552]) rfl ?_
                      refine T_p xr_187_285 xn_187 (pc' := 286) (ls' := [(13, .int (iI (bI (X_bt (ga G (gD G v 2 0)) u ∧ X_lt G w5 en v)))), (12, .int (iI fv)), (11, .int (iI v)), (6, .long (iL (k3 : Int))), (9, .int (iI w5)), (8, .int (iI en)), (5, .int (iI nc)), (4, .int (iI u)), (3, .int (iI j)), (2, .int (iI i)), (1, .int (iI (wt - 1))), (0, .ref 530)]) (st' := [.int (iI j), .int (iI i), .int (iI (961 * v)), .ref 552]) rfl ?_
                      refine T_cs xr_187_286 (by decide) xf_173.1 xn_173 (as := [.int (iI i), .int (iI j)]) (r := [.int (iI (961 * v)), .ref 552]) rfl (Nat.le_of_ble_eq_true rfl) (Nat.le_of_ble_eq_true rfl) (pc' := 289) rfl (ls' := [(0, .int (iI i)), (1, .int (iI j))]) rfl ?_
                      refine T_p xr_173_0 xn_173 (pc' := 2) (ls' := [(0, .int (iI i)), (1, .int (iI j))]) (st' := [.int (iI 31)]) rfl ?_
                      refine T_p xr_173_2 xn_173 (pc' := 3) (ls' := [(0, .int (iI i)), (1, .int (iI j))]) (st' := [.int (iI i), .int (iI 31)]) rfl ?_
                      refine T_zimul xr_173_3 (z := 31 * i) rfl (pc' := 4) rfl ?_
                      refine T_p xr_173_4 xn_173 (pc' := 5) (ls' := [(0, .int (iI i)), (1, .int (iI j))]) (st' := [.int (iI j), .int (iI (31 * i))]) rfl ?_
                      refine T_ziadd xr_173_5 (z := (31 * i) + j) rfl (pc' := 6) rfl ?_
                      refine T_iret xr_173_6 xf_173.2.2 rfl ?_
                      show X_T sc 187 (289, [(13, .int (iI (bI (X_bt (ga G (gD G v 2 0)) u ∧ X_lt G w5 en v)))), (12, .int (iI fv)), (11, .int (iI v)), (6, .long (iL (k3 : Int))), (9, .int (iI w5)), (8, .int (iI en)), (5, .int (iI nc)), (4, .int (iI u)), (3, .int (iI j)), (2, .int (iI i)), (1, .int (iI (wt - 1))), (0, .ref 530)], [.int (iI ((31 * i) + j)), .int (iI (961 * v)), .ref 552], S1753) _
                      refine T_ziadd xr_187_289 (z := (961 * v) + ((31 * i) + j)) rfl (pc' := 290) rfl ?_
                      have h1858 := (n1755 552 (by decide)).trans ((n1750 552 (by decide)).trans ((n1743 552 (by decide)).trans ((n1736 552 (by decide)).trans ((n1730 552 (by decide)).trans (hA552)))))
                      refine T_zlald xr_187_290 h1858 (pc' := 291) rfl ?_
                      refine T_le (y := (X_st (-1) ((X_T_ G).1 v i j))) ((hCt i j (by omega) (by omega) (by omega)).1 v (by omega) (by omega)) ?_
                      refine T_p xr_187_291 xn_187 (pc' := 295) (ls' := [(13, .int (iI (bI (X_bt (ga G (gD G v 2 0)) u ∧ X_lt G w5 en v)))), (12, .int (iI fv)), (11, .int (iI v)), (6, .long (iL (k3 : Int))), (9, .int (iI w5)), (8, .int (iI en)), (5, .int (iI nc)), (4, .int (iI u)), (3, .int (iI j)), (2, .int (iI i)), (1, .int (iI (wt - 1))), (0, .ref 530)]) (st' := [.long (X_st (-1) ((X_T_ G).1 v i j))]) rfl ?_
                      refine T_le (y := (X_st (-1) (X_cF G u w5 en i j v))) (by rw [show X_cF G u w5 en i j v = (X_T_ G).1 v i j from X_if_t (by first | assumption | exact Classical.not_not.mp (by assumption))]) ?_
                      exact J1852
                  have hvv := hvv0 (by omega)
                  have hkdv := hG.kd v (by omega) (by omega)
                  refine T_p xr_187_225 xn_187 (pc' := 226) (ls' := [(12, .int (iI fv)), (11, .int (iI v)), (6, .long (iL (k3 : Int))), (9, .int (iI w5)), (8, .int (iI en)), (5, .int (iI nc)), (4, .int (iI u)), (3, .int (iI j)), (2, .int (iI i)), (1, .int (iI (wt - 1))), (0, .ref 530)]) (st' := [.ref 530]) rfl ?_
                  refine T_p xr_187_226 xn_187 (pc' := 227) (ls' := [(12, .int (iI fv)), (11, .int (iI v)), (6, .long (iL (k3 : Int))), (9, .int (iI w5)), (8, .int (iI en)), (5, .int (iI nc)), (4, .int (iI u)), (3, .int (iI j)), (2, .int (iI i)), (1, .int (iI (wt - 1))), (0, .ref 530)]) (st' := [.ref 530, .ref 530]) rfl ?_
                  refine T_get xr_187_227 h1754 rfl (v := .ref 539) rfl (pc' := 230) rfl ?_
                  refine T_p xr_187_230 xn_187 (pc' := 232) (ls' := [(12, .int (iI fv)), (11, .int (iI v)), (6, .long (iL (k3 : Int))), (9, .int (iI w5)), (8, .int (iI en)), (5, .int (iI nc)), (4, .int (iI u)), (3, .int (iI j)), (2, .int (iI i)), (1, .int (iI (wt - 1))), (0, .ref 530)]) (st' := [.int (iI 30), .ref 539, .ref 530]) rfl ?_
                  refine T_p xr_187_232 xn_187 (pc' := 233) (ls' := [(12, .int (iI fv)), (11, .int (iI v)), (6, .long (iL (k3 : Int))), (9, .int (iI w5)), (8, .int (iI en)), (5, .int (iI nc)), (4, .int (iI u)), (3, .int (iI j)), (2, .int (iI i)), (1, .int (iI (wt - 1))), (0, .ref 530)]) (st' := [.ref 530, .int (iI 30), .ref 539, .ref 530]) rfl ?_
                  refine T_get xr_187_233 h1754 rfl (v := .int (iI b)) rfl (pc' := 236) rfl ?_
                  refine T_zimul xr_187_236 (z := 30 * b) rfl (pc' := 237) rfl ?_
                  refine T_p xr_187_237 xn_187 (pc' := 239) (ls' := [(12, .int (iI fv)), (11, .int (iI v)), (6, .long (iL (k3 : Int))), (9, .int (iI w5)), (8, .int (iI en)), (5, .int (iI nc)), (4, .int (iI u)), (3, .int (iI j)), (2, .int (iI i)), (1, .int (iI (wt - 1))), (0, .ref 530)]) (st' := [.int (iI v), .int (iI (30 * b)), .ref 539, .ref 530]) rfl ?_
                  refine T_ziadd xr_187_239 (z := (30 * b) + v) rfl (pc' := 240) rfl ?_
                  have h1859 := (n1755 539 (by decide)).trans ((n1750 539 (by decide)).trans ((n1743 539 (by decide)).trans ((n1736 539 (by decide)).trans ((n1730 539 (by decide)).trans (hA539)))))
                  refine T_ziald xr_187_240 h1859 (pc' := 241) rfl ?_
                  refine T_ie (y := iI (gD G v 2 0)) (by rw [← hWK v (by omega) (by omega)]) ?_
                  refine T_p xr_187_241 xn_187 (pc' := 243) (ls' := [(12, .int (iI fv)), (11, .int (iI v)), (6, .long (iL (k3 : Int))), (9, .int (iI w5)), (8, .int (iI en)), (5, .int (iI nc)), (4, .int (iI u)), (3, .int (iI j)), (2, .int (iI i)), (1, .int (iI (wt - 1))), (0, .ref 530)]) (st' := [.int (iI u), .int (iI (gD G v 2 0)), .ref 530]) rfl ?_
                  refine T_cv (S := S1753) (q := 530) xr_187_243 xf_168.1 xf_168.2.1 xn_168 (as := [.int (iI (gD G v 2 0)), .int (iI u)]) (r := []) rfl h1754 (Nat.le_of_ble_eq_true rfl) (Nat.le_of_ble_eq_true rfl) (pc' := 246) rfl (ls' := [(0, .ref 530), (1, .int (iI (gD G v 2 0))), (2, .int (iI u))]) rfl ?_
                  have h1860 := (n1755 536 (by decide)).trans ((n1750 536 (by decide)).trans ((n1743 536 (by decide)).trans ((n1736 536 (by decide)).trans ((n1730 536 (by decide)).trans (hA536)))))
                  refine T_mono (r_isUnder sc S1753 kU (X_ou (X_ou o 49 (nc + 1)) 58 (wt - 1)) nm b rc G tn (gD G v 2 0) u h1754 h1860 (by omega) hG hKU (by omega) (by omega)) (fun v1861 S1862 h1863 => ?_)
                  rcases h1863 with ⟨hv1864, hf1865⟩
                  rw [hv1864]
                  rw [hf1865]
                  show X_T sc 187 (246, [(12, .int (iI fv)), (11, .int (iI v)), (6, .long (iL (k3 : Int))), (9, .int (iI w5)), (8, .int (iI en)), (5, .int (iI nc)), (4, .int (iI u)), (3, .int (iI j)), (2, .int (iI i)), (1, .int (iI (wt - 1))), (0, .ref 530)], [.int (iI (bI (X_bt (ga G (gD G v 2 0)) u)))], S1753) _
                  refine T_bif_eq xr_187_246 (t := 266) (pc' := 249) rfl rfl (fun c1866 => ?_) (fun c1866 => ?_)
                  · skip
                    have c1866 : ¬ (X_bt (ga G (gD G v 2 0)) u) := c1866
                    refine T_p xr_187_266 xn_187 (pc' := 267) (ls' := [(12, .int (iI fv)), (11, .int (iI v)), (6, .long (iL (k3 : Int))), (9, .int (iI w5)), (8, .int (iI en)), (5, .int (iI nc)), (4, .int (iI u)), (3, .int (iI j)), (2, .int (iI i)), (1, .int (iI (wt - 1))), (0, .ref 530)]) (st' := [.int (iI 0)]) rfl ?_
                    refine T_ie (y := iI (bI (X_bt (ga G (gD G v 2 0)) u ∧ X_lt G w5 en v))) (by rw [bI_f (by exact fun z => by first | exact absurd z.1 (by assumption) | exact absurd z.2 (by assumption))]) ?_
                    exact J1851
                  · skip
                    have c1866 : (X_bt (ga G (gD G v 2 0)) u) := c1866
                    refine T_p xr_187_249 xn_187 (pc' := 250) (ls' := [(12, .int (iI fv)), (11, .int (iI v)), (6, .long (iL (k3 : Int))), (9, .int (iI w5)), (8, .int (iI en)), (5, .int (iI nc)), (4, .int (iI u)), (3, .int (iI j)), (2, .int (iI i)), (1, .int (iI (wt - 1))), (0, .ref 530)]) (st' := [.ref 530]) rfl ?_
                    refine T_p xr_187_250 xn_187 (pc' := 252) (ls' := [(12, .int (iI fv)), (11, .int (iI v)), (6, .long (iL (k3 : Int))), (9, .int (iI w5)), (8, .int (iI en)), (5, .int (iI nc)), (4, .int (iI u)), (3, .int (iI j)), (2, .int (iI i)), (1, .int (iI (wt - 1))), (0, .ref 530)]) (st' := [.int (iI w5), .ref 530]) rfl ?_
                    refine T_p xr_187_252 xn_187 (pc' := 254) (ls' := [(12, .int (iI fv)), (11, .int (iI v)), (6, .long (iL (k3 : Int))), (9, .int (iI w5)), (8, .int (iI en)), (5, .int (iI nc)), (4, .int (iI u)), (3, .int (iI j)), (2, .int (iI i)), (1, .int (iI (wt - 1))), (0, .ref 530)]) (st' := [.int (iI en), .int (iI w5), .ref 530]) rfl ?_
                    refine T_p xr_187_254 xn_187 (pc' := 256) (ls' := [(12, .int (iI fv)), (11, .int (iI v)), (6, .long (iL (k3 : Int))), (9, .int (iI w5)), (8, .int (iI en)), (5, .int (iI nc)), (4, .int (iI u)), (3, .int (iI j)), (2, .int (iI i)), (1, .int (iI (wt - 1))), (0, .ref 530)]) (st' := [.int (iI v), .int (iI en), .int (iI w5), .ref 530]) rfl ?_
                    refine T_cv (S := S1753) (q := 530) xr_187_256 xf_179.1 xf_179.2.1 xn_179 (as := [.int (iI w5), .int (iI en), .int (iI v)]) (r := []) rfl h1754 (Nat.le_of_ble_eq_true rfl) (Nat.le_of_ble_eq_true rfl) (pc' := 259) rfl (ls' := [(0, .ref 530), (1, .int (iI w5)), (2, .int (iI en)), (3, .int (iI v))]) rfl ?_
                    have h1867 := (n1755 535 (by decide)).trans ((n1750 535 (by decide)).trans ((n1743 535 (by decide)).trans ((n1736 535 (by decide)).trans ((n1730 535 (by decide)).trans (hA535)))))
                    have h1868 := (n1755 537 (by decide)).trans ((n1750 537 (by decide)).trans ((n1743 537 (by decide)).trans ((n1736 537 (by decide)).trans ((n1730 537 (by decide)).trans (hA537)))))
                    have h1869 := (n1755 538 (by decide)).trans ((n1750 538 (by decide)).trans ((n1743 538 (by decide)).trans ((n1736 538 (by decide)).trans ((n1730 538 (by decide)).trans (hA538)))))
                    have h1870 := (n1755 540 (by decide)).trans ((n1750 540 (by decide)).trans ((n1743 540 (by decide)).trans ((n1736 540 (by decide)).trans ((n1730 540 (by decide)).trans (hA540)))))
                    have h1871 := (n1755 545 (by decide)).trans ((n1750 545 (by decide)).trans ((n1743 545 (by decide)).trans ((n1736 545 (by decide)).trans ((n1730 545 (by decide)).trans (hA545)))))
                    refine T_mono (r_letsRank sc S1753 tg wR wL wM eP (X_ou (X_ou o 49 (nc + 1)) 58 (wt - 1)) nm b rc G tn w5 en v h1754 h1867 h1868 h1869 h1870 h1871 (by omega) hG hTG hWR hWL hWM hEP (by omega) (by omega) (by omega)) (fun v1872 S1873 h1874 => ?_)
                    rcases h1874 with ⟨hv1875, hf1876⟩
                    rw [hv1875]
                    rw [hf1876]
                    show X_T sc 187 (259, [(12, .int (iI fv)), (11, .int (iI v)), (6, .long (iL (k3 : Int))), (9, .int (iI w5)), (8, .int (iI en)), (5, .int (iI nc)), (4, .int (iI u)), (3, .int (iI j)), (2, .int (iI i)), (1, .int (iI (wt - 1))), (0, .ref 530)], [.int (iI (bI (X_lt G w5 en v)))], S1753) _
                    refine T_bif_eq xr_187_259 (t := 266) (pc' := 262) rfl rfl (fun c1877 => ?_) (fun c1877 => ?_)
                    · skip
                      have c1877 : ¬ (X_lt G w5 en v) := c1877
                      refine T_p xr_187_266 xn_187 (pc' := 267) (ls' := [(12, .int (iI fv)), (11, .int (iI v)), (6, .long (iL (k3 : Int))), (9, .int (iI w5)), (8, .int (iI en)), (5, .int (iI nc)), (4, .int (iI u)), (3, .int (iI j)), (2, .int (iI i)), (1, .int (iI (wt - 1))), (0, .ref 530)]) (st' := [.int (iI 0)]) rfl ?_
                      refine T_ie (y := iI (bI (X_bt (ga G (gD G v 2 0)) u ∧ X_lt G w5 en v))) (by rw [bI_f (by exact fun z => by first | exact absurd z.1 (by assumption) | exact absurd z.2 (by assumption))]) ?_
                      exact J1851
                    · skip
                      have c1877 : (X_lt G w5 en v) := c1877
                      refine T_p xr_187_262 xn_187 (pc' := 263) (ls' := [(12, .int (iI fv)), (11, .int (iI v)), (6, .long (iL (k3 : Int))), (9, .int (iI w5)), (8, .int (iI en)), (5, .int (iI nc)), (4, .int (iI u)), (3, .int (iI j)), (2, .int (iI i)), (1, .int (iI (wt - 1))), (0, .ref 530)]) (st' := [.int (iI 1)]) rfl ?_
                      refine T_p xr_187_263 xn_187 (pc' := 267) (ls' := [(12, .int (iI fv)), (11, .int (iI v)), (6, .long (iL (k3 : Int))), (9, .int (iI w5)), (8, .int (iI en)), (5, .int (iI nc)), (4, .int (iI u)), (3, .int (iI j)), (2, .int (iI i)), (1, .int (iI (wt - 1))), (0, .ref 530)]) (st' := [.int (iI 1)]) rfl ?_
                      refine T_ie (y := iI (bI (X_bt (ga G (gD G v 2 0)) u ∧ X_lt G w5 en v))) (by rw [bI_t (by exact ⟨by assumption, by assumption⟩)]) ?_
                      exact J1851
            refine T_sub (ls := [(12, .int (iI 0)), (11, .int (iI 0)), (6, .long (iL (k : Int))), (9, .int (iI w5)), (8, .int (iI en)), (5, .int (iI nc)), (4, .int (iI u)), (3, .int (iI j)), (2, .int (iI i)), (1, .int (iI (wt - 1))), (0, .ref 530)]) ⟨rfl, rfl, rfl, rfl, rfl, rfl, rfl, rfl, rfl, rfl, rfl, trivial⟩ rfl rfl ?_
            exact L1774 ((2 * gw G + 1) + 1).toNat 0 0 k  (by omega) (by omega) (Or.inl ⟨rfl, by rw [X_Su_e (Int.le_refl 0)]; omega⟩) (by omega)
          · skip
            have c1773 : ¬ (fd = 0) := c1773
            have hfd2 : ∃ y, ¬ (X_T_ G).2 y i j = 0 := by
              rcases hfd with h | h
              · exact absurd h.1 (by omega)
              · exact h.2
            obtain ⟨y, hy⟩ := hfd2
            obtain ⟨hjn, hkq⟩ := R_brk hG hij.2.1 (by omega) hy hkH
            refine T_p xr_187_185 xn_187 (pc' := 186) (ls' := [(11, .int (iI x)), (10, .int (iI fd)), (6, .long (iL (k : Int))), (9, .int (iI w5)), (8, .int (iI en)), (5, .int (iI nc)), (4, .int (iI u)), (3, .int (iI j)), (2, .int (iI i)), (1, .int (iI (wt - 1))), (0, .ref 530)]) (st' := [.ref 530]) rfl ?_
            refine T_get xr_187_186 h1754 rfl (v := .ref 557) rfl (pc' := 189) rfl ?_
            refine T_p xr_187_189 xn_187 (pc' := 191) (ls' := [(11, .int (iI x)), (10, .int (iI fd)), (6, .long (iL (k : Int))), (9, .int (iI w5)), (8, .int (iI en)), (5, .int (iI nc)), (4, .int (iI u)), (3, .int (iI j)), (2, .int (iI i)), (1, .int (iI (wt - 1))), (0, .ref 530)]) (st' := [.int (iI nc), .ref 557]) rfl ?_
            refine T_p xr_187_191 xn_187 (pc' := 193) (ls' := [(11, .int (iI x)), (10, .int (iI fd)), (6, .long (iL (k : Int))), (9, .int (iI w5)), (8, .int (iI en)), (5, .int (iI nc)), (4, .int (iI u)), (3, .int (iI j)), (2, .int (iI i)), (1, .int (iI (wt - 1))), (0, .ref 530)]) (st' := [.int (iI (-3)), .int (iI nc), .ref 557]) rfl ?_
            have h1878 := (n1755 557 (by decide)).trans ((n1750 557 (by decide)).trans ((n1743 557 (by decide)).trans ((n1736 557 (by decide)).trans ((n1730 557 (by decide)).trans (hA557)))))
            refine T_ziast xr_187_193 h1878 (pc' := 194) rfl (fun S1879 h1880 n1881 e1882 => ?_)
            refine T_p xr_187_194 xn_187 (pc' := 195) (ls' := [(11, .int (iI x)), (10, .int (iI fd)), (6, .long (iL (k : Int))), (9, .int (iI w5)), (8, .int (iI en)), (5, .int (iI nc)), (4, .int (iI u)), (3, .int (iI j)), (2, .int (iI i)), (1, .int (iI (wt - 1))), (0, .ref 530)]) (st' := [.ref 530]) rfl ?_
            refine T_p xr_187_195 xn_187 (pc' := 196) (ls' := [(11, .int (iI x)), (10, .int (iI fd)), (6, .long (iL (k : Int))), (9, .int (iI w5)), (8, .int (iI en)), (5, .int (iI nc)), (4, .int (iI u)), (3, .int (iI j)), (2, .int (iI i)), (1, .int (iI (wt - 1))), (0, .ref 530)]) (st' := [.int (iI i), .ref 530]) rfl ?_
            refine T_p xr_187_196 xn_187 (pc' := 197) (ls' := [(11, .int (iI x)), (10, .int (iI fd)), (6, .long (iL (k : Int))), (9, .int (iI w5)), (8, .int (iI en)), (5, .int (iI nc)), (4, .int (iI u)), (3, .int (iI j)), (2, .int (iI i)), (1, .int (iI (wt - 1))), (0, .ref 530)]) (st' := [.int (iI 1), .int (iI i), .ref 530]) rfl ?_
            refine T_ziadd xr_187_197 (z := i + 1) rfl (pc' := 198) rfl ?_
            refine T_p xr_187_198 xn_187 (pc' := 199) (ls' := [(11, .int (iI x)), (10, .int (iI fd)), (6, .long (iL (k : Int))), (9, .int (iI w5)), (8, .int (iI en)), (5, .int (iI nc)), (4, .int (iI u)), (3, .int (iI j)), (2, .int (iI i)), (1, .int (iI (wt - 1))), (0, .ref 530)]) (st' := [.int (iI j), .int (iI (i + 1)), .ref 530]) rfl ?_
            refine T_p xr_187_199 xn_187 (pc' := 200) (ls' := [(11, .int (iI x)), (10, .int (iI fd)), (6, .long (iL (k : Int))), (9, .int (iI w5)), (8, .int (iI en)), (5, .int (iI nc)), (4, .int (iI u)), (3, .int (iI j)), (2, .int (iI i)), (1, .int (iI (wt - 1))), (0, .ref 530)]) (st' := [.int (iI 1), .int (iI j), .int (iI (i + 1)), .ref 530]) rfl ?_
            refine T_zisub xr_187_200 (z := j - 1) rfl (pc' := 201) rfl ?_
            refine T_p xr_187_201 xn_187 (pc' := 203) (ls' := [(11, .int (iI x)), (10, .int (iI fd)), (6, .long (iL (k : Int))), (9, .int (iI w5)), (8, .int (iI en)), (5, .int (iI nc)), (4, .int (iI u)), (3, .int (iI j)), (2, .int (iI i)), (1, .int (iI (wt - 1))), (0, .ref 530)]) (st' := [.int (iI u), .int (iI (j - 1)), .int (iI (i + 1)), .ref 530]) rfl ?_
            refine T_p xr_187_203 xn_187 (pc' := 204) (ls' := [(11, .int (iI x)), (10, .int (iI fd)), (6, .long (iL (k : Int))), (9, .int (iI w5)), (8, .int (iI en)), (5, .int (iI nc)), (4, .int (iI u)), (3, .int (iI j)), (2, .int (iI i)), (1, .int (iI (wt - 1))), (0, .ref 530)]) (st' := [.int (iI 0), .int (iI u), .int (iI (j - 1)), .int (iI (i + 1)), .ref 530]) rfl ?_
            refine T_p xr_187_204 xn_187 (pc' := 205) (ls' := [(11, .int (iI x)), (10, .int (iI fd)), (6, .long (iL (k : Int))), (9, .int (iI w5)), (8, .int (iI en)), (5, .int (iI nc)), (4, .int (iI u)), (3, .int (iI j)), (2, .int (iI i)), (1, .int (iI (wt - 1))), (0, .ref 530)]) (st' := [.int (iI 0), .int (iI 0), .int (iI u), .int (iI (j - 1)), .int (iI (i + 1)), .ref 530]) rfl ?_
            refine T_p xr_187_205 xn_187 (pc' := 207) (ls' := [(11, .int (iI x)), (10, .int (iI fd)), (6, .long (iL (k : Int))), (9, .int (iI w5)), (8, .int (iI en)), (5, .int (iI nc)), (4, .int (iI u)), (3, .int (iI j)), (2, .int (iI i)), (1, .int (iI (wt - 1))), (0, .ref 530)]) (st' := [.long (iL (k : Int)), .int (iI 0), .int (iI 0), .int (iI u), .int (iI (j - 1)), .int (iI (i + 1)), .ref 530]) rfl ?_
            refine T_p xr_187_207 xn_187 (pc' := 209) (ls' := [(11, .int (iI x)), (10, .int (iI fd)), (6, .long (iL (k : Int))), (9, .int (iI w5)), (8, .int (iI en)), (5, .int (iI nc)), (4, .int (iI u)), (3, .int (iI j)), (2, .int (iI i)), (1, .int (iI (wt - 1))), (0, .ref 530)]) (st' := [.int (iI nc), .long (iL (k : Int)), .int (iI 0), .int (iI 0), .int (iI u), .int (iI (j - 1)), .int (iI (i + 1)), .ref 530]) rfl ?_
            refine T_p xr_187_209 xn_187 (pc' := 210) (ls' := [(11, .int (iI x)), (10, .int (iI fd)), (6, .long (iL (k : Int))), (9, .int (iI w5)), (8, .int (iI en)), (5, .int (iI nc)), (4, .int (iI u)), (3, .int (iI j)), (2, .int (iI i)), (1, .int (iI (wt - 1))), (0, .ref 530)]) (st' := [.int (iI 0), .int (iI nc), .long (iL (k : Int)), .int (iI 0), .int (iI 0), .int (iI u), .int (iI (j - 1)), .int (iI (i + 1)), .ref 530]) rfl ?_
            have h1883 := (n1881 530 (by decide)).trans (h1754)
            refine T_cv (S := S1879) (q := 530) xr_187_210 xf_185.1 xf_185.2.1 xn_185 (as := [.int (iI (i + 1)), .int (iI (j - 1)), .int (iI u), .int (iI 0), .int (iI 0), .long (iL (k : Int)), .int (iI nc), .int (iI 0)]) (r := []) rfl h1883 (Nat.le_of_ble_eq_true rfl) (Nat.le_of_ble_eq_true rfl) (pc' := 213) rfl (ls' := [(0, .ref 530), (1, .int (iI (i + 1))), (2, .int (iI (j - 1))), (3, .int (iI u)), (4, .int (iI 0)), (5, .int (iI 0)), (6, .long (iL (k : Int))), (8, .int (iI nc)), (9, .int (iI 0))]) rfl ?_
            have h1884 := (n1881 562 (by decide)).trans ((n1755 562 (by decide)).trans ((n1750 562 (by decide)).trans ((n1743 562 (by decide)).trans ((n1736 562 (by decide)).trans ((n1730 562 (by decide)).trans (hA562))))))
            have h1885 := (n1881 563 (by decide)).trans ((n1755 563 (by decide)).trans ((n1750 563 (by decide)).trans ((n1743 563 (by decide)).trans ((n1736 563 (by decide)).trans ((n1730 563 (by decide)).trans (hA563))))))
            have h1886 := (n1881 564 (by decide)).trans ((n1755 564 (by decide)).trans ((n1750 564 (by decide)).trans ((n1743 564 (by decide)).trans ((n1736 564 (by decide)).trans ((n1730 564 (by decide)).trans (hA564))))))
            have h1887 := (n1881 565 (by decide)).trans (h1759)
            have h1888 := (n1881 566 (by decide)).trans (h1758)
            have h1889 := (n1881 567 (by decide)).trans ((n1755 567 (by decide)).trans ((n1750 567 (by decide)).trans ((n1743 567 (by decide)).trans (h1739))))
            have h1890 := (n1881 568 (by decide)).trans ((n1755 568 (by decide)).trans ((n1750 568 (by decide)).trans (h1746)))
            have h1891 := (n1881 569 (by decide)).trans (h1757)
            refine T_mono (r_pile sc S1879 pF pT pS pH pW pP pQ pN (X_ou (X_ou o 49 (nc + 1)) 58 (wt - 1)) nm b rc G tn (wt - 1) (i + 1) (j - 1) u 0 0 nc 0 (iL (k : Int)) h1883 h1884 h1885 h1886 h1887 h1888 h1889 h1890 h1891 (by omega)) (fun v1892 S1893 h1894 => ?_)
            rcases h1894 with ⟨pF1895, pT1896, pS1897, pH1898, pW1899, pP1900, pQ1901, pN1902, hv1903, hp1904, hp1905, hp1906, hp1907, hp1908, hp1909, hp1910, hp1911, ho1912, ha1913, ha1914, ha1915, ha1916, ha1917, ha1918, ha1919, ha1920, hf1921⟩
            rw [hv1903]
            show X_T sc 187 (213, [(11, .int (iI x)), (10, .int (iI fd)), (6, .long (iL (k : Int))), (9, .int (iI w5)), (8, .int (iI en)), (5, .int (iI nc)), (4, .int (iI u)), (3, .int (iI j)), (2, .int (iI i)), (1, .int (iI (wt - 1))), (0, .ref 530)], [], S1893) _
            refine T_vret xr_187_213 xf_187.2.2 ?_
            refine hQ _ _ ?_
            have h1922 := (hf1921.1 557 (by omega)).trans (h1880)
            have h1923 := (hf1921.1 558 (by omega)).trans ((n1881 558 (by decide)).trans ((n1755 558 (by decide)).trans ((n1750 558 (by decide)).trans ((n1743 558 (by decide)).trans ((n1736 558 (by decide)).trans (h1729))))))
            have h1924 := (hf1921.1 559 (by omega)).trans ((n1881 559 (by decide)).trans ((n1755 559 (by decide)).trans ((n1750 559 (by decide)).trans ((n1743 559 (by decide)).trans (h1735)))))
            have h1925 := (hf1921.1 560 (by omega)).trans ((n1881 560 (by decide)).trans ((n1755 560 (by decide)).trans ((n1750 560 (by decide)).trans (h1742))))
            have h1926 := (hf1921.1 561 (by omega)).trans ((n1881 561 (by decide)).trans ((n1755 561 (by decide)).trans (h1749)))
            have h1927 := (hf1921.1 570 (by omega)).trans ((n1881 570 (by decide)).trans ((n1755 570 (by decide)).trans ((n1750 570 (by decide)).trans ((n1743 570 (by decide)).trans ((n1736 570 (by decide)).trans ((n1730 570 (by decide)).trans (hA570)))))))
            have h1928 := (hf1921.1 571 (by omega)).trans ((n1881 571 (by decide)).trans ((n1755 571 (by decide)).trans ((n1750 571 (by decide)).trans ((n1743 571 (by decide)).trans ((n1736 571 (by decide)).trans ((n1730 571 (by decide)).trans (hA571)))))))
            have h1929 := (hf1921.1 572 (by omega)).trans ((n1881 572 (by decide)).trans ((n1755 572 (by decide)).trans ((n1750 572 (by decide)).trans ((n1743 572 (by decide)).trans ((n1736 572 (by decide)).trans ((n1730 572 (by decide)).trans (hA572)))))))
            have h1930 := (hf1921.1 573 (by omega)).trans ((n1881 573 (by decide)).trans ((n1755 573 (by decide)).trans ((n1750 573 (by decide)).trans ((n1743 573 (by decide)).trans ((n1736 573 (by decide)).trans ((n1730 573 (by decide)).trans (hA573)))))))
            exact ⟨(wt - 1 + 1), (X_ug St (wt - 1) (i + 1, j - 1, nc, 0, u, 0, 0, k)), (X_nn N nc (-3) i (j - i) p h5), (X_ug nW nc (-3)), (X_ug nF nc i), (X_ug nL nc (j - i)), (X_ug nP nc p), (X_ug nH nc h5), pF1895, pT1896, pS1897, pH1898, pW1899, pP1900, pQ1901, pN1902, cF, cT, cN, rr, rfl, (by rw [show wt - 1 + 1 = wt by omega]; exact X_mk_b ht hkq hjn), (by rw [hp1904, hp1905, hp1906, hp1907, hp1908, hp1909, hp1910, hp1911]; exact (hpl.less (show wt - 1 ≤ wt by omega)).add _ _ _ _ _ _ _ _), (R_nd.add hnd _ _ _ _ _), (by rw [show wt - 1 + 1 = wt by omega]; exact (X_Mok_b hG htn.2 hM hwt ht hkq hjn).2), ho1912, h1922, h1923, h1924, h1925, h1926, ha1913, ha1914, ha1915, ha1916, ha1917, ha1918, ha1919, ha1920, h1927, h1928, h1929, h1930, (((((((X_Fr.rf).tr (X_Fr.of n1730 e1731 (by omega))).tr (X_Fr.of n1736 e1737 (by omega))).tr (X_Fr.of n1743 e1744 (by omega))).tr (X_Fr.of n1750 e1751 (by omega))).tr (X_Fr.of n1755 e1756 (by omega))).tr (X_Fr.of n1881 e1882 (by omega))).tr (X_Fr.mono ⟨hf1921.1, hf1921.2⟩ (fun q hq => (by omega)))⟩
        · skip
          have c1772 : ¬ ((gk G) ≤ x) := c1772
          refine T_p xr_187_140 xn_187 (pc' := 142) (ls' := [(11, .int (iI x)), (10, .int (iI fd)), (6, .long (iL (k : Int))), (9, .int (iI w5)), (8, .int (iI en)), (5, .int (iI nc)), (4, .int (iI u)), (3, .int (iI j)), (2, .int (iI i)), (1, .int (iI (wt - 1))), (0, .ref 530)]) (st' := [.int (iI fd)]) rfl ?_
          refine T_zif_ne xr_187_142 (t := 167) (pc' := 145) rfl rfl (fun c1931 => ?_) (fun c1931 => ?_)
          · skip
            have c1931 : ¬ fd = 0 := c1931
            refine T_p xr_187_167 xn_187 (pc' := 168) (ls' := [(11, .int (iI x)), (10, .int (iI fd)), (6, .long (iL (k : Int))), (9, .int (iI w5)), (8, .int (iI en)), (5, .int (iI nc)), (4, .int (iI u)), (3, .int (iI j)), (2, .int (iI i)), (1, .int (iI (wt - 1))), (0, .ref 530)]) (st' := [.int (iI 1)]) rfl ?_
            refine T_p xr_187_168 xn_187 (pc' := 172) (ls' := [(11, .int (iI x)), (10, .int (iI fd)), (6, .long (iL (k : Int))), (9, .int (iI w5)), (8, .int (iI en)), (5, .int (iI nc)), (4, .int (iI u)), (3, .int (iI j)), (2, .int (iI i)), (1, .int (iI (wt - 1))), (0, .ref 530)]) (st' := [.int (iI 1)]) rfl ?_
            refine T_p xr_187_172 xn_187 (pc' := 174) (ls' := [(10, .int (iI 1)), (11, .int (iI x)), (6, .long (iL (k : Int))), (9, .int (iI w5)), (8, .int (iI en)), (5, .int (iI nc)), (4, .int (iI u)), (3, .int (iI j)), (2, .int (iI i)), (1, .int (iI (wt - 1))), (0, .ref 530)]) (st' := []) rfl ?_
            refine T_ziinc xr_187_174 xn_187 (a := x) (z := x + 1) rfl (Nat.le_of_ble_eq_true rfl) (by omega) (ls' := [(11, .int (iI (x + 1))), (10, .int (iI 1)), (6, .long (iL (k : Int))), (9, .int (iI w5)), (8, .int (iI en)), (5, .int (iI nc)), (4, .int (iI u)), (3, .int (iI j)), (2, .int (iI i)), (1, .int (iI (wt - 1))), (0, .ref 530)]) rfl (pc' := 177) rfl ?_
            refine T_p xr_187_177 xn_187 (pc' := 131) (ls' := [(11, .int (iI (x + 1))), (10, .int (iI 1)), (6, .long (iL (k : Int))), (9, .int (iI w5)), (8, .int (iI en)), (5, .int (iI nc)), (4, .int (iI u)), (3, .int (iI j)), (2, .int (iI i)), (1, .int (iI (wt - 1))), (0, .ref 530)]) (st' := []) rfl ?_
            exact ih1768 (x + 1) 1  (by omega) (Or.inr ⟨rfl, by
                  rcases hfd with h | h
                  · exact ⟨x, fun z => absurd ((X_st_z (m := -1) (a := (X_T_ G).2 x i j) (by omega)).mpr z) (by first | assumption | (exfalso; omega))⟩
                  · exact h.2⟩) (by omega)
          · skip
            have c1931 : ¬ (¬ fd = 0) := c1931
            refine T_p xr_187_145 xn_187 (pc' := 146) (ls' := [(11, .int (iI x)), (10, .int (iI fd)), (6, .long (iL (k : Int))), (9, .int (iI w5)), (8, .int (iI en)), (5, .int (iI nc)), (4, .int (iI u)), (3, .int (iI j)), (2, .int (iI i)), (1, .int (iI (wt - 1))), (0, .ref 530)]) (st' := [.ref 530]) rfl ?_
            refine T_get xr_187_146 h1754 rfl (v := .ref 553) rfl (pc' := 149) rfl ?_
            refine T_p xr_187_149 xn_187 (pc' := 152) (ls' := [(11, .int (iI x)), (10, .int (iI fd)), (6, .long (iL (k : Int))), (9, .int (iI w5)), (8, .int (iI en)), (5, .int (iI nc)), (4, .int (iI u)), (3, .int (iI j)), (2, .int (iI i)), (1, .int (iI (wt - 1))), (0, .ref 530)]) (st' := [.int (iI 961), .ref 553]) rfl ?_
            refine T_p xr_187_152 xn_187 (pc' := 154) (ls' := [(11, .int (iI x)), (10, .int (iI fd)), (6, .long (iL (k : Int))), (9, .int (iI w5)), (8, .int (iI en)), (5, .int (iI nc)), (4, .int (iI u)), (3, .int (iI j)), (2, .int (iI i)), (1, .int (iI (wt - 1))), (0, .ref 530)]) (st' := [.int (iI x), .int (iI 961), .ref 553]) rfl ?_
            refine T_zimul xr_187_154 (z := 961 * x) rfl (pc' := 155) rfl ?_
            refine T_p xr_187_155 xn_187 (pc' := 156) (ls' := [(11, .int (iI x)), (10, .int (iI fd)), (6, .long (iL (k : Int))), (9, .int (iI w5)), (8, .int (iI en)), (5, .int (iI nc)), (4, .int (iI u)), (3, .int (iI j)), (2, .int (iI i)), (1, .int (iI (wt - 1))), (0, .ref 530)]) (st' := [.int (iI i), .int (iI (961 * x)), .ref 553]) rfl ?_
            refine T_p xr_187_156 xn_187 (pc' := 157) (ls' := [(11, .int (iI x)), (10, .int (iI fd)), (6, .long (iL (k : Int))), (9, .int (iI w5)), (8, .int (iI en)), (5, .int (iI nc)), (4, .int (iI u)), (3, .int (iI j)), (2, .int (iI i)), (1, .int (iI (wt - 1))), (0, .ref 530)]) (st' := [.int (iI j), .int (iI i), .int (iI (961 * x)), .ref 553]) rfl ?_
            refine T_cs xr_187_157 (by decide) xf_173.1 xn_173 (as := [.int (iI i), .int (iI j)]) (r := [.int (iI (961 * x)), .ref 553]) rfl (Nat.le_of_ble_eq_true rfl) (Nat.le_of_ble_eq_true rfl) (pc' := 160) rfl (ls' := [(0, .int (iI i)), (1, .int (iI j))]) rfl ?_
            refine T_p xr_173_0 xn_173 (pc' := 2) (ls' := [(0, .int (iI i)), (1, .int (iI j))]) (st' := [.int (iI 31)]) rfl ?_
            refine T_p xr_173_2 xn_173 (pc' := 3) (ls' := [(0, .int (iI i)), (1, .int (iI j))]) (st' := [.int (iI i), .int (iI 31)]) rfl ?_
            refine T_zimul xr_173_3 (z := 31 * i) rfl (pc' := 4) rfl ?_
            refine T_p xr_173_4 xn_173 (pc' := 5) (ls' := [(0, .int (iI i)), (1, .int (iI j))]) (st' := [.int (iI j), .int (iI (31 * i))]) rfl ?_
            refine T_ziadd xr_173_5 (z := (31 * i) + j) rfl (pc' := 6) rfl ?_
            refine T_iret xr_173_6 xf_173.2.2 rfl ?_
            show X_T sc 187 (160, [(11, .int (iI x)), (10, .int (iI fd)), (6, .long (iL (k : Int))), (9, .int (iI w5)), (8, .int (iI en)), (5, .int (iI nc)), (4, .int (iI u)), (3, .int (iI j)), (2, .int (iI i)), (1, .int (iI (wt - 1))), (0, .ref 530)], [.int (iI ((31 * i) + j)), .int (iI (961 * x)), .ref 553], S1753) _
            refine T_ziadd xr_187_160 (z := (961 * x) + ((31 * i) + j)) rfl (pc' := 161) rfl ?_
            have h1932 := (n1755 553 (by decide)).trans ((n1750 553 (by decide)).trans ((n1743 553 (by decide)).trans ((n1736 553 (by decide)).trans ((n1730 553 (by decide)).trans (hA553)))))
            refine T_zlald xr_187_161 h1932 (pc' := 162) rfl ?_
            refine T_le (y := (X_st (-1) ((X_T_ G).2 x i j))) ((hCt i j (by omega) (by omega) (by omega)).2.1 x (by omega) (by omega)) ?_
            refine T_p xr_187_162 xn_187 (pc' := 163) (ls' := [(11, .int (iI x)), (10, .int (iI fd)), (6, .long (iL (k : Int))), (9, .int (iI w5)), (8, .int (iI en)), (5, .int (iI nc)), (4, .int (iI u)), (3, .int (iI j)), (2, .int (iI i)), (1, .int (iI (wt - 1))), (0, .ref 530)]) (st' := [.long (iL 0), .long (X_st (-1) ((X_T_ G).2 x i j))]) rfl ?_
            refine T_lc_eq xr_187_163 xr_187_164 (t := 171) (pc' := 167) rfl rfl (fun c1933 => ?_) (fun c1933 => ?_)
            · skip
              have c1933 : (X_st (-1) ((X_T_ G).2 x i j)) = (iL 0) := c1933
              refine T_p xr_187_171 xn_187 (pc' := 172) (ls' := [(11, .int (iI x)), (10, .int (iI fd)), (6, .long (iL (k : Int))), (9, .int (iI w5)), (8, .int (iI en)), (5, .int (iI nc)), (4, .int (iI u)), (3, .int (iI j)), (2, .int (iI i)), (1, .int (iI (wt - 1))), (0, .ref 530)]) (st' := [.int (iI 0)]) rfl ?_
              refine T_p xr_187_172 xn_187 (pc' := 174) (ls' := [(10, .int (iI 0)), (11, .int (iI x)), (6, .long (iL (k : Int))), (9, .int (iI w5)), (8, .int (iI en)), (5, .int (iI nc)), (4, .int (iI u)), (3, .int (iI j)), (2, .int (iI i)), (1, .int (iI (wt - 1))), (0, .ref 530)]) (st' := []) rfl ?_
              refine T_ziinc xr_187_174 xn_187 (a := x) (z := x + 1) rfl (Nat.le_of_ble_eq_true rfl) (by omega) (ls' := [(11, .int (iI (x + 1))), (10, .int (iI 0)), (6, .long (iL (k : Int))), (9, .int (iI w5)), (8, .int (iI en)), (5, .int (iI nc)), (4, .int (iI u)), (3, .int (iI j)), (2, .int (iI i)), (1, .int (iI (wt - 1))), (0, .ref 530)]) rfl (pc' := 177) rfl ?_
              refine T_p xr_187_177 xn_187 (pc' := 131) (ls' := [(11, .int (iI (x + 1))), (10, .int (iI 0)), (6, .long (iL (k : Int))), (9, .int (iI w5)), (8, .int (iI en)), (5, .int (iI nc)), (4, .int (iI u)), (3, .int (iI j)), (2, .int (iI i)), (1, .int (iI (wt - 1))), (0, .ref 530)]) (st' := []) rfl ?_
              exact ih1768 (x + 1) 0  (by omega) (Or.inl ⟨rfl, fun y h1 h2 => by
                    rcases hfd with h | h
                    · by_cases hy : y = x
                      · rw [hy]; exact (X_st_z (m := -1) (a := (X_T_ G).2 x i j) (by omega)).mp (by first | assumption | exact Classical.not_not.mp (by assumption))
                      · exact h.2 y h1 (by omega)
                    · exact absurd h.1 (by omega)⟩) (by omega)
            · skip
              have c1933 : ¬ ((X_st (-1) ((X_T_ G).2 x i j)) = (iL 0)) := c1933
              refine T_p xr_187_167 xn_187 (pc' := 168) (ls' := [(11, .int (iI x)), (10, .int (iI fd)), (6, .long (iL (k : Int))), (9, .int (iI w5)), (8, .int (iI en)), (5, .int (iI nc)), (4, .int (iI u)), (3, .int (iI j)), (2, .int (iI i)), (1, .int (iI (wt - 1))), (0, .ref 530)]) (st' := [.int (iI 1)]) rfl ?_
              refine T_p xr_187_168 xn_187 (pc' := 172) (ls' := [(11, .int (iI x)), (10, .int (iI fd)), (6, .long (iL (k : Int))), (9, .int (iI w5)), (8, .int (iI en)), (5, .int (iI nc)), (4, .int (iI u)), (3, .int (iI j)), (2, .int (iI i)), (1, .int (iI (wt - 1))), (0, .ref 530)]) (st' := [.int (iI 1)]) rfl ?_
              refine T_p xr_187_172 xn_187 (pc' := 174) (ls' := [(10, .int (iI 1)), (11, .int (iI x)), (6, .long (iL (k : Int))), (9, .int (iI w5)), (8, .int (iI en)), (5, .int (iI nc)), (4, .int (iI u)), (3, .int (iI j)), (2, .int (iI i)), (1, .int (iI (wt - 1))), (0, .ref 530)]) (st' := []) rfl ?_
              refine T_ziinc xr_187_174 xn_187 (a := x) (z := x + 1) rfl (Nat.le_of_ble_eq_true rfl) (by omega) (ls' := [(11, .int (iI (x + 1))), (10, .int (iI 1)), (6, .long (iL (k : Int))), (9, .int (iI w5)), (8, .int (iI en)), (5, .int (iI nc)), (4, .int (iI u)), (3, .int (iI j)), (2, .int (iI i)), (1, .int (iI (wt - 1))), (0, .ref 530)]) rfl (pc' := 177) rfl ?_
              refine T_p xr_187_177 xn_187 (pc' := 131) (ls' := [(11, .int (iI (x + 1))), (10, .int (iI 1)), (6, .long (iL (k : Int))), (9, .int (iI w5)), (8, .int (iI en)), (5, .int (iI nc)), (4, .int (iI u)), (3, .int (iI j)), (2, .int (iI i)), (1, .int (iI (wt - 1))), (0, .ref 530)]) (st' := []) rfl ?_
              exact ih1768 (x + 1) 1  (by omega) (Or.inr ⟨rfl, by
                    rcases hfd with h | h
                    · exact ⟨x, fun z => absurd ((X_st_z (m := -1) (a := (X_T_ G).2 x i j) (by omega)).mpr z) (by first | assumption | (exfalso; omega))⟩
                    · exact h.2⟩) (by omega)
    refine T_sub (ls := [(11, .int (iI 0)), (10, .int (iI 0)), (6, .long (iL (k : Int))), (9, .int (iI w5)), (8, .int (iI en)), (5, .int (iI nc)), (4, .int (iI u)), (3, .int (iI j)), (2, .int (iI i)), (1, .int (iI (wt - 1))), (0, .ref 530)]) ⟨rfl, rfl, rfl, rfl, rfl, rfl, rfl, rfl, rfl, rfl, rfl, trivial⟩ rfl rfl ?_
    exact L1767 ((gk G) + 1).toNat 0 0  (by have := hG.2.1; omega) (Or.inl ⟨rfl, fun y h1 h2 => absurd h2 (by omega)⟩) (by omega)
  · skip
    have c1766 : (j = i + 1 ∧ 0 ≤ X_nv (gt G i)) := c1766
    have hnum : j = i + 1 ∧ 0 ≤ X_nv (gt G i) := by first | assumption | exact Classical.not_not.mp (by assumption)
    have hkq : k < X_Hq G (X_T_ G) u i j := R_num hG hnum.1 hnum.2 hkH
    refine T_p xr_187_115 xn_187 (pc' := 116) (ls' := [(9, .int (iI w5)), (8, .int (iI en)), (6, .long (iL (k : Int))), (5, .int (iI nc)), (4, .int (iI u)), (3, .int (iI j)), (2, .int (iI i)), (0, .ref 530), (1, .int (iI (wt - 1)))]) (st' := [.ref 530]) rfl ?_
    refine T_get xr_187_116 h1754 rfl (v := .ref 557) rfl (pc' := 119) rfl ?_
    refine T_p xr_187_119 xn_187 (pc' := 121) (ls' := [(9, .int (iI w5)), (8, .int (iI en)), (6, .long (iL (k : Int))), (5, .int (iI nc)), (4, .int (iI u)), (3, .int (iI j)), (2, .int (iI i)), (0, .ref 530), (1, .int (iI (wt - 1)))]) (st' := [.int (iI nc), .ref 557]) rfl ?_
    refine T_p xr_187_121 xn_187 (pc' := 123) (ls' := [(9, .int (iI w5)), (8, .int (iI en)), (6, .long (iL (k : Int))), (5, .int (iI nc)), (4, .int (iI u)), (3, .int (iI j)), (2, .int (iI i)), (0, .ref 530), (1, .int (iI (wt - 1)))]) (st' := [.int (iI (-2)), .int (iI nc), .ref 557]) rfl ?_
    have h1934 := (n1755 557 (by decide)).trans ((n1750 557 (by decide)).trans ((n1743 557 (by decide)).trans ((n1736 557 (by decide)).trans ((n1730 557 (by decide)).trans (hA557)))))
    refine T_ziast xr_187_123 h1934 (pc' := 124) rfl (fun S1935 h1936 n1937 e1938 => ?_)
    refine T_vret xr_187_124 xf_187.2.2 ?_
    refine hQ _ _ ?_
    have h1939 := (n1937 558 (by decide)).trans ((n1755 558 (by decide)).trans ((n1750 558 (by decide)).trans ((n1743 558 (by decide)).trans ((n1736 558 (by decide)).trans (h1729)))))
    have h1940 := (n1937 559 (by decide)).trans ((n1755 559 (by decide)).trans ((n1750 559 (by decide)).trans ((n1743 559 (by decide)).trans (h1735))))
    have h1941 := (n1937 560 (by decide)).trans ((n1755 560 (by decide)).trans ((n1750 560 (by decide)).trans (h1742)))
    have h1942 := (n1937 561 (by decide)).trans ((n1755 561 (by decide)).trans (h1749))
    have h1943 := (n1937 562 (by decide)).trans ((n1755 562 (by decide)).trans ((n1750 562 (by decide)).trans ((n1743 562 (by decide)).trans ((n1736 562 (by decide)).trans ((n1730 562 (by decide)).trans (hA562))))))
    have h1944 := (n1937 563 (by decide)).trans ((n1755 563 (by decide)).trans ((n1750 563 (by decide)).trans ((n1743 563 (by decide)).trans ((n1736 563 (by decide)).trans ((n1730 563 (by decide)).trans (hA563))))))
    have h1945 := (n1937 564 (by decide)).trans ((n1755 564 (by decide)).trans ((n1750 564 (by decide)).trans ((n1743 564 (by decide)).trans ((n1736 564 (by decide)).trans ((n1730 564 (by decide)).trans (hA564))))))
    have h1946 := (n1937 565 (by decide)).trans (h1759)
    have h1947 := (n1937 566 (by decide)).trans (h1758)
    have h1948 := (n1937 567 (by decide)).trans ((n1755 567 (by decide)).trans ((n1750 567 (by decide)).trans ((n1743 567 (by decide)).trans (h1739))))
    have h1949 := (n1937 568 (by decide)).trans ((n1755 568 (by decide)).trans ((n1750 568 (by decide)).trans (h1746)))
    have h1950 := (n1937 569 (by decide)).trans (h1757)
    have h1951 := (n1937 570 (by decide)).trans ((n1755 570 (by decide)).trans ((n1750 570 (by decide)).trans ((n1743 570 (by decide)).trans ((n1736 570 (by decide)).trans ((n1730 570 (by decide)).trans (hA570))))))
    have h1952 := (n1937 571 (by decide)).trans ((n1755 571 (by decide)).trans ((n1750 571 (by decide)).trans ((n1743 571 (by decide)).trans ((n1736 571 (by decide)).trans ((n1730 571 (by decide)).trans (hA571))))))
    have h1953 := (n1937 572 (by decide)).trans ((n1755 572 (by decide)).trans ((n1750 572 (by decide)).trans ((n1743 572 (by decide)).trans ((n1736 572 (by decide)).trans ((n1730 572 (by decide)).trans (hA572))))))
    have h1954 := (n1937 573 (by decide)).trans ((n1755 573 (by decide)).trans ((n1750 573 (by decide)).trans ((n1743 573 (by decide)).trans ((n1736 573 (by decide)).trans ((n1730 573 (by decide)).trans (hA573))))))
    have h1955 := (n1937 530 (by decide)).trans (h1754)
    exact ⟨(wt - 1), St, (X_nn N nc (-2) i (j - i) p h5), (X_ug nW nc (-2)), (X_ug nF nc i), (X_ug nL nc (j - i)), (X_ug nP nc p), (X_ug nH nc h5), pF, pT, pS, pH, pW, pP, pQ, pN, cF, cT, cN, rr, rfl, (X_mk_n ht hkq hnum.1), (hpl.less (by omega)), (R_nd.add hnd _ _ _ _ _), (X_Mok_n hM hwt ht), h1955, h1936, h1939, h1940, h1941, h1942, h1943, h1944, h1945, h1946, h1947, h1948, h1949, h1950, h1951, h1952, h1953, h1954, ((((((X_Fr.rf).tr (X_Fr.of n1730 e1731 (by omega))).tr (X_Fr.of n1736 e1737 (by omega))).tr (X_Fr.of n1743 e1744 (by omega))).tr (X_Fr.of n1750 e1751 (by omega))).tr (X_Fr.of n1755 e1756 (by omega))).tr (X_Fr.of n1937 e1938 (by omega))⟩
set_option maxHeartbeats 1600000 in
theorem r_read (sc : X_Sc) (S : X_S) (tg : Int → Int) (kU : Int → Int) (wR : Int → Int) (wL : Int → Int) (wK : Int → Int) (wM : Int → Int) (wH : Int → Int) (eP : Int → Int64) (eH : Int → Int) (hK : Int → Int) (tT : Int → Int64) (tU : Int → Int) (oW : Int → Int64) (oK : Int → Int64) (oH : Int → Int64) (nW : Int → Int) (nF : Int → Int) (nL : Int → Int) (nP : Int → Int) (nH : Int → Int) (pF : Int → Int) (pT : Int → Int) (pS : Int → Int) (pH : Int → Int) (pW : Int → Int) (pP : Int → Int) (pQ : Int → Int) (pN : Int → Int64) (cF : Int → Int) (cT : Int → Int) (cN : Int → Int64) (rr : Int → Int64) (o : Nat → Int) (nm : Int64) (b : Int) (rc : Int) (G : X_G) (tn : Int) (kk : Int) (hO530 : S.1 530 = .inr (11, [.ref 531, .int (iI (o 1)), .ref 532, .int (iI (o 3)), .int (iI b), .int (iI (o 5)), .int (iI (o 6)), .int (iI (o 7)), .int (iI (o 8)), .int (iI (o 9)), .int (iI (o 10)), .int (iI (o 11)), .long nm, .ref 533, .ref 534, .ref 535, .ref 536, .ref 537, .ref 538, .ref 539, .ref 540, .ref 541, .ref 542, .ref 543, .ref 544, .ref 545, .ref 546, .ref 547, .int (iI rc), .int (iI (gk G)), .int (iI (gw G)), .int (iI (o 31)), .int (iI (o 32)), .int (iI (o 33)), .ref 548, .ref 549, .ref 550, .ref 551, .int (iI tn), .ref 552, .ref 553, .ref 554, .ref 555, .ref 556, .ref 557, .ref 558, .ref 559, .ref 560, .ref 561, .int (iI (o 49)), .ref 562, .ref 563, .ref 564, .ref 565, .ref 566, .ref 567, .ref 568, .ref 569, .int (iI (o 58)), .ref 570, .ref 571, .ref 572, .ref 573, .ref 574, .ref 575, .ref 576, .ref 577, .ref 578, .int (iI (o 68)), .int (iI (o 69)), .int (iI (o 70)), .ref 579])) (hA535 : S.1 535 = .inl (.boolean, 288, .inl fun k : Nat => iI (tg (k : Int)))) (hA536 : S.1 536 = .inl (.int, 22, .inl fun k : Nat => iI (kU (k : Int)))) (hA537 : S.1 537 = .inl (.int, 60, .inl fun k : Nat => iI (wR (k : Int)))) (hA538 : S.1 538 = .inl (.int, 60, .inl fun k : Nat => iI (wL (k : Int)))) (hA539 : S.1 539 = .inl (.int, 60, .inl fun k : Nat => iI (wK (k : Int)))) (hA540 : S.1 540 = .inl (.int, 60, .inl fun k : Nat => iI (wM (k : Int)))) (hA541 : S.1 541 = .inl (.int, 60, .inl fun k : Nat => iI (wH (k : Int)))) (hA545 : S.1 545 = .inl (.long, 480, .inr (.inl fun k : Nat => eP (k : Int)))) (hA546 : S.1 546 = .inl (.int, 480, .inl fun k : Nat => iI (eH (k : Int)))) (hA547 : S.1 547 = .inl (.int, 240, .inl fun k : Nat => iI (hK (k : Int)))) (hA548 : S.1 548 = .inl (.long, 30, .inr (.inl fun k : Nat => tT (k : Int)))) (hA550 : S.1 550 = .inl (.int, 30, .inl fun k : Nat => iI (tU (k : Int)))) (hA552 : S.1 552 = .inl (.long, 28830, .inr (.inl fun k : Nat => oW (k : Int)))) (hA553 : S.1 553 = .inl (.long, 10571, .inr (.inl fun k : Nat => oK (k : Int)))) (hA554 : S.1 554 = .inl (.long, 115320, .inr (.inl fun k : Nat => oH (k : Int)))) (hA557 : S.1 557 = .inl (.int, 40, .inl fun k : Nat => iI (nW (k : Int)))) (hA558 : S.1 558 = .inl (.int, 40, .inl fun k : Nat => iI (nF (k : Int)))) (hA559 : S.1 559 = .inl (.int, 40, .inl fun k : Nat => iI (nL (k : Int)))) (hA560 : S.1 560 = .inl (.int, 40, .inl fun k : Nat => iI (nP (k : Int)))) (hA561 : S.1 561 = .inl (.int, 40, .inl fun k : Nat => iI (nH (k : Int)))) (hA562 : S.1 562 = .inl (.int, 160, .inl fun k : Nat => iI (pF (k : Int)))) (hA563 : S.1 563 = .inl (.int, 160, .inl fun k : Nat => iI (pT (k : Int)))) (hA564 : S.1 564 = .inl (.int, 160, .inl fun k : Nat => iI (pS (k : Int)))) (hA565 : S.1 565 = .inl (.int, 160, .inl fun k : Nat => iI (pH (k : Int)))) (hA566 : S.1 566 = .inl (.int, 160, .inl fun k : Nat => iI (pW (k : Int)))) (hA567 : S.1 567 = .inl (.int, 160, .inl fun k : Nat => iI (pP (k : Int)))) (hA568 : S.1 568 = .inl (.int, 160, .inl fun k : Nat => iI (pQ (k : Int)))) (hA569 : S.1 569 = .inl (.long, 160, .inr (.inl fun k : Nat => pN (k : Int)))) (hA570 : S.1 570 = .inl (.int, 4, .inl fun k : Nat => iI (cF (k : Int)))) (hA571 : S.1 571 = .inl (.int, 4, .inl fun k : Nat => iI (cT (k : Int)))) (hA572 : S.1 572 = .inl (.long, 4, .inr (.inl fun k : Nat => cN (k : Int)))) (hA573 : S.1 573 = .inl (.long, 288, .inr (.inl fun k : Nat => rr (k : Int)))) (hbr : 0 ≤ b ∧ b ≤ 1) (hG : X_Gok G) (htn : 0 ≤ tn ∧ tn ≤ 30) (hTU : ∀ t, 0 ≤ t → t < tn → tU t = X_nv (gt G t)) (hTT : ∀ t, 0 ≤ t → t < tn → tT t = gt G t) (hKU : (∀ u, 0 ≤ u → u < 32 → (X_bt (ga G 0) u ↔ u = 0)) ∧ kU (11 * b) = -1 ∧ ∀ k, 1 ≤ k → k < gk G → (0 ≤ kU (11 * b + k) ∧ kU (11 * b + k) < k) ∧ ∀ u, 0 ≤ u → u < 32 → (X_bt (ga G k) u ↔ u = k ∨ X_bt (ga G (kU (11 * b + k))) u)) (hTG : (∀ i j, 0 ≤ i → i < rc → 0 ≤ j → j < rc → tg (144 * b + 12 * i + j) = bI (X_bt (gl G i) j)) ∧ ∀ w, 0 ≤ w → w < gw G → gD G w 0 0 < rc) (hWR : ∀ w, 0 ≤ w → w < gw G → wR (30 * b + w) = gD G w 0 0) (hWL : ∀ w, 0 ≤ w → w < gw G → wL (30 * b + w) = gD G w 1 0) (hWK : ∀ w, 0 ≤ w → w < gw G → wK (30 * b + w) = gD G w 2 0) (hWM : ∀ w, 0 ≤ w → w < gw G → wM (30 * b + w) = gD G w 3 0) (hWH : ∀ w, 0 ≤ w → w < gw G → wH (30 * b + w) = gD G w 4 0) (hEP : ∀ w, 0 ≤ w → w < gw G → ∀ e, 0 ≤ e → e < gD G w 3 0 → eP (8 * (30 * b + w) + e) = gW G w e) (hEH : ∀ w, 0 ≤ w → w < gw G → ∀ e, 0 ≤ e → e < gD G w 3 0 → gW G w e = 0 → eH (8 * (30 * b + w) + e) = gD G w 8 e) (hHK : ∀ w, 0 ≤ w → w < gw G → ∀ h, 0 ≤ h → h < gD G w 4 0 → hK (4 * (30 * b + w) + h) = gD G w 9 h) (hCt : R_ct G tn oW oK oH) (hkr : -9223372036854775808 ≤ kk ∧ kk ≤ 9223372036854775807) : X_T sc 186 (0, [(0, .ref 530), (1, .long (iL kk))], [], S) (fun v S' => (v = some (.int (iI (-1))) ∧ ¬ X_qRk G tn kk ∧ S' = S) ∨ (∃ (r1 : Int) (nc1 : Int) (St1 : Int → X_It) (N1 : Int → Int → Int) (nW1 : Int → Int) (nF1 : Int → Int) (nL1 : Int → Int) (nP1 : Int → Int) (nH1 : Int → Int) (pF1 : Int → Int) (pT1 : Int → Int) (pS1 : Int → Int) (pH1 : Int → Int) (pW1 : Int → Int) (pP1 : Int → Int) (pQ1 : Int → Int) (pN1 : Int → Int64) (cF1 : Int → Int) (cT1 : Int → Int) (cN1 : Int → Int64) (rr1 : Int → Int64), v = some (.int (iI nc1)) ∧ X_qRk G tn kk ∧ X_rd G tn kk.toNat = (r1, St1, nc1, N1) ∧ R_nd nc1 N1 nW1 nF1 nL1 nP1 nH1 ∧ S'.1 530 = .inr (11, [.ref 531, .int (iI (o 1)), .ref 532, .int (iI (o 3)), .int (iI b), .int (iI (o 5)), .int (iI (o 6)), .int (iI (o 7)), .int (iI (o 8)), .int (iI (o 9)), .int (iI (o 10)), .int (iI (o 11)), .long nm, .ref 533, .ref 534, .ref 535, .ref 536, .ref 537, .ref 538, .ref 539, .ref 540, .ref 541, .ref 542, .ref 543, .ref 544, .ref 545, .ref 546, .ref 547, .int (iI rc), .int (iI (gk G)), .int (iI (gw G)), .int (iI (o 31)), .int (iI (o 32)), .int (iI (o 33)), .ref 548, .ref 549, .ref 550, .ref 551, .int (iI tn), .ref 552, .ref 553, .ref 554, .ref 555, .ref 556, .ref 557, .ref 558, .ref 559, .ref 560, .ref 561, .int (iI nc1), .ref 562, .ref 563, .ref 564, .ref 565, .ref 566, .ref 567, .ref 568, .ref 569, .int (iI r1), .ref 570, .ref 571, .ref 572, .ref 573, .ref 574, .ref 575, .ref 576, .ref 577, .ref 578, .int (iI 0), .int (iI (o 69)), .int (iI (o 70)), .ref 579]) ∧ S'.1 557 = .inl (.int, 40, .inl fun k : Nat => iI (nW1 (k : Int))) ∧ S'.1 558 = .inl (.int, 40, .inl fun k : Nat => iI (nF1 (k : Int))) ∧ S'.1 559 = .inl (.int, 40, .inl fun k : Nat => iI (nL1 (k : Int))) ∧ S'.1 560 = .inl (.int, 40, .inl fun k : Nat => iI (nP1 (k : Int))) ∧ S'.1 561 = .inl (.int, 40, .inl fun k : Nat => iI (nH1 (k : Int))) ∧ S'.1 562 = .inl (.int, 160, .inl fun k : Nat => iI (pF1 (k : Int))) ∧ S'.1 563 = .inl (.int, 160, .inl fun k : Nat => iI (pT1 (k : Int))) ∧ S'.1 564 = .inl (.int, 160, .inl fun k : Nat => iI (pS1 (k : Int))) ∧ S'.1 565 = .inl (.int, 160, .inl fun k : Nat => iI (pH1 (k : Int))) ∧ S'.1 566 = .inl (.int, 160, .inl fun k : Nat => iI (pW1 (k : Int))) ∧ S'.1 567 = .inl (.int, 160, .inl fun k : Nat => iI (pP1 (k : Int))) ∧ S'.1 568 = .inl (.int, 160, .inl fun k : Nat => iI (pQ1 (k : Int))) ∧ S'.1 569 = .inl (.long, 160, .inr (.inl fun k : Nat => pN1 (k : Int))) ∧ S'.1 570 = .inl (.int, 4, .inl fun k : Nat => iI (cF1 (k : Int))) ∧ S'.1 571 = .inl (.int, 4, .inl fun k : Nat => iI (cT1 (k : Int))) ∧ S'.1 572 = .inl (.long, 4, .inr (.inl fun k : Nat => cN1 (k : Int))) ∧ S'.1 573 = .inl (.long, 288, .inr (.inl fun k : Nat => rr1 (k : Int))) ∧ (X_Fr (fun q => q = 530 ∨ (557 ≤ q ∧ q ≤ 573)) S S'))) := by
  refine X_QI (fun Q hQ => ?_)
  refine T_p xr_186_0 xn_186 (pc' := 1) (ls' := [(0, .ref 530), (1, .long (iL kk))]) (st' := [.ref 530]) rfl ?_
  refine T_get xr_186_1 hO530 rfl (v := .int (iI tn)) rfl (pc' := 4) rfl ?_
  refine T_zif_ne xr_186_4 (t := 11) (pc' := 7) rfl rfl (fun c1956 => ?_) (fun c1956 => ?_)
  · skip
    have c1956 : ¬ tn = 0 := c1956
    refine T_p xr_186_11 xn_186 (pc' := 12) (ls' := [(0, .ref 530), (1, .long (iL kk))]) (st' := [.ref 530]) rfl ?_
    refine T_p xr_186_12 xn_186 (pc' := 13) (ls' := [(0, .ref 530), (1, .long (iL kk))]) (st' := [.int (iI 0), .ref 530]) rfl ?_
    refine T_p xr_186_13 xn_186 (pc' := 14) (ls' := [(0, .ref 530), (1, .long (iL kk))]) (st' := [.ref 530, .int (iI 0), .ref 530]) rfl ?_
    refine T_get xr_186_14 hO530 rfl (v := .int (iI tn)) rfl (pc' := 17) rfl ?_
    refine T_cv (S := S) (q := 530) xr_186_17 xf_182.1 xf_182.2.1 xn_182 (as := [.int (iI 0), .int (iI tn)]) (r := []) rfl hO530 (Nat.le_of_ble_eq_true rfl) (Nat.le_of_ble_eq_true rfl) (pc' := 20) rfl (ls' := [(0, .ref 530), (1, .int (iI 0)), (2, .int (iI tn))]) rfl ?_
    refine T_mono (r_allWays sc S wK tU oW oK o nm b rc G tn 0 tn hO530 hA539 hA550 hA552 hA553 (by omega) hG (by omega) hTU hWK (by omega) (hCt 0 tn (by omega) (by omega) (by omega)).2.1 (hCt 0 tn (by omega) (by omega) (by omega)).1) (fun v1957 S1958 h1959 => ?_)
    rcases h1959 with ⟨hv1960, hf1961⟩
    rw [hv1960]
    rw [hf1961]
    show X_T sc 186 (20, [(0, .ref 530), (1, .long (iL kk))], [.long (X_st (-1) (X_all G 0 tn))], S) _
    refine T_p xr_186_20 xn_186 (pc' := 21) (ls' := [(3, .long (X_st (-1) (X_all G 0 tn))), (0, .ref 530), (1, .long (iL kk))]) (st' := []) rfl ?_
    refine T_p xr_186_21 xn_186 (pc' := 22) (ls' := [(3, .long (X_st (-1) (X_all G 0 tn))), (0, .ref 530), (1, .long (iL kk))]) (st' := [.long (iL kk)]) rfl ?_
    refine T_p xr_186_22 xn_186 (pc' := 23) (ls' := [(3, .long (X_st (-1) (X_all G 0 tn))), (0, .ref 530), (1, .long (iL kk))]) (st' := [.long (iL 0), .long (iL kk)]) rfl ?_
    refine T_lc_lt xr_186_23 xr_186_24 (t := 39) (pc' := 27) rfl rfl (fun c1962 => ?_) (fun c1962 => ?_)
    · skip
      have c1962 : (iL kk) < (iL 0) := c1962
      refine T_p xr_186_39 xn_186 (pc' := 40) (ls' := [(3, .long (X_st (-1) (X_all G 0 tn))), (0, .ref 530), (1, .long (iL kk))]) (st' := [.int (iI (-1))]) rfl ?_
      refine T_iret xr_186_40 xf_186.2.2 rfl ?_
      refine hQ _ _ ?_
      exact Or.inl ⟨rfl, (fun z => by
            obtain ⟨z1, z2, z3⟩ := z
            have hn : ¬ iL kk < iL 0 := by rw [iL_lt (by omega) (by omega) (by omega) (by omega)]; omega
            have h := (X_st_lt (m := -1) (a := X_all G 0 tn) (k := kk.toNat) (by omega) (by omega)).mpr (by omega)
            rw [show ((kk.toNat : Nat) : Int) = kk by omega] at h
            first
              | exact absurd (by assumption) hn
              | (rcases h with h | h
                 · exact absurd ((X_st_n (m := -1) (a := X_all G 0 tn) (by omega)).mpr ((X_st_m (m := -1) (by omega)).mp h)) (by first | assumption | exact Int64.not_lt.mpr (by assumption))
                 · exact absurd h (by first | assumption | exact Int64.not_lt.mpr (by first | assumption | exact Classical.not_not.mp (by assumption))))), rfl⟩
    · skip
      have c1962 : ¬ ((iL kk) < (iL 0)) := c1962
      refine T_p xr_186_27 xn_186 (pc' := 28) (ls' := [(3, .long (X_st (-1) (X_all G 0 tn))), (0, .ref 530), (1, .long (iL kk))]) (st' := [.long (X_st (-1) (X_all G 0 tn))]) rfl ?_
      refine T_p xr_186_28 xn_186 (pc' := 29) (ls' := [(3, .long (X_st (-1) (X_all G 0 tn))), (0, .ref 530), (1, .long (iL kk))]) (st' := [.long (iL 0), .long (X_st (-1) (X_all G 0 tn))]) rfl ?_
      refine T_lc_lt xr_186_29 xr_186_30 (t := 41) (pc' := 33) rfl rfl (fun c1963 => ?_) (fun c1963 => ?_)
      · skip
        have c1963 : (X_st (-1) (X_all G 0 tn)) < (iL 0) := c1963
        have hkk : 0 ≤ kk ∧ (kk.toNat : Int) = kk := by
          have h1 : ¬ iL kk < iL 0 := by first | assumption | exact Int64.not_lt.mpr (by first | assumption | exact Classical.not_not.mp (by assumption))
          rw [iL_lt (by omega) (by omega) (by omega) (by omega)] at h1
          omega
        have hk : kk.toNat < X_all G 0 tn := by
          refine (X_st_lt (m := -1) (by omega) (by omega)).mp ?_
          rw [hkk.2]
          first
            | exact Or.inl ((X_st_m (m := -1) (by omega)).mpr ((X_st_n (m := -1) (by omega)).mp (by first | assumption | exact Int64.not_le.mp (by assumption))))
            | exact Or.inr (by first | assumption | exact Int64.not_le.mp (by assumption))
        have hkm : kk.toNat ≤ 9223372036854775807 := by omega
        have htn1 : 1 ≤ tn ∧ tn ≤ 30 := by omega
        refine T_p xr_186_41 xn_186 (pc' := 42) (ls' := [(3, .long (X_st (-1) (X_all G 0 tn))), (0, .ref 530), (1, .long (iL kk))]) (st' := [.ref 530]) rfl ?_
        refine T_p xr_186_42 xn_186 (pc' := 43) (ls' := [(3, .long (X_st (-1) (X_all G 0 tn))), (0, .ref 530), (1, .long (iL kk))]) (st' := [.int (iI 0), .ref 530]) rfl ?_
        refine T_put xr_186_43 hO530 rfl (Nat.le_of_ble_eq_true rfl) rfl (fs' := [.ref 531, .int (iI (o 1)), .ref 532, .int (iI (o 3)), .int (iI b), .int (iI (o 5)), .int (iI (o 6)), .int (iI (o 7)), .int (iI (o 8)), .int (iI (o 9)), .int (iI (o 10)), .int (iI (o 11)), .long nm, .ref 533, .ref 534, .ref 535, .ref 536, .ref 537, .ref 538, .ref 539, .ref 540, .ref 541, .ref 542, .ref 543, .ref 544, .ref 545, .ref 546, .ref 547, .int (iI rc), .int (iI (gk G)), .int (iI (gw G)), .int (iI (o 31)), .int (iI (o 32)), .int (iI (o 33)), .ref 548, .ref 549, .ref 550, .ref 551, .int (iI tn), .ref 552, .ref 553, .ref 554, .ref 555, .ref 556, .ref 557, .ref 558, .ref 559, .ref 560, .ref 561, .int (iI 0), .ref 562, .ref 563, .ref 564, .ref 565, .ref 566, .ref 567, .ref 568, .ref 569, .int (iI (o 58)), .ref 570, .ref 571, .ref 572, .ref 573, .ref 574, .ref 575, .ref 576, .ref 577, .ref 578, .int (iI (o 68)), .int (iI (o 69)), .int (iI (o 70)), .ref 579]) rfl (pc' := 46) rfl (fun S1964 h1965 n1966 e1967 => ?_)
        refine T_p xr_186_46 xn_186 (pc' := 47) (ls' := [(3, .long (X_st (-1) (X_all G 0 tn))), (0, .ref 530), (1, .long (iL kk))]) (st' := [.ref 530]) rfl ?_
        refine T_p xr_186_47 xn_186 (pc' := 48) (ls' := [(3, .long (X_st (-1) (X_all G 0 tn))), (0, .ref 530), (1, .long (iL kk))]) (st' := [.int (iI 0), .ref 530]) rfl ?_
        refine T_put xr_186_48 h1965 rfl (Nat.le_of_ble_eq_true rfl) rfl (fs' := [.ref 531, .int (iI (o 1)), .ref 532, .int (iI (o 3)), .int (iI b), .int (iI (o 5)), .int (iI (o 6)), .int (iI (o 7)), .int (iI (o 8)), .int (iI (o 9)), .int (iI (o 10)), .int (iI (o 11)), .long nm, .ref 533, .ref 534, .ref 535, .ref 536, .ref 537, .ref 538, .ref 539, .ref 540, .ref 541, .ref 542, .ref 543, .ref 544, .ref 545, .ref 546, .ref 547, .int (iI rc), .int (iI (gk G)), .int (iI (gw G)), .int (iI (o 31)), .int (iI (o 32)), .int (iI (o 33)), .ref 548, .ref 549, .ref 550, .ref 551, .int (iI tn), .ref 552, .ref 553, .ref 554, .ref 555, .ref 556, .ref 557, .ref 558, .ref 559, .ref 560, .ref 561, .int (iI 0), .ref 562, .ref 563, .ref 564, .ref 565, .ref 566, .ref 567, .ref 568, .ref 569, .int (iI (o 58)), .ref 570, .ref 571, .ref 572, .ref 573, .ref 574, .ref 575, .ref 576, .ref 577, .ref 578, .int (iI 0), .int (iI (o 69)), .int (iI (o 70)), .ref 579]) rfl (pc' := 51) rfl (fun S1968 h1969 n1970 e1971 => ?_)
        refine T_p xr_186_51 xn_186 (pc' := 52) (ls' := [(3, .long (X_st (-1) (X_all G 0 tn))), (0, .ref 530), (1, .long (iL kk))]) (st' := [.ref 530]) rfl ?_
        refine T_p xr_186_52 xn_186 (pc' := 53) (ls' := [(3, .long (X_st (-1) (X_all G 0 tn))), (0, .ref 530), (1, .long (iL kk))]) (st' := [.int (iI 0), .ref 530]) rfl ?_
        refine T_put xr_186_53 h1969 rfl (Nat.le_of_ble_eq_true rfl) rfl (fs' := [.ref 531, .int (iI (o 1)), .ref 532, .int (iI (o 3)), .int (iI b), .int (iI (o 5)), .int (iI (o 6)), .int (iI (o 7)), .int (iI (o 8)), .int (iI (o 9)), .int (iI (o 10)), .int (iI (o 11)), .long nm, .ref 533, .ref 534, .ref 535, .ref 536, .ref 537, .ref 538, .ref 539, .ref 540, .ref 541, .ref 542, .ref 543, .ref 544, .ref 545, .ref 546, .ref 547, .int (iI rc), .int (iI (gk G)), .int (iI (gw G)), .int (iI (o 31)), .int (iI (o 32)), .int (iI (o 33)), .ref 548, .ref 549, .ref 550, .ref 551, .int (iI tn), .ref 552, .ref 553, .ref 554, .ref 555, .ref 556, .ref 557, .ref 558, .ref 559, .ref 560, .ref 561, .int (iI 0), .ref 562, .ref 563, .ref 564, .ref 565, .ref 566, .ref 567, .ref 568, .ref 569, .int (iI 0), .ref 570, .ref 571, .ref 572, .ref 573, .ref 574, .ref 575, .ref 576, .ref 577, .ref 578, .int (iI 0), .int (iI (o 69)), .int (iI (o 70)), .ref 579]) rfl (pc' := 56) rfl (fun S1972 h1973 n1974 e1975 => ?_)
        refine T_p xr_186_56 xn_186 (pc' := 57) (ls' := [(3, .long (X_st (-1) (X_all G 0 tn))), (0, .ref 530), (1, .long (iL kk))]) (st' := [.ref 530]) rfl ?_
        refine T_p xr_186_57 xn_186 (pc' := 58) (ls' := [(3, .long (X_st (-1) (X_all G 0 tn))), (0, .ref 530), (1, .long (iL kk))]) (st' := [.int (iI 0), .ref 530]) rfl ?_
        refine T_p xr_186_58 xn_186 (pc' := 59) (ls' := [(3, .long (X_st (-1) (X_all G 0 tn))), (0, .ref 530), (1, .long (iL kk))]) (st' := [.ref 530, .int (iI 0), .ref 530]) rfl ?_
        refine T_get xr_186_59 h1973 rfl (v := .int (iI tn)) rfl (pc' := 62) rfl ?_
        refine T_p xr_186_62 xn_186 (pc' := 63) (ls' := [(3, .long (X_st (-1) (X_all G 0 tn))), (0, .ref 530), (1, .long (iL kk))]) (st' := [.int (iI 0), .int (iI tn), .int (iI 0), .ref 530]) rfl ?_
        refine T_p xr_186_63 xn_186 (pc' := 64) (ls' := [(3, .long (X_st (-1) (X_all G 0 tn))), (0, .ref 530), (1, .long (iL kk))]) (st' := [.int (iI 0), .int (iI 0), .int (iI tn), .int (iI 0), .ref 530]) rfl ?_
        refine T_p xr_186_64 xn_186 (pc' := 65) (ls' := [(3, .long (X_st (-1) (X_all G 0 tn))), (0, .ref 530), (1, .long (iL kk))]) (st' := [.int (iI 0), .int (iI 0), .int (iI 0), .int (iI tn), .int (iI 0), .ref 530]) rfl ?_
        refine T_p xr_186_65 xn_186 (pc' := 66) (ls' := [(3, .long (X_st (-1) (X_all G 0 tn))), (0, .ref 530), (1, .long (iL kk))]) (st' := [.long (iL kk), .int (iI 0), .int (iI 0), .int (iI 0), .int (iI tn), .int (iI 0), .ref 530]) rfl ?_
        refine T_le (y := (iL (kk.toNat : Int))) (by rw [hkk.2]) ?_
        refine T_p xr_186_66 xn_186 (pc' := 67) (ls' := [(3, .long (X_st (-1) (X_all G 0 tn))), (0, .ref 530), (1, .long (iL kk))]) (st' := [.int (iI (-1)), .long (iL (kk.toNat : Int)), .int (iI 0), .int (iI 0), .int (iI 0), .int (iI tn), .int (iI 0), .ref 530]) rfl ?_
        refine T_p xr_186_67 xn_186 (pc' := 68) (ls' := [(3, .long (X_st (-1) (X_all G 0 tn))), (0, .ref 530), (1, .long (iL kk))]) (st' := [.int (iI (-1)), .int (iI (-1)), .long (iL (kk.toNat : Int)), .int (iI 0), .int (iI 0), .int (iI 0), .int (iI tn), .int (iI 0), .ref 530]) rfl ?_
        refine T_cv (S := S1972) (q := 530) xr_186_68 xf_185.1 xf_185.2.1 xn_185 (as := [.int (iI 0), .int (iI tn), .int (iI 0), .int (iI 0), .int (iI 0), .long (iL (kk.toNat : Int)), .int (iI (-1)), .int (iI (-1))]) (r := []) rfl h1973 (Nat.le_of_ble_eq_true rfl) (Nat.le_of_ble_eq_true rfl) (pc' := 71) rfl (ls' := [(0, .ref 530), (1, .int (iI 0)), (2, .int (iI tn)), (3, .int (iI 0)), (4, .int (iI 0)), (5, .int (iI 0)), (6, .long (iL (kk.toNat : Int))), (8, .int (iI (-1))), (9, .int (iI (-1)))]) rfl ?_
        have h1976 := (n1974 562 (by decide)).trans ((n1970 562 (by decide)).trans ((n1966 562 (by decide)).trans (hA562)))
        have h1977 := (n1974 563 (by decide)).trans ((n1970 563 (by decide)).trans ((n1966 563 (by decide)).trans (hA563)))
        have h1978 := (n1974 564 (by decide)).trans ((n1970 564 (by decide)).trans ((n1966 564 (by decide)).trans (hA564)))
        have h1979 := (n1974 565 (by decide)).trans ((n1970 565 (by decide)).trans ((n1966 565 (by decide)).trans (hA565)))
        have h1980 := (n1974 566 (by decide)).trans ((n1970 566 (by decide)).trans ((n1966 566 (by decide)).trans (hA566)))
        have h1981 := (n1974 567 (by decide)).trans ((n1970 567 (by decide)).trans ((n1966 567 (by decide)).trans (hA567)))
        have h1982 := (n1974 568 (by decide)).trans ((n1970 568 (by decide)).trans ((n1966 568 (by decide)).trans (hA568)))
        have h1983 := (n1974 569 (by decide)).trans ((n1970 569 (by decide)).trans ((n1966 569 (by decide)).trans (hA569)))
        refine T_mono (r_pile sc S1972 pF pT pS pH pW pP pQ pN (X_ou (X_ou (X_ou o 49 0) 58 0) 68 0) nm b rc G tn 0 0 tn 0 0 0 (-1) (-1) (iL (kk.toNat : Int)) h1973 h1976 h1977 h1978 h1979 h1980 h1981 h1982 h1983 (by omega)) (fun v1984 S1985 h1986 => ?_)
        rcases h1986 with ⟨pF1987, pT1988, pS1989, pH1990, pW1991, pP1992, pQ1993, pN1994, hv1995, hp1996, hp1997, hp1998, hp1999, hp2000, hp2001, hp2002, hp2003, ho2004, ha2005, ha2006, ha2007, ha2008, ha2009, ha2010, ha2011, ha2012, hf2013⟩
        rw [hv1995]
        have ht2014 : S1985.1 530 = .inr (11, [.ref 531, .int (iI (o 1)), .ref 532, .int (iI (o 3)), .int (iI b), .int (iI (o 5)), .int (iI (o 6)), .int (iI (o 7)), .int (iI (o 8)), .int (iI (o 9)), .int (iI (o 10)), .int (iI (o 11)), .long nm, .ref 533, .ref 534, .ref 535, .ref 536, .ref 537, .ref 538, .ref 539, .ref 540, .ref 541, .ref 542, .ref 543, .ref 544, .ref 545, .ref 546, .ref 547, .int (iI rc), .int (iI (gk G)), .int (iI (gw G)), .int (iI (o 31)), .int (iI (o 32)), .int (iI (o 33)), .ref 548, .ref 549, .ref 550, .ref 551, .int (iI tn), .ref 552, .ref 553, .ref 554, .ref 555, .ref 556, .ref 557, .ref 558, .ref 559, .ref 560, .ref 561, .int (iI 0), .ref 562, .ref 563, .ref 564, .ref 565, .ref 566, .ref 567, .ref 568, .ref 569, .int (iI (0 + 1)), .ref 570, .ref 571, .ref 572, .ref 573, .ref 574, .ref 575, .ref 576, .ref 577, .ref 578, .int (iI 0), .int (iI (o 69)), .int (iI (o 70)), .ref 579]) := ho2004
        show X_T sc 186 (71, [(3, .long (X_st (-1) (X_all G 0 tn))), (0, .ref 530), (1, .long (iL kk))], [], S1985) _
        have h2020 := (hf2013.1 557 (by omega)).trans ((n1974 557 (by decide)).trans ((n1970 557 (by decide)).trans ((n1966 557 (by decide)).trans (hA557))))
        have h2021 := (hf2013.1 558 (by omega)).trans ((n1974 558 (by decide)).trans ((n1970 558 (by decide)).trans ((n1966 558 (by decide)).trans (hA558))))
        have h2022 := (hf2013.1 559 (by omega)).trans ((n1974 559 (by decide)).trans ((n1970 559 (by decide)).trans ((n1966 559 (by decide)).trans (hA559))))
        have h2023 := (hf2013.1 560 (by omega)).trans ((n1974 560 (by decide)).trans ((n1970 560 (by decide)).trans ((n1966 560 (by decide)).trans (hA560))))
        have h2024 := (hf2013.1 561 (by omega)).trans ((n1974 561 (by decide)).trans ((n1970 561 (by decide)).trans ((n1966 561 (by decide)).trans (hA561))))
        have h2025 := (hf2013.1 570 (by omega)).trans ((n1974 570 (by decide)).trans ((n1970 570 (by decide)).trans ((n1966 570 (by decide)).trans (hA570))))
        have h2026 := (hf2013.1 571 (by omega)).trans ((n1974 571 (by decide)).trans ((n1970 571 (by decide)).trans ((n1966 571 (by decide)).trans (hA571))))
        have h2027 := (hf2013.1 572 (by omega)).trans ((n1974 572 (by decide)).trans ((n1970 572 (by decide)).trans ((n1966 572 (by decide)).trans (hA572))))
        have h2028 := (hf2013.1 573 (by omega)).trans ((n1974 573 (by decide)).trans ((n1970 573 (by decide)).trans ((n1966 573 (by decide)).trans (hA573))))
        have L2015 : ∀ (m2017 : Nat) (S2029 : X_S) (wt : Int) (nc : Int) (St : Int → X_It) (N : Int → Int → Int) (nW : Int → Int) (nF : Int → Int) (nL : Int → Int) (nP : Int → Int) (nH : Int → Int) (pF : Int → Int) (pT : Int → Int) (pS : Int → Int) (pH : Int → Int) (pW : Int → Int) (pP : Int → Int) (pQ : Int → Int) (pN : Int → Int64) (cF : Int → Int) (cT : Int → Int) (cN : Int → Int64) (rr : Int → Int64) (hO5 : S2029.1 530 = .inr (11, [.ref 531, .int (iI (o 1)), .ref 532, .int (iI (o 3)), .int (iI b), .int (iI (o 5)), .int (iI (o 6)), .int (iI (o 7)), .int (iI (o 8)), .int (iI (o 9)), .int (iI (o 10)), .int (iI (o 11)), .long nm, .ref 533, .ref 534, .ref 535, .ref 536, .ref 537, .ref 538, .ref 539, .ref 540, .ref 541, .ref 542, .ref 543, .ref 544, .ref 545, .ref 546, .ref 547, .int (iI rc), .int (iI (gk G)), .int (iI (gw G)), .int (iI (o 31)), .int (iI (o 32)), .int (iI (o 33)), .ref 548, .ref 549, .ref 550, .ref 551, .int (iI tn), .ref 552, .ref 553, .ref 554, .ref 555, .ref 556, .ref 557, .ref 558, .ref 559, .ref 560, .ref 561, .int (iI nc), .ref 562, .ref 563, .ref 564, .ref 565, .ref 566, .ref 567, .ref 568, .ref 569, .int (iI wt), .ref 570, .ref 571, .ref 572, .ref 573, .ref 574, .ref 575, .ref 576, .ref 577, .ref 578, .int (iI 0), .int (iI (o 69)), .int (iI (o 70)), .ref 579])) (hxnW : S2029.1 557 = .inl (.int, 40, .inl fun k : Nat => iI (nW (k : Int)))) (hxnF : S2029.1 558 = .inl (.int, 40, .inl fun k : Nat => iI (nF (k : Int)))) (hxnL : S2029.1 559 = .inl (.int, 40, .inl fun k : Nat => iI (nL (k : Int)))) (hxnP : S2029.1 560 = .inl (.int, 40, .inl fun k : Nat => iI (nP (k : Int)))) (hxnH : S2029.1 561 = .inl (.int, 40, .inl fun k : Nat => iI (nH (k : Int)))) (hxpF : S2029.1 562 = .inl (.int, 160, .inl fun k : Nat => iI (pF (k : Int)))) (hxpT : S2029.1 563 = .inl (.int, 160, .inl fun k : Nat => iI (pT (k : Int)))) (hxpS : S2029.1 564 = .inl (.int, 160, .inl fun k : Nat => iI (pS (k : Int)))) (hxpH : S2029.1 565 = .inl (.int, 160, .inl fun k : Nat => iI (pH (k : Int)))) (hxpW : S2029.1 566 = .inl (.int, 160, .inl fun k : Nat => iI (pW (k : Int)))) (hxpP : S2029.1 567 = .inl (.int, 160, .inl fun k : Nat => iI (pP (k : Int)))) (hxpQ : S2029.1 568 = .inl (.int, 160, .inl fun k : Nat => iI (pQ (k : Int)))) (hxpN : S2029.1 569 = .inl (.long, 160, .inr (.inl fun k : Nat => pN (k : Int)))) (hxcF : S2029.1 570 = .inl (.int, 4, .inl fun k : Nat => iI (cF (k : Int)))) (hxcT : S2029.1 571 = .inl (.int, 4, .inl fun k : Nat => iI (cT (k : Int)))) (hxcN : S2029.1 572 = .inl (.long, 4, .inr (.inl fun k : Nat => cN (k : Int)))) (hxrr : S2029.1 573 = .inl (.long, 288, .inr (.inl fun k : Nat => rr (k : Int)))) (hF2019 : X_Fr (fun q => q = 530 ∨ (557 ≤ q ∧ q ≤ 573)) S1985 S2029) (hncr : 0 ≤ nc ∧ nc ≤ 30) (hX : X_mks G (30 - nc).toNat (wt, St, nc, N) = X_rd G tn kk.toNat) (hM : X_Mok G tn (wt, St, nc, N)) (hpl : R_pl wt St pF pT pS pH pW pP pQ pN) (hnd : R_nd nc N nW nF nL nP nH) (hm2018 : 30 - nc < m2017), X_T sc 186 (71, [(0, .ref 530)], [], S2029) Q := by
          intro m2017
          induction m2017 with
          | zero =>
            intro S2029 wt nc St N nW nF nL nP nH pF pT pS pH pW pP pQ pN cF cT cN rr hO5 hxnW hxnF hxnL hxnP hxnH hxpF hxpT hxpS hxpH hxpW hxpP hxpQ hxpN hxcF hxcT hxcN hxrr hF2019 hncr hX hM hpl hnd hm2018
            exact (show False by omega).elim
          | succ m2017 ih2016 =>
            intro S2029 wt nc St N nW nF nL nP nH pF pT pS pH pW pP pQ pN cF cT cN rr hO5 hxnW hxnF hxnL hxnP hxnH hxpF hxpT hxpS hxpH hxpW hxpP hxpQ hxpN hxcF hxcT hxcN hxrr hF2019 hncr hX hM hpl hnd hm2018
            have hle := X_Mok.le hM
            have hw0 : 0 ≤ wt := hM.1
            have hnc0 : 0 ≤ nc := hM.2.1
            have hM2 : nc + (X_Su (X_lw St) 0 wt : Int) ≤ tn := hM.2.2.2
            refine T_p xr_186_71 xn_186 (pc' := 72) (ls' := [(0, .ref 530)]) (st' := [.ref 530]) rfl ?_
            refine T_get xr_186_72 hO5 rfl (v := .int (iI wt)) rfl (pc' := 75) rfl ?_
            refine T_zif_le xr_186_75 (t := 99) (pc' := 78) rfl rfl (fun c2030 => ?_) (fun c2030 => ?_)
            · skip
              have c2030 : wt ≤ 0 := c2030
              refine T_p xr_186_99 xn_186 (pc' := 100) (ls' := [(0, .ref 530)]) (st' := [.ref 530]) rfl ?_
              refine T_get xr_186_100 hO5 rfl (v := .int (iI nc)) rfl (pc' := 103) rfl ?_
              refine T_iret xr_186_103 xf_186.2.2 rfl ?_
              refine hQ _ _ ?_
              have hend : X_mks G (30 - nc).toNat (wt, St, nc, N) = (wt, St, nc, N) := X_mks_e (show wt ≤ 0 by omega)
              exact Or.inr ⟨wt, nc, St, N, nW, nF, nL, nP, nH, pF, pT, pS, pH, pW, pP, pQ, pN, cF, cT, cN, rr, rfl, ⟨hkk.1, by omega, by omega⟩, (hX.symm.trans hend), hnd, hO5, hxnW, hxnF, hxnL, hxnP, hxnH, hxpF, hxpT, hxpS, hxpH, hxpW, hxpP, hxpQ, hxpN, hxcF, hxcT, hxcN, hxrr, (((((X_Fr.rf).tr (X_Fr.of n1966 e1967 (by omega))).tr (X_Fr.of n1970 e1971 (by omega))).tr (X_Fr.of n1974 e1975 (by omega))).tr (X_Fr.mono ⟨hf2013.1, hf2013.2⟩ (fun q hq => (by omega)))).tr (X_Fr.mono ⟨hF2019.1, hF2019.2⟩ (fun q hq => (by omega)))⟩
            · skip
              have c2030 : ¬ (wt ≤ 0) := c2030
              refine T_p xr_186_78 xn_186 (pc' := 79) (ls' := [(0, .ref 530)]) (st' := [.ref 530]) rfl ?_
              refine T_p xr_186_79 xn_186 (pc' := 80) (ls' := [(0, .ref 530)]) (st' := [.ref 530, .ref 530]) rfl ?_
              refine T_get xr_186_80 hO5 rfl (v := .int (iI wt)) rfl (pc' := 83) rfl ?_
              refine T_p xr_186_83 xn_186 (pc' := 84) (ls' := [(0, .ref 530)]) (st' := [.int (iI 1), .int (iI wt), .ref 530]) rfl ?_
              refine T_zisub xr_186_84 (z := wt - 1) rfl (pc' := 85) rfl ?_
              refine T_put xr_186_85 hO5 rfl (Nat.le_of_ble_eq_true rfl) rfl (fs' := [.ref 531, .int (iI (o 1)), .ref 532, .int (iI (o 3)), .int (iI b), .int (iI (o 5)), .int (iI (o 6)), .int (iI (o 7)), .int (iI (o 8)), .int (iI (o 9)), .int (iI (o 10)), .int (iI (o 11)), .long nm, .ref 533, .ref 534, .ref 535, .ref 536, .ref 537, .ref 538, .ref 539, .ref 540, .ref 541, .ref 542, .ref 543, .ref 544, .ref 545, .ref 546, .ref 547, .int (iI rc), .int (iI (gk G)), .int (iI (gw G)), .int (iI (o 31)), .int (iI (o 32)), .int (iI (o 33)), .ref 548, .ref 549, .ref 550, .ref 551, .int (iI tn), .ref 552, .ref 553, .ref 554, .ref 555, .ref 556, .ref 557, .ref 558, .ref 559, .ref 560, .ref 561, .int (iI nc), .ref 562, .ref 563, .ref 564, .ref 565, .ref 566, .ref 567, .ref 568, .ref 569, .int (iI (wt - 1)), .ref 570, .ref 571, .ref 572, .ref 573, .ref 574, .ref 575, .ref 576, .ref 577, .ref 578, .int (iI 0), .int (iI (o 69)), .int (iI (o 70)), .ref 579]) rfl (pc' := 88) rfl (fun S2031 h2032 n2033 e2034 => ?_)
              refine T_p xr_186_88 xn_186 (pc' := 89) (ls' := [(0, .ref 530)]) (st' := [.ref 530]) rfl ?_
              refine T_p xr_186_89 xn_186 (pc' := 90) (ls' := [(0, .ref 530)]) (st' := [.ref 530, .ref 530]) rfl ?_
              refine T_get xr_186_90 h2032 rfl (v := .int (iI (wt - 1))) rfl (pc' := 93) rfl ?_
              refine T_cv (S := S2031) (q := 530) xr_186_93 xf_187.1 xf_187.2.1 xn_187 (as := [.int (iI (wt - 1))]) (r := []) rfl h2032 (Nat.le_of_ble_eq_true rfl) (Nat.le_of_ble_eq_true rfl) (pc' := 96) rfl (ls' := [(0, .ref 530), (1, .int (iI (wt - 1)))]) rfl ?_
              have h2035 := (n2033 535 (by decide)).trans ((hF2019.1 535 (by omega)).trans ((hf2013.1 535 (by omega)).trans ((n1974 535 (by decide)).trans ((n1970 535 (by decide)).trans ((n1966 535 (by decide)).trans (hA535))))))
              have h2036 := (n2033 536 (by decide)).trans ((hF2019.1 536 (by omega)).trans ((hf2013.1 536 (by omega)).trans ((n1974 536 (by decide)).trans ((n1970 536 (by decide)).trans ((n1966 536 (by decide)).trans (hA536))))))
              have h2037 := (n2033 537 (by decide)).trans ((hF2019.1 537 (by omega)).trans ((hf2013.1 537 (by omega)).trans ((n1974 537 (by decide)).trans ((n1970 537 (by decide)).trans ((n1966 537 (by decide)).trans (hA537))))))
              have h2038 := (n2033 538 (by decide)).trans ((hF2019.1 538 (by omega)).trans ((hf2013.1 538 (by omega)).trans ((n1974 538 (by decide)).trans ((n1970 538 (by decide)).trans ((n1966 538 (by decide)).trans (hA538))))))
              have h2039 := (n2033 539 (by decide)).trans ((hF2019.1 539 (by omega)).trans ((hf2013.1 539 (by omega)).trans ((n1974 539 (by decide)).trans ((n1970 539 (by decide)).trans ((n1966 539 (by decide)).trans (hA539))))))
              have h2040 := (n2033 540 (by decide)).trans ((hF2019.1 540 (by omega)).trans ((hf2013.1 540 (by omega)).trans ((n1974 540 (by decide)).trans ((n1970 540 (by decide)).trans ((n1966 540 (by decide)).trans (hA540))))))
              have h2041 := (n2033 541 (by decide)).trans ((hF2019.1 541 (by omega)).trans ((hf2013.1 541 (by omega)).trans ((n1974 541 (by decide)).trans ((n1970 541 (by decide)).trans ((n1966 541 (by decide)).trans (hA541))))))
              have h2042 := (n2033 545 (by decide)).trans ((hF2019.1 545 (by omega)).trans ((hf2013.1 545 (by omega)).trans ((n1974 545 (by decide)).trans ((n1970 545 (by decide)).trans ((n1966 545 (by decide)).trans (hA545))))))
              have h2043 := (n2033 546 (by decide)).trans ((hF2019.1 546 (by omega)).trans ((hf2013.1 546 (by omega)).trans ((n1974 546 (by decide)).trans ((n1970 546 (by decide)).trans ((n1966 546 (by decide)).trans (hA546))))))
              have h2044 := (n2033 547 (by decide)).trans ((hF2019.1 547 (by omega)).trans ((hf2013.1 547 (by omega)).trans ((n1974 547 (by decide)).trans ((n1970 547 (by decide)).trans ((n1966 547 (by decide)).trans (hA547))))))
              have h2045 := (n2033 548 (by decide)).trans ((hF2019.1 548 (by omega)).trans ((hf2013.1 548 (by omega)).trans ((n1974 548 (by decide)).trans ((n1970 548 (by decide)).trans ((n1966 548 (by decide)).trans (hA548))))))
              have h2046 := (n2033 550 (by decide)).trans ((hF2019.1 550 (by omega)).trans ((hf2013.1 550 (by omega)).trans ((n1974 550 (by decide)).trans ((n1970 550 (by decide)).trans ((n1966 550 (by decide)).trans (hA550))))))
              have h2047 := (n2033 552 (by decide)).trans ((hF2019.1 552 (by omega)).trans ((hf2013.1 552 (by omega)).trans ((n1974 552 (by decide)).trans ((n1970 552 (by decide)).trans ((n1966 552 (by decide)).trans (hA552))))))
              have h2048 := (n2033 553 (by decide)).trans ((hF2019.1 553 (by omega)).trans ((hf2013.1 553 (by omega)).trans ((n1974 553 (by decide)).trans ((n1970 553 (by decide)).trans ((n1966 553 (by decide)).trans (hA553))))))
              have h2049 := (n2033 554 (by decide)).trans ((hF2019.1 554 (by omega)).trans ((hf2013.1 554 (by omega)).trans ((n1974 554 (by decide)).trans ((n1970 554 (by decide)).trans ((n1966 554 (by decide)).trans (hA554))))))
              have h2050 := (n2033 557 (by decide)).trans (hxnW)
              have h2051 := (n2033 558 (by decide)).trans (hxnF)
              have h2052 := (n2033 559 (by decide)).trans (hxnL)
              have h2053 := (n2033 560 (by decide)).trans (hxnP)
              have h2054 := (n2033 561 (by decide)).trans (hxnH)
              have h2055 := (n2033 562 (by decide)).trans (hxpF)
              have h2056 := (n2033 563 (by decide)).trans (hxpT)
              have h2057 := (n2033 564 (by decide)).trans (hxpS)
              have h2058 := (n2033 565 (by decide)).trans (hxpH)
              have h2059 := (n2033 566 (by decide)).trans (hxpW)
              have h2060 := (n2033 567 (by decide)).trans (hxpP)
              have h2061 := (n2033 568 (by decide)).trans (hxpQ)
              have h2062 := (n2033 569 (by decide)).trans (hxpN)
              have h2063 := (n2033 570 (by decide)).trans (hxcF)
              have h2064 := (n2033 571 (by decide)).trans (hxcT)
              have h2065 := (n2033 572 (by decide)).trans (hxcN)
              have h2066 := (n2033 573 (by decide)).trans (hxrr)
              refine T_mono (r_open sc S2031 tg kU wR wL wK wM wH eP eH hK tT tU oW oK oH nW nF nL nP nH pF pT pS pH pW pP pQ pN cF cT cN rr (X_ou (X_ou (X_ou o 49 nc) 58 (wt - 1)) 68 0) nm b rc G tn wt nc St N ((St (wt - 1)).1) ((St (wt - 1)).2.1) ((St (wt - 1)).2.2.1) ((St (wt - 1)).2.2.2.1) ((St (wt - 1)).2.2.2.2.1) ((St (wt - 1)).2.2.2.2.2.1) ((St (wt - 1)).2.2.2.2.2.2.1) ((St (wt - 1)).2.2.2.2.2.2.2) h2032 h2035 h2036 h2037 h2038 h2039 h2040 h2041 h2042 h2043 h2044 h2045 h2046 h2047 h2048 h2049 h2050 h2051 h2052 h2053 h2054 h2055 h2056 h2057 h2058 h2059 h2060 h2061 h2062 h2063 h2064 h2065 h2066 (by omega) hG (by omega) hTU hTT hKU hTG hWR hWL hWK hWM hWH hEP hEH hHK hCt (by omega) hM rfl hpl hnd) (fun v2067 S2068 h2069 => ?_)
              rcases h2069 with ⟨r2070, St2071, N2072, nW2073, nF2074, nL2075, nP2076, nH2077, pF2078, pT2079, pS2080, pH2081, pW2082, pP2083, pQ2084, pN2085, cF2086, cT2087, cN2088, rr2089, hv2090, hp2091, hp2092, hp2093, hp2094, ho2095, ha2096, ha2097, ha2098, ha2099, ha2100, ha2101, ha2102, ha2103, ha2104, ha2105, ha2106, ha2107, ha2108, ha2109, ha2110, ha2111, ha2112, hf2113⟩
              rw [hv2090]
              show X_T sc 186 (96, [(0, .ref 530)], [], S2068) _
              refine T_p xr_186_96 xn_186 (pc' := 71) (ls' := [(0, .ref 530)]) (st' := []) rfl ?_
              exact ih2016 S2068 r2070 (nc + 1) St2071 N2072 nW2073 nF2074 nL2075 nP2076 nH2077 pF2078 pT2079 pS2080 pH2081 pW2082 pP2083 pQ2084 pN2085 cF2086 cT2087 cN2088 rr2089 ho2095 ha2096 ha2097 ha2098 ha2099 ha2100 ha2101 ha2102 ha2103 ha2104 ha2105 ha2106 ha2107 ha2108 ha2109 ha2110 ha2111 ha2112 (hF2019.tr (((X_Fr.rf).tr (X_Fr.of n2033 e2034 (by omega))).tr (X_Fr.mono ⟨hf2113.1, hf2113.2⟩ (fun q hq => (by omega))))) (by omega) ((X_mks_s (s := (wt, St, nc, N)) (show 0 < wt by omega) (by omega) hp2091).symm.trans hX) hp2094 hp2092 hp2093 (by omega)
        refine T_sub (ls := [(0, .ref 530)]) ⟨rfl, trivial⟩ rfl rfl ?_
        exact L2015 ((30 : Int) + 1).toNat S1985 (0 + 1) 0 (fun _ => (0, tn, -1, -1, 0, 0, 0, kk.toNat)) (fun _ _ => 0) nW nF nL nP nH pF1987 pT1988 pS1989 pH1990 pW1991 pP1992 pQ1993 pN1994 cF cT cN rr ht2014 h2020 h2021 h2022 h2023 h2024 ha2005 ha2006 ha2007 ha2008 ha2009 ha2010 ha2011 ha2012 h2025 h2026 h2027 h2028 ((X_Fr.rf)) (by omega) rfl (X_Mok_0 hG htn1 hk hkm) (fun q h1 h2 => by
              obtain rfl : q = 0 := by omega
              rw [hp1996, hp1997, hp1998, hp1999, hp2000, hp2001, hp2002, hp2003]; simp only [X_ug_s]; exact ⟨trivial, trivial, trivial, trivial, trivial, trivial, trivial, trivial⟩) (fun n h1 h2 => absurd h2 (by omega)) (by omega)
      · skip
        have c1963 : ¬ ((X_st (-1) (X_all G 0 tn)) < (iL 0)) := c1963
        refine T_p xr_186_33 xn_186 (pc' := 34) (ls' := [(3, .long (X_st (-1) (X_all G 0 tn))), (0, .ref 530), (1, .long (iL kk))]) (st' := [.long (iL kk)]) rfl ?_
        refine T_p xr_186_34 xn_186 (pc' := 35) (ls' := [(3, .long (X_st (-1) (X_all G 0 tn))), (0, .ref 530), (1, .long (iL kk))]) (st' := [.long (X_st (-1) (X_all G 0 tn)), .long (iL kk)]) rfl ?_
        refine T_lc_lt xr_186_35 xr_186_36 (t := 41) (pc' := 39) rfl rfl (fun c2114 => ?_) (fun c2114 => ?_)
        · skip
          have c2114 : (iL kk) < (X_st (-1) (X_all G 0 tn)) := c2114
          have hkk : 0 ≤ kk ∧ (kk.toNat : Int) = kk := by
            have h1 : ¬ iL kk < iL 0 := by first | assumption | exact Int64.not_lt.mpr (by first | assumption | exact Classical.not_not.mp (by assumption))
            rw [iL_lt (by omega) (by omega) (by omega) (by omega)] at h1
            omega
          have hk : kk.toNat < X_all G 0 tn := by
            refine (X_st_lt (m := -1) (by omega) (by omega)).mp ?_
            rw [hkk.2]
            first
              | exact Or.inl ((X_st_m (m := -1) (by omega)).mpr ((X_st_n (m := -1) (by omega)).mp (by first | assumption | exact Int64.not_le.mp (by assumption))))
              | exact Or.inr (by first | assumption | exact Int64.not_le.mp (by assumption))
          have hkm : kk.toNat ≤ 9223372036854775807 := by omega
          have htn1 : 1 ≤ tn ∧ tn ≤ 30 := by omega
          refine T_p xr_186_41 xn_186 (pc' := 42) (ls' := [(3, .long (X_st (-1) (X_all G 0 tn))), (0, .ref 530), (1, .long (iL kk))]) (st' := [.ref 530]) rfl ?_
          refine T_p xr_186_42 xn_186 (pc' := 43) (ls' := [(3, .long (X_st (-1) (X_all G 0 tn))), (0, .ref 530), (1, .long (iL kk))]) (st' := [.int (iI 0), .ref 530]) rfl ?_
          refine T_put xr_186_43 hO530 rfl (Nat.le_of_ble_eq_true rfl) rfl (fs' := [.ref 531, .int (iI (o 1)), .ref 532, .int (iI (o 3)), .int (iI b), .int (iI (o 5)), .int (iI (o 6)), .int (iI (o 7)), .int (iI (o 8)), .int (iI (o 9)), .int (iI (o 10)), .int (iI (o 11)), .long nm, .ref 533, .ref 534, .ref 535, .ref 536, .ref 537, .ref 538, .ref 539, .ref 540, .ref 541, .ref 542, .ref 543, .ref 544, .ref 545, .ref 546, .ref 547, .int (iI rc), .int (iI (gk G)), .int (iI (gw G)), .int (iI (o 31)), .int (iI (o 32)), .int (iI (o 33)), .ref 548, .ref 549, .ref 550, .ref 551, .int (iI tn), .ref 552, .ref 553, .ref 554, .ref 555, .ref 556, .ref 557, .ref 558, .ref 559, .ref 560, .ref 561, .int (iI 0), .ref 562, .ref 563, .ref 564, .ref 565, .ref 566, .ref 567, .ref 568, .ref 569, .int (iI (o 58)), .ref 570, .ref 571, .ref 572, .ref 573, .ref 574, .ref 575, .ref 576, .ref 577, .ref 578, .int (iI (o 68)), .int (iI (o 69)), .int (iI (o 70)), .ref 579]) rfl (pc' := 46) rfl (fun S2115 h2116 n2117 e2118 => ?_)
          refine T_p xr_186_46 xn_186 (pc' := 47) (ls' := [(3, .long (X_st (-1) (X_all G 0 tn))), (0, .ref 530), (1, .long (iL kk))]) (st' := [.ref 530]) rfl ?_
          refine T_p xr_186_47 xn_186 (pc' := 48) (ls' := [(3, .long (X_st (-1) (X_all G 0 tn))), (0, .ref 530), (1, .long (iL kk))]) (st' := [.int (iI 0), .ref 530]) rfl ?_
          refine T_put xr_186_48 h2116 rfl (Nat.le_of_ble_eq_true rfl) rfl (fs' := [.ref 531, .int (iI (o 1)), .ref 532, .int (iI (o 3)), .int (iI b), .int (iI (o 5)), .int (iI (o 6)), .int (iI (o 7)), .int (iI (o 8)), .int (iI (o 9)), .int (iI (o 10)), .int (iI (o 11)), .long nm, .ref 533, .ref 534, .ref 535, .ref 536, .ref 537, .ref 538, .ref 539, .ref 540, .ref 541, .ref 542, .ref 543, .ref 544, .ref 545, .ref 546, .ref 547, .int (iI rc), .int (iI (gk G)), .int (iI (gw G)), .int (iI (o 31)), .int (iI (o 32)), .int (iI (o 33)), .ref 548, .ref 549, .ref 550, .ref 551, .int (iI tn), .ref 552, .ref 553, .ref 554, .ref 555, .ref 556, .ref 557, .ref 558, .ref 559, .ref 560, .ref 561, .int (iI 0), .ref 562, .ref 563, .ref 564, .ref 565, .ref 566, .ref 567, .ref 568, .ref 569, .int (iI (o 58)), .ref 570, .ref 571, .ref 572, .ref 573, .ref 574, .ref 575, .ref 576, .ref 577, .ref 578, .int (iI 0), .int (iI (o 69)), .int (iI (o 70)), .ref 579]) rfl (pc' := 51) rfl (fun S2119 h2120 n2121 e2122 => ?_)
          refine T_p xr_186_51 xn_186 (pc' := 52) (ls' := [(3, .long (X_st (-1) (X_all G 0 tn))), (0, .ref 530), (1, .long (iL kk))]) (st' := [.ref 530]) rfl ?_
          refine T_p xr_186_52 xn_186 (pc' := 53) (ls' := [(3, .long (X_st (-1) (X_all G 0 tn))), (0, .ref 530), (1, .long (iL kk))]) (st' := [.int (iI 0), .ref 530]) rfl ?_
          refine T_put xr_186_53 h2120 rfl (Nat.le_of_ble_eq_true rfl) rfl (fs' := [.ref 531, .int (iI (o 1)), .ref 532, .int (iI (o 3)), .int (iI b), .int (iI (o 5)), .int (iI (o 6)), .int (iI (o 7)), .int (iI (o 8)), .int (iI (o 9)), .int (iI (o 10)), .int (iI (o 11)), .long nm, .ref 533, .ref 534, .ref 535, .ref 536, .ref 537, .ref 538, .ref 539, .ref 540, .ref 541, .ref 542, .ref 543, .ref 544, .ref 545, .ref 546, .ref 547, .int (iI rc), .int (iI (gk G)), .int (iI (gw G)), .int (iI (o 31)), .int (iI (o 32)), .int (iI (o 33)), .ref 548, .ref 549, .ref 550, .ref 551, .int (iI tn), .ref 552, .ref 553, .ref 554, .ref 555, .ref 556, .ref 557, .ref 558, .ref 559, .ref 560, .ref 561, .int (iI 0), .ref 562, .ref 563, .ref 564, .ref 565, .ref 566, .ref 567, .ref 568, .ref 569, .int (iI 0), .ref 570, .ref 571, .ref 572, .ref 573, .ref 574, .ref 575, .ref 576, .ref 577, .ref 578, .int (iI 0), .int (iI (o 69)), .int (iI (o 70)), .ref 579]) rfl (pc' := 56) rfl (fun S2123 h2124 n2125 e2126 => ?_)
          refine T_p xr_186_56 xn_186 (pc' := 57) (ls' := [(3, .long (X_st (-1) (X_all G 0 tn))), (0, .ref 530), (1, .long (iL kk))]) (st' := [.ref 530]) rfl ?_
          refine T_p xr_186_57 xn_186 (pc' := 58) (ls' := [(3, .long (X_st (-1) (X_all G 0 tn))), (0, .ref 530), (1, .long (iL kk))]) (st' := [.int (iI 0), .ref 530]) rfl ?_
          refine T_p xr_186_58 xn_186 (pc' := 59) (ls' := [(3, .long (X_st (-1) (X_all G 0 tn))), (0, .ref 530), (1, .long (iL kk))]) (st' := [.ref 530, .int (iI 0), .ref 530]) rfl ?_
          refine T_get xr_186_59 h2124 rfl (v := .int (iI tn)) rfl (pc' := 62) rfl ?_
          refine T_p xr_186_62 xn_186 (pc' := 63) (ls' := [(3, .long (X_st (-1) (X_all G 0 tn))), (0, .ref 530), (1, .long (iL kk))]) (st' := [.int (iI 0), .int (iI tn), .int (iI 0), .ref 530]) rfl ?_
          refine T_p xr_186_63 xn_186 (pc' := 64) (ls' := [(3, .long (X_st (-1) (X_all G 0 tn))), (0, .ref 530), (1, .long (iL kk))]) (st' := [.int (iI 0), .int (iI 0), .int (iI tn), .int (iI 0), .ref 530]) rfl ?_
          refine T_p xr_186_64 xn_186 (pc' := 65) (ls' := [(3, .long (X_st (-1) (X_all G 0 tn))), (0, .ref 530), (1, .long (iL kk))]) (st' := [.int (iI 0), .int (iI 0), .int (iI 0), .int (iI tn), .int (iI 0), .ref 530]) rfl ?_
          refine T_p xr_186_65 xn_186 (pc' := 66) (ls' := [(3, .long (X_st (-1) (X_all G 0 tn))), (0, .ref 530), (1, .long (iL kk))]) (st' := [.long (iL kk), .int (iI 0), .int (iI 0), .int (iI 0), .int (iI tn), .int (iI 0), .ref 530]) rfl ?_
          refine T_le (y := (iL (kk.toNat : Int))) (by rw [hkk.2]) ?_
          refine T_p xr_186_66 xn_186 (pc' := 67) (ls' := [(3, .long (X_st (-1) (X_all G 0 tn))), (0, .ref 530), (1, .long (iL kk))]) (st' := [.int (iI (-1)), .long (iL (kk.toNat : Int)), .int (iI 0), .int (iI 0), .int (iI 0), .int (iI tn), .int (iI 0), .ref 530]) rfl ?_
          refine T_p xr_186_67 xn_186 (pc' := 68) (ls' := [(3, .long (X_st (-1) (X_all G 0 tn))), (0, .ref 530), (1, .long (iL kk))]) (st' := [.int (iI (-1)), .int (iI (-1)), .long (iL (kk.toNat : Int)), .int (iI 0), .int (iI 0), .int (iI 0), .int (iI tn), .int (iI 0), .ref 530]) rfl ?_
          refine T_cv (S := S2123) (q := 530) xr_186_68 xf_185.1 xf_185.2.1 xn_185 (as := [.int (iI 0), .int (iI tn), .int (iI 0), .int (iI 0), .int (iI 0), .long (iL (kk.toNat : Int)), .int (iI (-1)), .int (iI (-1))]) (r := []) rfl h2124 (Nat.le_of_ble_eq_true rfl) (Nat.le_of_ble_eq_true rfl) (pc' := 71) rfl (ls' := [(0, .ref 530), (1, .int (iI 0)), (2, .int (iI tn)), (3, .int (iI 0)), (4, .int (iI 0)), (5, .int (iI 0)), (6, .long (iL (kk.toNat : Int))), (8, .int (iI (-1))), (9, .int (iI (-1)))]) rfl ?_
          have h2127 := (n2125 562 (by decide)).trans ((n2121 562 (by decide)).trans ((n2117 562 (by decide)).trans (hA562)))
          have h2128 := (n2125 563 (by decide)).trans ((n2121 563 (by decide)).trans ((n2117 563 (by decide)).trans (hA563)))
          have h2129 := (n2125 564 (by decide)).trans ((n2121 564 (by decide)).trans ((n2117 564 (by decide)).trans (hA564)))
          have h2130 := (n2125 565 (by decide)).trans ((n2121 565 (by decide)).trans ((n2117 565 (by decide)).trans (hA565)))
          have h2131 := (n2125 566 (by decide)).trans ((n2121 566 (by decide)).trans ((n2117 566 (by decide)).trans (hA566)))
          have h2132 := (n2125 567 (by decide)).trans ((n2121 567 (by decide)).trans ((n2117 567 (by decide)).trans (hA567)))
          have h2133 := (n2125 568 (by decide)).trans ((n2121 568 (by decide)).trans ((n2117 568 (by decide)).trans (hA568)))
          have h2134 := (n2125 569 (by decide)).trans ((n2121 569 (by decide)).trans ((n2117 569 (by decide)).trans (hA569)))
          refine T_mono (r_pile sc S2123 pF pT pS pH pW pP pQ pN (X_ou (X_ou (X_ou o 49 0) 58 0) 68 0) nm b rc G tn 0 0 tn 0 0 0 (-1) (-1) (iL (kk.toNat : Int)) h2124 h2127 h2128 h2129 h2130 h2131 h2132 h2133 h2134 (by omega)) (fun v2135 S2136 h2137 => ?_)
          rcases h2137 with ⟨pF2138, pT2139, pS2140, pH2141, pW2142, pP2143, pQ2144, pN2145, hv2146, hp2147, hp2148, hp2149, hp2150, hp2151, hp2152, hp2153, hp2154, ho2155, ha2156, ha2157, ha2158, ha2159, ha2160, ha2161, ha2162, ha2163, hf2164⟩
          rw [hv2146]
          have ht2165 : S2136.1 530 = .inr (11, [.ref 531, .int (iI (o 1)), .ref 532, .int (iI (o 3)), .int (iI b), .int (iI (o 5)), .int (iI (o 6)), .int (iI (o 7)), .int (iI (o 8)), .int (iI (o 9)), .int (iI (o 10)), .int (iI (o 11)), .long nm, .ref 533, .ref 534, .ref 535, .ref 536, .ref 537, .ref 538, .ref 539, .ref 540, .ref 541, .ref 542, .ref 543, .ref 544, .ref 545, .ref 546, .ref 547, .int (iI rc), .int (iI (gk G)), .int (iI (gw G)), .int (iI (o 31)), .int (iI (o 32)), .int (iI (o 33)), .ref 548, .ref 549, .ref 550, .ref 551, .int (iI tn), .ref 552, .ref 553, .ref 554, .ref 555, .ref 556, .ref 557, .ref 558, .ref 559, .ref 560, .ref 561, .int (iI 0), .ref 562, .ref 563, .ref 564, .ref 565, .ref 566, .ref 567, .ref 568, .ref 569, .int (iI (0 + 1)), .ref 570, .ref 571, .ref 572, .ref 573, .ref 574, .ref 575, .ref 576, .ref 577, .ref 578, .int (iI 0), .int (iI (o 69)), .int (iI (o 70)), .ref 579]) := ho2155
          show X_T sc 186 (71, [(3, .long (X_st (-1) (X_all G 0 tn))), (0, .ref 530), (1, .long (iL kk))], [], S2136) _
          have h2171 := (hf2164.1 557 (by omega)).trans ((n2125 557 (by decide)).trans ((n2121 557 (by decide)).trans ((n2117 557 (by decide)).trans (hA557))))
          have h2172 := (hf2164.1 558 (by omega)).trans ((n2125 558 (by decide)).trans ((n2121 558 (by decide)).trans ((n2117 558 (by decide)).trans (hA558))))
          have h2173 := (hf2164.1 559 (by omega)).trans ((n2125 559 (by decide)).trans ((n2121 559 (by decide)).trans ((n2117 559 (by decide)).trans (hA559))))
          have h2174 := (hf2164.1 560 (by omega)).trans ((n2125 560 (by decide)).trans ((n2121 560 (by decide)).trans ((n2117 560 (by decide)).trans (hA560))))
          have h2175 := (hf2164.1 561 (by omega)).trans ((n2125 561 (by decide)).trans ((n2121 561 (by decide)).trans ((n2117 561 (by decide)).trans (hA561))))
          have h2176 := (hf2164.1 570 (by omega)).trans ((n2125 570 (by decide)).trans ((n2121 570 (by decide)).trans ((n2117 570 (by decide)).trans (hA570))))
          have h2177 := (hf2164.1 571 (by omega)).trans ((n2125 571 (by decide)).trans ((n2121 571 (by decide)).trans ((n2117 571 (by decide)).trans (hA571))))
          have h2178 := (hf2164.1 572 (by omega)).trans ((n2125 572 (by decide)).trans ((n2121 572 (by decide)).trans ((n2117 572 (by decide)).trans (hA572))))
          have h2179 := (hf2164.1 573 (by omega)).trans ((n2125 573 (by decide)).trans ((n2121 573 (by decide)).trans ((n2117 573 (by decide)).trans (hA573))))
          have L2166 : ∀ (m2168 : Nat) (S2180 : X_S) (wt : Int) (nc : Int) (St : Int → X_It) (N : Int → Int → Int) (nW : Int → Int) (nF : Int → Int) (nL : Int → Int) (nP : Int → Int) (nH : Int → Int) (pF : Int → Int) (pT : Int → Int) (pS : Int → Int) (pH : Int → Int) (pW : Int → Int) (pP : Int → Int) (pQ : Int → Int) (pN : Int → Int64) (cF : Int → Int) (cT : Int → Int) (cN : Int → Int64) (rr : Int → Int64) (hO5 : S2180.1 530 = .inr (11, [.ref 531, .int (iI (o 1)), .ref 532, .int (iI (o 3)), .int (iI b), .int (iI (o 5)), .int (iI (o 6)), .int (iI (o 7)), .int (iI (o 8)), .int (iI (o 9)), .int (iI (o 10)), .int (iI (o 11)), .long nm, .ref 533, .ref 534, .ref 535, .ref 536, .ref 537, .ref 538, .ref 539, .ref 540, .ref 541, .ref 542, .ref 543, .ref 544, .ref 545, .ref 546, .ref 547, .int (iI rc), .int (iI (gk G)), .int (iI (gw G)), .int (iI (o 31)), .int (iI (o 32)), .int (iI (o 33)), .ref 548, .ref 549, .ref 550, .ref 551, .int (iI tn), .ref 552, .ref 553, .ref 554, .ref 555, .ref 556, .ref 557, .ref 558, .ref 559, .ref 560, .ref 561, .int (iI nc), .ref 562, .ref 563, .ref 564, .ref 565, .ref 566, .ref 567, .ref 568, .ref 569, .int (iI wt), .ref 570, .ref 571, .ref 572, .ref 573, .ref 574, .ref 575, .ref 576, .ref 577, .ref 578, .int (iI 0), .int (iI (o 69)), .int (iI (o 70)), .ref 579])) (hxnW : S2180.1 557 = .inl (.int, 40, .inl fun k : Nat => iI (nW (k : Int)))) (hxnF : S2180.1 558 = .inl (.int, 40, .inl fun k : Nat => iI (nF (k : Int)))) (hxnL : S2180.1 559 = .inl (.int, 40, .inl fun k : Nat => iI (nL (k : Int)))) (hxnP : S2180.1 560 = .inl (.int, 40, .inl fun k : Nat => iI (nP (k : Int)))) (hxnH : S2180.1 561 = .inl (.int, 40, .inl fun k : Nat => iI (nH (k : Int)))) (hxpF : S2180.1 562 = .inl (.int, 160, .inl fun k : Nat => iI (pF (k : Int)))) (hxpT : S2180.1 563 = .inl (.int, 160, .inl fun k : Nat => iI (pT (k : Int)))) (hxpS : S2180.1 564 = .inl (.int, 160, .inl fun k : Nat => iI (pS (k : Int)))) (hxpH : S2180.1 565 = .inl (.int, 160, .inl fun k : Nat => iI (pH (k : Int)))) (hxpW : S2180.1 566 = .inl (.int, 160, .inl fun k : Nat => iI (pW (k : Int)))) (hxpP : S2180.1 567 = .inl (.int, 160, .inl fun k : Nat => iI (pP (k : Int)))) (hxpQ : S2180.1 568 = .inl (.int, 160, .inl fun k : Nat => iI (pQ (k : Int)))) (hxpN : S2180.1 569 = .inl (.long, 160, .inr (.inl fun k : Nat => pN (k : Int)))) (hxcF : S2180.1 570 = .inl (.int, 4, .inl fun k : Nat => iI (cF (k : Int)))) (hxcT : S2180.1 571 = .inl (.int, 4, .inl fun k : Nat => iI (cT (k : Int)))) (hxcN : S2180.1 572 = .inl (.long, 4, .inr (.inl fun k : Nat => cN (k : Int)))) (hxrr : S2180.1 573 = .inl (.long, 288, .inr (.inl fun k : Nat => rr (k : Int)))) (hF2170 : X_Fr (fun q => q = 530 ∨ (557 ≤ q ∧ q ≤ 573)) S2136 S2180) (hncr : 0 ≤ nc ∧ nc ≤ 30) (hX : X_mks G (30 - nc).toNat (wt, St, nc, N) = X_rd G tn kk.toNat) (hM : X_Mok G tn (wt, St, nc, N)) (hpl : R_pl wt St pF pT pS pH pW pP pQ pN) (hnd : R_nd nc N nW nF nL nP nH) (hm2169 : 30 - nc < m2168), X_T sc 186 (71, [(0, .ref 530)], [], S2180) Q := by
            intro m2168
            induction m2168 with
            | zero =>
              intro S2180 wt nc St N nW nF nL nP nH pF pT pS pH pW pP pQ pN cF cT cN rr hO5 hxnW hxnF hxnL hxnP hxnH hxpF hxpT hxpS hxpH hxpW hxpP hxpQ hxpN hxcF hxcT hxcN hxrr hF2170 hncr hX hM hpl hnd hm2169
              exact (show False by omega).elim
            | succ m2168 ih2167 =>
              intro S2180 wt nc St N nW nF nL nP nH pF pT pS pH pW pP pQ pN cF cT cN rr hO5 hxnW hxnF hxnL hxnP hxnH hxpF hxpT hxpS hxpH hxpW hxpP hxpQ hxpN hxcF hxcT hxcN hxrr hF2170 hncr hX hM hpl hnd hm2169
              have hle := X_Mok.le hM
              have hw0 : 0 ≤ wt := hM.1
              have hnc0 : 0 ≤ nc := hM.2.1
              have hM2 : nc + (X_Su (X_lw St) 0 wt : Int) ≤ tn := hM.2.2.2
              refine T_p xr_186_71 xn_186 (pc' := 72) (ls' := [(0, .ref 530)]) (st' := [.ref 530]) rfl ?_
              refine T_get xr_186_72 hO5 rfl (v := .int (iI wt)) rfl (pc' := 75) rfl ?_
              refine T_zif_le xr_186_75 (t := 99) (pc' := 78) rfl rfl (fun c2181 => ?_) (fun c2181 => ?_)
              · skip
                have c2181 : wt ≤ 0 := c2181
                refine T_p xr_186_99 xn_186 (pc' := 100) (ls' := [(0, .ref 530)]) (st' := [.ref 530]) rfl ?_
                refine T_get xr_186_100 hO5 rfl (v := .int (iI nc)) rfl (pc' := 103) rfl ?_
                refine T_iret xr_186_103 xf_186.2.2 rfl ?_
                refine hQ _ _ ?_
                have hend : X_mks G (30 - nc).toNat (wt, St, nc, N) = (wt, St, nc, N) := X_mks_e (show wt ≤ 0 by omega)
                exact Or.inr ⟨wt, nc, St, N, nW, nF, nL, nP, nH, pF, pT, pS, pH, pW, pP, pQ, pN, cF, cT, cN, rr, rfl, ⟨hkk.1, by omega, by omega⟩, (hX.symm.trans hend), hnd, hO5, hxnW, hxnF, hxnL, hxnP, hxnH, hxpF, hxpT, hxpS, hxpH, hxpW, hxpP, hxpQ, hxpN, hxcF, hxcT, hxcN, hxrr, (((((X_Fr.rf).tr (X_Fr.of n2117 e2118 (by omega))).tr (X_Fr.of n2121 e2122 (by omega))).tr (X_Fr.of n2125 e2126 (by omega))).tr (X_Fr.mono ⟨hf2164.1, hf2164.2⟩ (fun q hq => (by omega)))).tr (X_Fr.mono ⟨hF2170.1, hF2170.2⟩ (fun q hq => (by omega)))⟩
              · skip
                have c2181 : ¬ (wt ≤ 0) := c2181
                refine T_p xr_186_78 xn_186 (pc' := 79) (ls' := [(0, .ref 530)]) (st' := [.ref 530]) rfl ?_
                refine T_p xr_186_79 xn_186 (pc' := 80) (ls' := [(0, .ref 530)]) (st' := [.ref 530, .ref 530]) rfl ?_
                refine T_get xr_186_80 hO5 rfl (v := .int (iI wt)) rfl (pc' := 83) rfl ?_
                refine T_p xr_186_83 xn_186 (pc' := 84) (ls' := [(0, .ref 530)]) (st' := [.int (iI 1), .int (iI wt), .ref 530]) rfl ?_
                refine T_zisub xr_186_84 (z := wt - 1) rfl (pc' := 85) rfl ?_
                refine T_put xr_186_85 hO5 rfl (Nat.le_of_ble_eq_true rfl) rfl (fs' := [.ref 531, .int (iI (o 1)), .ref 532, .int (iI (o 3)), .int (iI b), .int (iI (o 5)), .int (iI (o 6)), .int (iI (o 7)), .int (iI (o 8)), .int (iI (o 9)), .int (iI (o 10)), .int (iI (o 11)), .long nm, .ref 533, .ref 534, .ref 535, .ref 536, .ref 537, .ref 538, .ref 539, .ref 540, .ref 541, .ref 542, .ref 543, .ref 544, .ref 545, .ref 546, .ref 547, .int (iI rc), .int (iI (gk G)), .int (iI (gw G)), .int (iI (o 31)), .int (iI (o 32)), .int (iI (o 33)), .ref 548, .ref 549, .ref 550, .ref 551, .int (iI tn), .ref 552, .ref 553, .ref 554, .ref 555, .ref 556, .ref 557, .ref 558, .ref 559, .ref 560, .ref 561, .int (iI nc), .ref 562, .ref 563, .ref 564, .ref 565, .ref 566, .ref 567, .ref 568, .ref 569, .int (iI (wt - 1)), .ref 570, .ref 571, .ref 572, .ref 573, .ref 574, .ref 575, .ref 576, .ref 577, .ref 578, .int (iI 0), .int (iI (o 69)), .int (iI (o 70)), .ref 579]) rfl (pc' := 88) rfl (fun S2182 h2183 n2184 e2185 => ?_)
                refine T_p xr_186_88 xn_186 (pc' := 89) (ls' := [(0, .ref 530)]) (st' := [.ref 530]) rfl ?_
                refine T_p xr_186_89 xn_186 (pc' := 90) (ls' := [(0, .ref 530)]) (st' := [.ref 530, .ref 530]) rfl ?_
                refine T_get xr_186_90 h2183 rfl (v := .int (iI (wt - 1))) rfl (pc' := 93) rfl ?_
                refine T_cv (S := S2182) (q := 530) xr_186_93 xf_187.1 xf_187.2.1 xn_187 (as := [.int (iI (wt - 1))]) (r := []) rfl h2183 (Nat.le_of_ble_eq_true rfl) (Nat.le_of_ble_eq_true rfl) (pc' := 96) rfl (ls' := [(0, .ref 530), (1, .int (iI (wt - 1)))]) rfl ?_
                have h2186 := (n2184 535 (by decide)).trans ((hF2170.1 535 (by omega)).trans ((hf2164.1 535 (by omega)).trans ((n2125 535 (by decide)).trans ((n2121 535 (by decide)).trans ((n2117 535 (by decide)).trans (hA535))))))
                have h2187 := (n2184 536 (by decide)).trans ((hF2170.1 536 (by omega)).trans ((hf2164.1 536 (by omega)).trans ((n2125 536 (by decide)).trans ((n2121 536 (by decide)).trans ((n2117 536 (by decide)).trans (hA536))))))
                have h2188 := (n2184 537 (by decide)).trans ((hF2170.1 537 (by omega)).trans ((hf2164.1 537 (by omega)).trans ((n2125 537 (by decide)).trans ((n2121 537 (by decide)).trans ((n2117 537 (by decide)).trans (hA537))))))
                have h2189 := (n2184 538 (by decide)).trans ((hF2170.1 538 (by omega)).trans ((hf2164.1 538 (by omega)).trans ((n2125 538 (by decide)).trans ((n2121 538 (by decide)).trans ((n2117 538 (by decide)).trans (hA538))))))
                have h2190 := (n2184 539 (by decide)).trans ((hF2170.1 539 (by omega)).trans ((hf2164.1 539 (by omega)).trans ((n2125 539 (by decide)).trans ((n2121 539 (by decide)).trans ((n2117 539 (by decide)).trans (hA539))))))
                have h2191 := (n2184 540 (by decide)).trans ((hF2170.1 540 (by omega)).trans ((hf2164.1 540 (by omega)).trans ((n2125 540 (by decide)).trans ((n2121 540 (by decide)).trans ((n2117 540 (by decide)).trans (hA540))))))
                have h2192 := (n2184 541 (by decide)).trans ((hF2170.1 541 (by omega)).trans ((hf2164.1 541 (by omega)).trans ((n2125 541 (by decide)).trans ((n2121 541 (by decide)).trans ((n2117 541 (by decide)).trans (hA541))))))
                have h2193 := (n2184 545 (by decide)).trans ((hF2170.1 545 (by omega)).trans ((hf2164.1 545 (by omega)).trans ((n2125 545 (by decide)).trans ((n2121 545 (by decide)).trans ((n2117 545 (by decide)).trans (hA545))))))
                have h2194 := (n2184 546 (by decide)).trans ((hF2170.1 546 (by omega)).trans ((hf2164.1 546 (by omega)).trans ((n2125 546 (by decide)).trans ((n2121 546 (by decide)).trans ((n2117 546 (by decide)).trans (hA546))))))
                have h2195 := (n2184 547 (by decide)).trans ((hF2170.1 547 (by omega)).trans ((hf2164.1 547 (by omega)).trans ((n2125 547 (by decide)).trans ((n2121 547 (by decide)).trans ((n2117 547 (by decide)).trans (hA547))))))
                have h2196 := (n2184 548 (by decide)).trans ((hF2170.1 548 (by omega)).trans ((hf2164.1 548 (by omega)).trans ((n2125 548 (by decide)).trans ((n2121 548 (by decide)).trans ((n2117 548 (by decide)).trans (hA548))))))
                have h2197 := (n2184 550 (by decide)).trans ((hF2170.1 550 (by omega)).trans ((hf2164.1 550 (by omega)).trans ((n2125 550 (by decide)).trans ((n2121 550 (by decide)).trans ((n2117 550 (by decide)).trans (hA550))))))
                have h2198 := (n2184 552 (by decide)).trans ((hF2170.1 552 (by omega)).trans ((hf2164.1 552 (by omega)).trans ((n2125 552 (by decide)).trans ((n2121 552 (by decide)).trans ((n2117 552 (by decide)).trans (hA552))))))
                have h2199 := (n2184 553 (by decide)).trans ((hF2170.1 553 (by omega)).trans ((hf2164.1 553 (by omega)).trans ((n2125 553 (by decide)).trans ((n2121 553 (by decide)).trans ((n2117 553 (by decide)).trans (hA553))))))
                have h2200 := (n2184 554 (by decide)).trans ((hF2170.1 554 (by omega)).trans ((hf2164.1 554 (by omega)).trans ((n2125 554 (by decide)).trans ((n2121 554 (by decide)).trans ((n2117 554 (by decide)).trans (hA554))))))
                have h2201 := (n2184 557 (by decide)).trans (hxnW)
                have h2202 := (n2184 558 (by decide)).trans (hxnF)
                have h2203 := (n2184 559 (by decide)).trans (hxnL)
                have h2204 := (n2184 560 (by decide)).trans (hxnP)
                have h2205 := (n2184 561 (by decide)).trans (hxnH)
                have h2206 := (n2184 562 (by decide)).trans (hxpF)
                have h2207 := (n2184 563 (by decide)).trans (hxpT)
                have h2208 := (n2184 564 (by decide)).trans (hxpS)
                have h2209 := (n2184 565 (by decide)).trans (hxpH)
                have h2210 := (n2184 566 (by decide)).trans (hxpW)
                have h2211 := (n2184 567 (by decide)).trans (hxpP)
                have h2212 := (n2184 568 (by decide)).trans (hxpQ)
                have h2213 := (n2184 569 (by decide)).trans (hxpN)
                have h2214 := (n2184 570 (by decide)).trans (hxcF)
                have h2215 := (n2184 571 (by decide)).trans (hxcT)
                have h2216 := (n2184 572 (by decide)).trans (hxcN)
                have h2217 := (n2184 573 (by decide)).trans (hxrr)
                refine T_mono (r_open sc S2182 tg kU wR wL wK wM wH eP eH hK tT tU oW oK oH nW nF nL nP nH pF pT pS pH pW pP pQ pN cF cT cN rr (X_ou (X_ou (X_ou o 49 nc) 58 (wt - 1)) 68 0) nm b rc G tn wt nc St N ((St (wt - 1)).1) ((St (wt - 1)).2.1) ((St (wt - 1)).2.2.1) ((St (wt - 1)).2.2.2.1) ((St (wt - 1)).2.2.2.2.1) ((St (wt - 1)).2.2.2.2.2.1) ((St (wt - 1)).2.2.2.2.2.2.1) ((St (wt - 1)).2.2.2.2.2.2.2) h2183 h2186 h2187 h2188 h2189 h2190 h2191 h2192 h2193 h2194 h2195 h2196 h2197 h2198 h2199 h2200 h2201 h2202 h2203 h2204 h2205 h2206 h2207 h2208 h2209 h2210 h2211 h2212 h2213 h2214 h2215 h2216 h2217 (by omega) hG (by omega) hTU hTT hKU hTG hWR hWL hWK hWM hWH hEP hEH hHK hCt (by omega) hM rfl hpl hnd) (fun v2218 S2219 h2220 => ?_)
                rcases h2220 with ⟨r2221, St2222, N2223, nW2224, nF2225, nL2226, nP2227, nH2228, pF2229, pT2230, pS2231, pH2232, pW2233, pP2234, pQ2235, pN2236, cF2237, cT2238, cN2239, rr2240, hv2241, hp2242, hp2243, hp2244, hp2245, ho2246, ha2247, ha2248, ha2249, ha2250, ha2251, ha2252, ha2253, ha2254, ha2255, ha2256, ha2257, ha2258, ha2259, ha2260, ha2261, ha2262, ha2263, hf2264⟩
                rw [hv2241]
                show X_T sc 186 (96, [(0, .ref 530)], [], S2219) _
                refine T_p xr_186_96 xn_186 (pc' := 71) (ls' := [(0, .ref 530)]) (st' := []) rfl ?_
                exact ih2167 S2219 r2221 (nc + 1) St2222 N2223 nW2224 nF2225 nL2226 nP2227 nH2228 pF2229 pT2230 pS2231 pH2232 pW2233 pP2234 pQ2235 pN2236 cF2237 cT2238 cN2239 rr2240 ho2246 ha2247 ha2248 ha2249 ha2250 ha2251 ha2252 ha2253 ha2254 ha2255 ha2256 ha2257 ha2258 ha2259 ha2260 ha2261 ha2262 ha2263 (hF2170.tr (((X_Fr.rf).tr (X_Fr.of n2184 e2185 (by omega))).tr (X_Fr.mono ⟨hf2264.1, hf2264.2⟩ (fun q hq => (by omega))))) (by omega) ((X_mks_s (s := (wt, St, nc, N)) (show 0 < wt by omega) (by omega) hp2242).symm.trans hX) hp2245 hp2243 hp2244 (by omega)
          refine T_sub (ls := [(0, .ref 530)]) ⟨rfl, trivial⟩ rfl rfl ?_
          exact L2166 ((30 : Int) + 1).toNat S2136 (0 + 1) 0 (fun _ => (0, tn, -1, -1, 0, 0, 0, kk.toNat)) (fun _ _ => 0) nW nF nL nP nH pF2138 pT2139 pS2140 pH2141 pW2142 pP2143 pQ2144 pN2145 cF cT cN rr ht2165 h2171 h2172 h2173 h2174 h2175 ha2156 ha2157 ha2158 ha2159 ha2160 ha2161 ha2162 ha2163 h2176 h2177 h2178 h2179 ((X_Fr.rf)) (by omega) rfl (X_Mok_0 hG htn1 hk hkm) (fun q h1 h2 => by
                obtain rfl : q = 0 := by omega
                rw [hp2147, hp2148, hp2149, hp2150, hp2151, hp2152, hp2153, hp2154]; simp only [X_ug_s]; exact ⟨trivial, trivial, trivial, trivial, trivial, trivial, trivial, trivial⟩) (fun n h1 h2 => absurd h2 (by omega)) (by omega)
        · skip
          have c2114 : ¬ ((iL kk) < (X_st (-1) (X_all G 0 tn))) := c2114
          refine T_p xr_186_39 xn_186 (pc' := 40) (ls' := [(3, .long (X_st (-1) (X_all G 0 tn))), (0, .ref 530), (1, .long (iL kk))]) (st' := [.int (iI (-1))]) rfl ?_
          refine T_iret xr_186_40 xf_186.2.2 rfl ?_
          refine hQ _ _ ?_
          exact Or.inl ⟨rfl, (fun z => by
                obtain ⟨z1, z2, z3⟩ := z
                have hn : ¬ iL kk < iL 0 := by rw [iL_lt (by omega) (by omega) (by omega) (by omega)]; omega
                have h := (X_st_lt (m := -1) (a := X_all G 0 tn) (k := kk.toNat) (by omega) (by omega)).mpr (by omega)
                rw [show ((kk.toNat : Nat) : Int) = kk by omega] at h
                first
                  | exact absurd (by assumption) hn
                  | (rcases h with h | h
                     · exact absurd ((X_st_n (m := -1) (a := X_all G 0 tn) (by omega)).mpr ((X_st_m (m := -1) (by omega)).mp h)) (by first | assumption | exact Int64.not_lt.mpr (by assumption))
                     · exact absurd h (by first | assumption | exact Int64.not_lt.mpr (by first | assumption | exact Classical.not_not.mp (by assumption))))), rfl⟩
  · skip
    have c1956 : ¬ (¬ tn = 0) := c1956
    refine T_p xr_186_7 xn_186 (pc' := 8) (ls' := [(0, .ref 530), (1, .long (iL kk))]) (st' := [.long (iL 0)]) rfl ?_
    refine T_p xr_186_8 xn_186 (pc' := 20) (ls' := [(0, .ref 530), (1, .long (iL kk))]) (st' := [.long (iL 0)]) rfl ?_
    refine T_p xr_186_20 xn_186 (pc' := 21) (ls' := [(3, .long (iL 0)), (0, .ref 530), (1, .long (iL kk))]) (st' := []) rfl ?_
    refine T_p xr_186_21 xn_186 (pc' := 22) (ls' := [(3, .long (iL 0)), (0, .ref 530), (1, .long (iL kk))]) (st' := [.long (iL kk)]) rfl ?_
    refine T_p xr_186_22 xn_186 (pc' := 23) (ls' := [(3, .long (iL 0)), (0, .ref 530), (1, .long (iL kk))]) (st' := [.long (iL 0), .long (iL kk)]) rfl ?_
    refine T_lc_lt xr_186_23 xr_186_24 (t := 39) (pc' := 27) rfl rfl (fun c2265 => ?_) (fun c2265 => ?_)
    · skip
      have c2265 : (iL kk) < (iL 0) := c2265
      refine T_p xr_186_39 xn_186 (pc' := 40) (ls' := [(3, .long (iL 0)), (0, .ref 530), (1, .long (iL kk))]) (st' := [.int (iI (-1))]) rfl ?_
      refine T_iret xr_186_40 xf_186.2.2 rfl ?_
      refine hQ _ _ ?_
      exact Or.inl ⟨rfl, (fun z => by
            have z2 := z.2.1
            first | omega | exact absurd (by assumption) (show ¬ tn = 0 by omega) | (exfalso; exact absurd (show iL kk < iL 0 by assumption) (by rw [iL_lt (by omega) (by omega) (by omega) (by omega)]; have := z.1; omega))), rfl⟩
    · skip
      have c2265 : ¬ ((iL kk) < (iL 0)) := c2265
      refine T_p xr_186_27 xn_186 (pc' := 28) (ls' := [(3, .long (iL 0)), (0, .ref 530), (1, .long (iL kk))]) (st' := [.long (iL 0)]) rfl ?_
      refine T_p xr_186_28 xn_186 (pc' := 29) (ls' := [(3, .long (iL 0)), (0, .ref 530), (1, .long (iL kk))]) (st' := [.long (iL 0), .long (iL 0)]) rfl ?_
      refine T_lc_lt xr_186_29 xr_186_30 (t := 41) (pc' := 33) rfl rfl (fun c2266 => ?_) (fun c2266 => ?_)
      · skip
        have c2266 : (iL 0) < (iL 0) := c2266
        exact absurd (show iL kk < iL 0 by first | assumption | exact absurd (show iL 0 < iL 0 by assumption) (by decide)) (by first | assumption | exact Int64.not_lt.mpr (by first | assumption | exact Classical.not_not.mp (by assumption)))
      · skip
        have c2266 : ¬ ((iL 0) < (iL 0)) := c2266
        refine T_p xr_186_33 xn_186 (pc' := 34) (ls' := [(3, .long (iL 0)), (0, .ref 530), (1, .long (iL kk))]) (st' := [.long (iL kk)]) rfl ?_
        refine T_p xr_186_34 xn_186 (pc' := 35) (ls' := [(3, .long (iL 0)), (0, .ref 530), (1, .long (iL kk))]) (st' := [.long (iL 0), .long (iL kk)]) rfl ?_
        refine T_lc_lt xr_186_35 xr_186_36 (t := 41) (pc' := 39) rfl rfl (fun c2267 => ?_) (fun c2267 => ?_)
        · skip
          have c2267 : (iL kk) < (iL 0) := c2267
          exact (show False by first | contradiction | omega).elim
        · skip
          have c2267 : ¬ ((iL kk) < (iL 0)) := c2267
          refine T_p xr_186_39 xn_186 (pc' := 40) (ls' := [(3, .long (iL 0)), (0, .ref 530), (1, .long (iL kk))]) (st' := [.int (iI (-1))]) rfl ?_
          refine T_iret xr_186_40 xf_186.2.2 rfl ?_
          refine hQ _ _ ?_
          exact Or.inl ⟨rfl, (fun z => by
                have z2 := z.2.1
                first | omega | exact absurd (by assumption) (show ¬ tn = 0 by omega) | (exfalso; exact absurd (show iL kk < iL 0 by assumption) (by rw [iL_lt (by omega) (by omega) (by omega) (by omega)]; have := z.1; omega))), rfl⟩
