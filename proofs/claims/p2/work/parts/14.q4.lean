theorem xr_175_0 : X_row 175 0 = some (0, (.iconst 1, 1), (0, 0, 0)) := by decide +kernel
theorem xr_175_1 : X_row 175 1 = some (1, (.istore_n 1, 1), (0, 0, 0)) := by decide +kernel
theorem xr_175_2 : X_row 175 2 = some (2, (.iload_n 1, 1), (0, 0, 0)) := by decide +kernel
theorem xr_175_3 : X_row 175 3 = some (3, (.aload_n 0, 1), (0, 0, 0)) := by decide +kernel
theorem xr_175_4 : X_row 175 4 = some (4, (.getfield 314, 3), (11, 38, 76)) := by decide +kernel
theorem xr_175_7 : X_row 175 7 = some (7, (.if_icmp .gt 237, 3), (0, 0, 0)) := by decide +kernel
theorem xr_175_10 : X_row 175 10 = some (10, (.iconst 0, 1), (0, 0, 0)) := by decide +kernel
theorem xr_175_11 : X_row 175 11 = some (11, (.istore_n 2, 1), (0, 0, 0)) := by decide +kernel
theorem xr_175_12 : X_row 175 12 = some (12, (.iload_n 2, 1), (0, 0, 0)) := by decide +kernel
theorem xr_175_13 : X_row 175 13 = some (13, (.iload_n 1, 1), (0, 0, 0)) := by decide +kernel
theorem xr_175_14 : X_row 175 14 = some (14, (.iadd, 1), (0, 0, 0)) := by decide +kernel
theorem xr_175_15 : X_row 175 15 = some (15, (.aload_n 0, 1), (0, 0, 0)) := by decide +kernel
theorem xr_175_16 : X_row 175 16 = some (16, (.getfield 314, 3), (11, 38, 76)) := by decide +kernel
theorem xr_175_19 : X_row 175 19 = some (19, (.if_icmp .gt 219, 3), (0, 0, 0)) := by decide +kernel
theorem xr_175_22 : X_row 175 22 = some (22, (.iload_n 2, 1), (0, 0, 0)) := by decide +kernel
theorem xr_175_23 : X_row 175 23 = some (23, (.iload_n 2, 1), (0, 0, 0)) := by decide +kernel
theorem xr_175_24 : X_row 175 24 = some (24, (.iload_n 1, 1), (0, 0, 0)) := by decide +kernel
theorem xr_175_25 : X_row 175 25 = some (25, (.iadd, 1), (0, 0, 0)) := by decide +kernel
theorem xr_175_26 : X_row 175 26 = some (26, (.invokestatic 337, 3), (173, 56, 0)) := by decide +kernel
theorem xr_175_29 : X_row 175 29 = some (29, (.istore_n 3, 1), (0, 0, 0)) := by decide +kernel
theorem xr_175_30 : X_row 175 30 = some (30, (.iconst 0, 1), (0, 0, 0)) := by decide +kernel
theorem xr_175_31 : X_row 175 31 = some (31, (.istore 4, 2), (0, 0, 0)) := by decide +kernel
theorem xr_175_33 : X_row 175 33 = some (33, (.iload 4, 2), (0, 0, 0)) := by decide +kernel
theorem xr_175_35 : X_row 175 35 = some (35, (.aload_n 0, 1), (0, 0, 0)) := by decide +kernel
theorem xr_175_36 : X_row 175 36 = some (36, (.getfield 138, 3), (11, 30, 60)) := by decide +kernel
theorem xr_175_39 : X_row 175 39 = some (39, (.if_icmp .ge 32, 3), (0, 0, 0)) := by decide +kernel
theorem xr_175_42 : X_row 175 42 = some (42, (.aload_n 0, 1), (0, 0, 0)) := by decide +kernel
theorem xr_175_43 : X_row 175 43 = some (43, (.getfield 206, 3), (11, 39, 78)) := by decide +kernel
theorem xr_175_46 : X_row 175 46 = some (46, (.sipush 961, 3), (0, 0, 0)) := by decide +kernel
theorem xr_175_49 : X_row 175 49 = some (49, (.iload 4, 2), (0, 0, 0)) := by decide +kernel
theorem xr_175_51 : X_row 175 51 = some (51, (.imul, 1), (0, 0, 0)) := by decide +kernel
theorem xr_175_52 : X_row 175 52 = some (52, (.iload_n 3, 1), (0, 0, 0)) := by decide +kernel
theorem xr_175_53 : X_row 175 53 = some (53, (.iadd, 1), (0, 0, 0)) := by decide +kernel
theorem xr_175_54 : X_row 175 54 = some (54, (.aload_n 0, 1), (0, 0, 0)) := by decide +kernel
theorem xr_175_55 : X_row 175 55 = some (55, (.iload 4, 2), (0, 0, 0)) := by decide +kernel
theorem xr_175_57 : X_row 175 57 = some (57, (.iload_n 2, 1), (0, 0, 0)) := by decide +kernel
theorem xr_175_58 : X_row 175 58 = some (58, (.iload_n 2, 1), (0, 0, 0)) := by decide +kernel
theorem xr_175_59 : X_row 175 59 = some (59, (.iload_n 1, 1), (0, 0, 0)) := by decide +kernel
theorem xr_175_60 : X_row 175 60 = some (60, (.iadd, 1), (0, 0, 0)) := by decide +kernel
theorem xr_175_61 : X_row 175 61 = some (61, (.invokevirtual 341, 3), (178, 58, 0)) := by decide +kernel
theorem xr_175_64 : X_row 175 64 = some (64, (.lastore, 1), (0, 0, 0)) := by decide +kernel
theorem xr_175_65 : X_row 175 65 = some (65, (.iinc 4 1, 3), (0, 0, 0)) := by decide +kernel
theorem xr_175_68 : X_row 175 68 = some (68, (.goto (-35), 3), (0, 0, 0)) := by decide +kernel
theorem xr_175_71 : X_row 175 71 = some (71, (.iconst 0, 1), (0, 0, 0)) := by decide +kernel
theorem xr_175_72 : X_row 175 72 = some (72, (.istore 4, 2), (0, 0, 0)) := by decide +kernel
theorem xr_175_74 : X_row 175 74 = some (74, (.iload 4, 2), (0, 0, 0)) := by decide +kernel
theorem xr_175_76 : X_row 175 76 = some (76, (.aload_n 0, 1), (0, 0, 0)) := by decide +kernel
theorem xr_175_77 : X_row 175 77 = some (77, (.getfield 94, 3), (11, 29, 58)) := by decide +kernel
theorem xr_175_80 : X_row 175 80 = some (80, (.if_icmp .ge 75, 3), (0, 0, 0)) := by decide +kernel
theorem xr_175_83 : X_row 175 83 = some (83, (.aload_n 0, 1), (0, 0, 0)) := by decide +kernel
theorem xr_175_84 : X_row 175 84 = some (84, (.getfield 209, 3), (11, 40, 80)) := by decide +kernel
theorem xr_175_87 : X_row 175 87 = some (87, (.sipush 961, 3), (0, 0, 0)) := by decide +kernel
theorem xr_175_90 : X_row 175 90 = some (90, (.iload 4, 2), (0, 0, 0)) := by decide +kernel
theorem xr_175_92 : X_row 175 92 = some (92, (.imul, 1), (0, 0, 0)) := by decide +kernel
theorem xr_175_93 : X_row 175 93 = some (93, (.iload_n 3, 1), (0, 0, 0)) := by decide +kernel
theorem xr_175_94 : X_row 175 94 = some (94, (.iadd, 1), (0, 0, 0)) := by decide +kernel
theorem xr_175_95 : X_row 175 95 = some (95, (.iload_n 1, 1), (0, 0, 0)) := by decide +kernel
theorem xr_175_96 : X_row 175 96 = some (96, (.iconst 2, 1), (0, 0, 0)) := by decide +kernel
theorem xr_175_97 : X_row 175 97 = some (97, (.if_icmp .le 50, 3), (0, 0, 0)) := by decide +kernel
theorem xr_175_100 : X_row 175 100 = some (100, (.aload_n 0, 1), (0, 0, 0)) := by decide +kernel
theorem xr_175_101 : X_row 175 101 = some (101, (.getfield 194, 3), (11, 34, 68)) := by decide +kernel
theorem xr_175_104 : X_row 175 104 = some (104, (.iload_n 2, 1), (0, 0, 0)) := by decide +kernel
theorem xr_175_105 : X_row 175 105 = some (105, (.laload, 1), (0, 0, 0)) := by decide +kernel
theorem xr_175_106 : X_row 175 106 = some (106, (.ldc2_w 345, 3), (40, 1422, 0)) := by decide +kernel
theorem xr_175_109 : X_row 175 109 = some (109, (.lcmp, 1), (0, 0, 0)) := by decide +kernel
theorem xr_175_110 : X_row 175 110 = some (110, (.ifCond .ne 37, 3), (0, 0, 0)) := by decide +kernel
theorem xr_175_113 : X_row 175 113 = some (113, (.aload_n 0, 1), (0, 0, 0)) := by decide +kernel
theorem xr_175_114 : X_row 175 114 = some (114, (.getfield 194, 3), (11, 34, 68)) := by decide +kernel
theorem xr_175_117 : X_row 175 117 = some (117, (.iload_n 2, 1), (0, 0, 0)) := by decide +kernel
theorem xr_175_118 : X_row 175 118 = some (118, (.iload_n 1, 1), (0, 0, 0)) := by decide +kernel
theorem xr_175_119 : X_row 175 119 = some (119, (.iadd, 1), (0, 0, 0)) := by decide +kernel
theorem xr_175_120 : X_row 175 120 = some (120, (.iconst 1, 1), (0, 0, 0)) := by decide +kernel
theorem xr_175_121 : X_row 175 121 = some (121, (.isub, 1), (0, 0, 0)) := by decide +kernel
theorem xr_175_122 : X_row 175 122 = some (122, (.laload, 1), (0, 0, 0)) := by decide +kernel
theorem xr_175_123 : X_row 175 123 = some (123, (.ldc2_w 347, 3), (41, 1423, 0)) := by decide +kernel
theorem xr_175_126 : X_row 175 126 = some (126, (.lcmp, 1), (0, 0, 0)) := by decide +kernel
theorem xr_175_127 : X_row 175 127 = some (127, (.ifCond .ne 20, 3), (0, 0, 0)) := by decide +kernel
theorem xr_175_130 : X_row 175 130 = some (130, (.aload_n 0, 1), (0, 0, 0)) := by decide +kernel
theorem xr_175_131 : X_row 175 131 = some (131, (.iload 4, 2), (0, 0, 0)) := by decide +kernel
theorem xr_175_133 : X_row 175 133 = some (133, (.iload_n 2, 1), (0, 0, 0)) := by decide +kernel
theorem xr_175_134 : X_row 175 134 = some (134, (.iconst 1, 1), (0, 0, 0)) := by decide +kernel
theorem xr_175_135 : X_row 175 135 = some (135, (.iadd, 1), (0, 0, 0)) := by decide +kernel
theorem xr_175_136 : X_row 175 136 = some (136, (.iload_n 2, 1), (0, 0, 0)) := by decide +kernel
theorem xr_175_137 : X_row 175 137 = some (137, (.iload_n 1, 1), (0, 0, 0)) := by decide +kernel
theorem xr_175_138 : X_row 175 138 = some (138, (.iadd, 1), (0, 0, 0)) := by decide +kernel
theorem xr_175_139 : X_row 175 139 = some (139, (.iconst 1, 1), (0, 0, 0)) := by decide +kernel
theorem xr_175_140 : X_row 175 140 = some (140, (.isub, 1), (0, 0, 0)) := by decide +kernel
theorem xr_175_141 : X_row 175 141 = some (141, (.invokevirtual 349, 3), (177, 64, 0)) := by decide +kernel
theorem xr_175_144 : X_row 175 144 = some (144, (.goto 4, 3), (0, 0, 0)) := by decide +kernel
theorem xr_175_147 : X_row 175 147 = some (147, (.lconst 0, 1), (0, 0, 0)) := by decide +kernel
theorem xr_175_148 : X_row 175 148 = some (148, (.lastore, 1), (0, 0, 0)) := by decide +kernel
theorem xr_175_149 : X_row 175 149 = some (149, (.iinc 4 1, 3), (0, 0, 0)) := by decide +kernel
theorem xr_175_152 : X_row 175 152 = some (152, (.goto (-78), 3), (0, 0, 0)) := by decide +kernel
theorem xr_175_155 : X_row 175 155 = some (155, (.iconst 0, 1), (0, 0, 0)) := by decide +kernel
theorem xr_175_156 : X_row 175 156 = some (156, (.istore 4, 2), (0, 0, 0)) := by decide +kernel
theorem xr_175_158 : X_row 175 158 = some (158, (.iload 4, 2), (0, 0, 0)) := by decide +kernel
theorem xr_175_160 : X_row 175 160 = some (160, (.aload_n 0, 1), (0, 0, 0)) := by decide +kernel
theorem xr_175_161 : X_row 175 161 = some (161, (.getfield 138, 3), (11, 30, 60)) := by decide +kernel
theorem xr_175_164 : X_row 175 164 = some (164, (.if_icmp .ge 68, 3), (0, 0, 0)) := by decide +kernel
theorem xr_175_167 : X_row 175 167 = some (167, (.iconst 0, 1), (0, 0, 0)) := by decide +kernel
theorem xr_175_168 : X_row 175 168 = some (168, (.istore 5, 2), (0, 0, 0)) := by decide +kernel
theorem xr_175_170 : X_row 175 170 = some (170, (.iload 5, 2), (0, 0, 0)) := by decide +kernel
theorem xr_175_172 : X_row 175 172 = some (172, (.aload_n 0, 1), (0, 0, 0)) := by decide +kernel
theorem xr_175_173 : X_row 175 173 = some (173, (.getfield 153, 3), (11, 21, 42)) := by decide +kernel
theorem xr_175_176 : X_row 175 176 = some (176, (.bipush 30, 2), (0, 0, 0)) := by decide +kernel
theorem xr_175_178 : X_row 175 178 = some (178, (.aload_n 0, 1), (0, 0, 0)) := by decide +kernel
theorem xr_175_179 : X_row 175 179 = some (179, (.getfield 91, 3), (11, 4, 8)) := by decide +kernel
theorem xr_175_182 : X_row 175 182 = some (182, (.imul, 1), (0, 0, 0)) := by decide +kernel
theorem xr_175_183 : X_row 175 183 = some (183, (.iload 4, 2), (0, 0, 0)) := by decide +kernel
theorem xr_175_185 : X_row 175 185 = some (185, (.iadd, 1), (0, 0, 0)) := by decide +kernel
theorem xr_175_186 : X_row 175 186 = some (186, (.iaload, 1), (0, 0, 0)) := by decide +kernel
theorem xr_175_187 : X_row 175 187 = some (187, (.if_icmp .ge 39, 3), (0, 0, 0)) := by decide +kernel
theorem xr_175_190 : X_row 175 190 = some (190, (.aload_n 0, 1), (0, 0, 0)) := by decide +kernel
theorem xr_175_191 : X_row 175 191 = some (191, (.getfield 213, 3), (11, 41, 82)) := by decide +kernel
theorem xr_175_194 : X_row 175 194 = some (194, (.sipush 961, 3), (0, 0, 0)) := by decide +kernel
theorem xr_175_197 : X_row 175 197 = some (197, (.iconst 4, 1), (0, 0, 0)) := by decide +kernel
theorem xr_175_198 : X_row 175 198 = some (198, (.iload 4, 2), (0, 0, 0)) := by decide +kernel
theorem xr_175_200 : X_row 175 200 = some (200, (.imul, 1), (0, 0, 0)) := by decide +kernel
theorem xr_175_201 : X_row 175 201 = some (201, (.iload 5, 2), (0, 0, 0)) := by decide +kernel
theorem xr_175_203 : X_row 175 203 = some (203, (.iadd, 1), (0, 0, 0)) := by decide +kernel
theorem xr_175_204 : X_row 175 204 = some (204, (.imul, 1), (0, 0, 0)) := by decide +kernel
theorem xr_175_205 : X_row 175 205 = some (205, (.iload_n 3, 1), (0, 0, 0)) := by decide +kernel
theorem xr_175_206 : X_row 175 206 = some (206, (.iadd, 1), (0, 0, 0)) := by decide +kernel
theorem xr_175_207 : X_row 175 207 = some (207, (.aload_n 0, 1), (0, 0, 0)) := by decide +kernel
theorem xr_175_208 : X_row 175 208 = some (208, (.iload 4, 2), (0, 0, 0)) := by decide +kernel
theorem xr_175_210 : X_row 175 210 = some (210, (.iload 5, 2), (0, 0, 0)) := by decide +kernel
theorem xr_175_212 : X_row 175 212 = some (212, (.iload_n 2, 1), (0, 0, 0)) := by decide +kernel
theorem xr_175_213 : X_row 175 213 = some (213, (.iload_n 2, 1), (0, 0, 0)) := by decide +kernel
theorem xr_175_214 : X_row 175 214 = some (214, (.iload_n 1, 1), (0, 0, 0)) := by decide +kernel
theorem xr_175_215 : X_row 175 215 = some (215, (.iadd, 1), (0, 0, 0)) := by decide +kernel
theorem xr_175_216 : X_row 175 216 = some (216, (.invokevirtual 352, 3), (181, 70, 0)) := by decide +kernel
theorem xr_175_219 : X_row 175 219 = some (219, (.lastore, 1), (0, 0, 0)) := by decide +kernel
theorem xr_175_220 : X_row 175 220 = some (220, (.iinc 5 1, 3), (0, 0, 0)) := by decide +kernel
theorem xr_175_223 : X_row 175 223 = some (223, (.goto (-53), 3), (0, 0, 0)) := by decide +kernel
theorem xr_175_226 : X_row 175 226 = some (226, (.iinc 4 1, 3), (0, 0, 0)) := by decide +kernel
theorem xr_175_229 : X_row 175 229 = some (229, (.goto (-71), 3), (0, 0, 0)) := by decide +kernel
theorem xr_175_232 : X_row 175 232 = some (232, (.iinc 2 1, 3), (0, 0, 0)) := by decide +kernel
theorem xr_175_235 : X_row 175 235 = some (235, (.goto (-223), 3), (0, 0, 0)) := by decide +kernel
theorem xr_175_238 : X_row 175 238 = some (238, (.iinc 1 1, 3), (0, 0, 0)) := by decide +kernel
theorem xr_175_241 : X_row 175 241 = some (241, (.goto (-239), 3), (0, 0, 0)) := by decide +kernel
theorem xr_175_244 : X_row 175 244 = some (244, (.return_, 1), (0, 0, 0)) := by decide +kernel
theorem xr_183_0 : X_row 183 0 = some (0, (.iload_n 1, 1), (0, 0, 0)) := by decide +kernel
theorem xr_183_1 : X_row 183 1 = some (1, (.ifCond .lt 16, 3), (0, 0, 0)) := by decide +kernel
theorem xr_183_4 : X_row 183 4 = some (4, (.iload_n 2, 1), (0, 0, 0)) := by decide +kernel
theorem xr_183_5 : X_row 183 5 = some (5, (.aload_n 0, 1), (0, 0, 0)) := by decide +kernel
theorem xr_183_6 : X_row 183 6 = some (6, (.getfield 314, 3), (11, 38, 76)) := by decide +kernel
theorem xr_183_9 : X_row 183 9 = some (9, (.if_icmp .gt 8, 3), (0, 0, 0)) := by decide +kernel
theorem xr_183_12 : X_row 183 12 = some (12, (.iload_n 1, 1), (0, 0, 0)) := by decide +kernel
theorem xr_183_13 : X_row 183 13 = some (13, (.iload_n 2, 1), (0, 0, 0)) := by decide +kernel
theorem xr_183_14 : X_row 183 14 = some (14, (.if_icmp .lt 5, 3), (0, 0, 0)) := by decide +kernel
theorem xr_183_17 : X_row 183 17 = some (17, (.lconst 0, 1), (0, 0, 0)) := by decide +kernel
theorem xr_183_18 : X_row 183 18 = some (18, (.lreturn, 1), (0, 0, 0)) := by decide +kernel
theorem xr_183_19 : X_row 183 19 = some (19, (.aload_n 0, 1), (0, 0, 0)) := by decide +kernel
theorem xr_183_20 : X_row 183 20 = some (20, (.iload_n 1, 1), (0, 0, 0)) := by decide +kernel
theorem xr_183_21 : X_row 183 21 = some (21, (.iload_n 2, 1), (0, 0, 0)) := by decide +kernel
theorem xr_183_22 : X_row 183 22 = some (22, (.invokevirtual 376, 3), (182, 76, 0)) := by decide +kernel
theorem xr_183_25 : X_row 183 25 = some (25, (.lstore_n 3, 1), (0, 0, 0)) := by decide +kernel
theorem xr_183_26 : X_row 183 26 = some (26, (.lload_n 3, 1), (0, 0, 0)) := by decide +kernel
theorem xr_183_27 : X_row 183 27 = some (27, (.lconst 0, 1), (0, 0, 0)) := by decide +kernel
theorem xr_183_28 : X_row 183 28 = some (28, (.lcmp, 1), (0, 0, 0)) := by decide +kernel
theorem xr_183_29 : X_row 183 29 = some (29, (.ifCond .ge 9, 3), (0, 0, 0)) := by decide +kernel
theorem xr_183_32 : X_row 183 32 = some (32, (.ldc2_w 380, 3), (18446744073709551614, 1456, 0)) := by decide +kernel
theorem xr_183_35 : X_row 183 35 = some (35, (.goto 4, 3), (0, 0, 0)) := by decide +kernel
theorem xr_183_38 : X_row 183 38 = some (38, (.lload_n 3, 1), (0, 0, 0)) := by decide +kernel
theorem xr_183_39 : X_row 183 39 = some (39, (.lreturn, 1), (0, 0, 0)) := by decide +kernel
theorem xr_184_0 : X_row 184 0 = some (0, (.iconst 1, 1), (0, 0, 0)) := by decide +kernel
theorem xr_184_1 : X_row 184 1 = some (1, (.istore_n 1, 1), (0, 0, 0)) := by decide +kernel
theorem xr_184_2 : X_row 184 2 = some (2, (.iload_n 1, 1), (0, 0, 0)) := by decide +kernel
theorem xr_184_3 : X_row 184 3 = some (3, (.aload_n 0, 1), (0, 0, 0)) := by decide +kernel
theorem xr_184_4 : X_row 184 4 = some (4, (.getfield 314, 3), (11, 38, 76)) := by decide +kernel
theorem xr_184_7 : X_row 184 7 = some (7, (.if_icmp .gt 55, 3), (0, 0, 0)) := by decide +kernel
theorem xr_184_10 : X_row 184 10 = some (10, (.iconst 0, 1), (0, 0, 0)) := by decide +kernel
theorem xr_184_11 : X_row 184 11 = some (11, (.istore_n 2, 1), (0, 0, 0)) := by decide +kernel
theorem xr_184_12 : X_row 184 12 = some (12, (.iload_n 2, 1), (0, 0, 0)) := by decide +kernel
theorem xr_184_13 : X_row 184 13 = some (13, (.iload_n 1, 1), (0, 0, 0)) := by decide +kernel
theorem xr_184_14 : X_row 184 14 = some (14, (.iadd, 1), (0, 0, 0)) := by decide +kernel
theorem xr_184_15 : X_row 184 15 = some (15, (.aload_n 0, 1), (0, 0, 0)) := by decide +kernel
theorem xr_184_16 : X_row 184 16 = some (16, (.getfield 314, 3), (11, 38, 76)) := by decide +kernel
theorem xr_184_19 : X_row 184 19 = some (19, (.if_icmp .gt 37, 3), (0, 0, 0)) := by decide +kernel
theorem xr_184_22 : X_row 184 22 = some (22, (.aload_n 0, 1), (0, 0, 0)) := by decide +kernel
theorem xr_184_23 : X_row 184 23 = some (23, (.iload_n 2, 1), (0, 0, 0)) := by decide +kernel
theorem xr_184_24 : X_row 184 24 = some (24, (.iload_n 2, 1), (0, 0, 0)) := by decide +kernel
theorem xr_184_25 : X_row 184 25 = some (25, (.iload_n 1, 1), (0, 0, 0)) := by decide +kernel
theorem xr_184_26 : X_row 184 26 = some (26, (.iadd, 1), (0, 0, 0)) := by decide +kernel
theorem xr_184_27 : X_row 184 27 = some (27, (.invokevirtual 376, 3), (182, 76, 0)) := by decide +kernel
theorem xr_184_30 : X_row 184 30 = some (30, (.lstore_n 3, 1), (0, 0, 0)) := by decide +kernel
theorem xr_184_31 : X_row 184 31 = some (31, (.lload_n 3, 1), (0, 0, 0)) := by decide +kernel
theorem xr_184_32 : X_row 184 32 = some (32, (.lconst 0, 1), (0, 0, 0)) := by decide +kernel
theorem xr_184_33 : X_row 184 33 = some (33, (.lcmp, 1), (0, 0, 0)) := by decide +kernel
theorem xr_184_34 : X_row 184 34 = some (34, (.ifCond .lt 9, 3), (0, 0, 0)) := by decide +kernel
theorem xr_184_37 : X_row 184 37 = some (37, (.lload_n 3, 1), (0, 0, 0)) := by decide +kernel
theorem xr_184_38 : X_row 184 38 = some (38, (.lconst 1, 1), (0, 0, 0)) := by decide +kernel
theorem xr_184_39 : X_row 184 39 = some (39, (.lcmp, 1), (0, 0, 0)) := by decide +kernel
theorem xr_184_40 : X_row 184 40 = some (40, (.ifCond .le 10, 3), (0, 0, 0)) := by decide +kernel
theorem xr_184_43 : X_row 184 43 = some (43, (.bipush 100, 2), (0, 0, 0)) := by decide +kernel
theorem xr_184_45 : X_row 184 45 = some (45, (.iload_n 2, 1), (0, 0, 0)) := by decide +kernel
theorem xr_184_46 : X_row 184 46 = some (46, (.imul, 1), (0, 0, 0)) := by decide +kernel
theorem xr_184_47 : X_row 184 47 = some (47, (.iload_n 1, 1), (0, 0, 0)) := by decide +kernel
theorem xr_184_48 : X_row 184 48 = some (48, (.iadd, 1), (0, 0, 0)) := by decide +kernel
theorem xr_184_49 : X_row 184 49 = some (49, (.ireturn, 1), (0, 0, 0)) := by decide +kernel
theorem xr_184_50 : X_row 184 50 = some (50, (.iinc 2 1, 3), (0, 0, 0)) := by decide +kernel
theorem xr_184_53 : X_row 184 53 = some (53, (.goto (-41), 3), (0, 0, 0)) := by decide +kernel
theorem xr_184_56 : X_row 184 56 = some (56, (.iinc 1 1, 3), (0, 0, 0)) := by decide +kernel
theorem xr_184_59 : X_row 184 59 = some (59, (.goto (-57), 3), (0, 0, 0)) := by decide +kernel
theorem xr_184_62 : X_row 184 62 = some (62, (.iconst (-1), 1), (0, 0, 0)) := by decide +kernel
theorem xr_184_63 : X_row 184 63 = some (63, (.ireturn, 1), (0, 0, 0)) := by decide +kernel
theorem xn_175 : X_nL 175 = 6 := by decide +kernel
theorem xf_175 : X_na 175 = 0 ∧ X_ci 175 = 11 ∧ X_rt 175 = none := by decide +kernel
theorem xn_183 : X_nL 183 = 5 := by decide +kernel
theorem xf_183 : X_na 183 = 2 ∧ X_ci 183 = 11 ∧ X_rt 183 = (some .long) := by decide +kernel
theorem xn_184 : X_nL 184 = 5 := by decide +kernel
theorem xf_184 : X_na 184 = 0 ∧ X_ci 184 = 11 ∧ X_rt 184 = (some .int) := by decide +kernel
set_option maxHeartbeats 3000000 in
theorem r_countAll (sc : X_Sc) (S : X_S) (tg : Int → Int) (kU : Int → Int) (wR : Int → Int) (wL : Int → Int) (wK : Int → Int) (wM : Int → Int) (wH : Int → Int) (eP : Int → Int64) (eH : Int → Int) (hK : Int → Int) (tT : Int → Int64) (tU : Int → Int) (oW : Int → Int64) (oK : Int → Int64) (oH : Int → Int64) (r1 : Int → Int64) (r2 : Int → Int64) (o : Nat → Int) (nm : Int64) (b : Int) (rc : Int) (G : X_G) (tn : Int) (hO530 : S.1 530 = .inr (11, [.ref 531, .int (iI (o 1)), .ref 532, .int (iI (o 3)), .int (iI b), .int (iI (o 5)), .int (iI (o 6)), .int (iI (o 7)), .int (iI (o 8)), .int (iI (o 9)), .int (iI (o 10)), .int (iI (o 11)), .long nm, .ref 533, .ref 534, .ref 535, .ref 536, .ref 537, .ref 538, .ref 539, .ref 540, .ref 541, .ref 542, .ref 543, .ref 544, .ref 545, .ref 546, .ref 547, .int (iI rc), .int (iI (gk G)), .int (iI (gw G)), .int (iI (o 31)), .int (iI (o 32)), .int (iI (o 33)), .ref 548, .ref 549, .ref 550, .ref 551, .int (iI tn), .ref 552, .ref 553, .ref 554, .ref 555, .ref 556, .ref 557, .ref 558, .ref 559, .ref 560, .ref 561, .int (iI (o 49)), .ref 562, .ref 563, .ref 564, .ref 565, .ref 566, .ref 567, .ref 568, .ref 569, .int (iI (o 58)), .ref 570, .ref 571, .ref 572, .ref 573, .ref 574, .ref 575, .ref 576, .ref 577, .ref 578, .int (iI (o 68)), .int (iI (o 69)), .int (iI (o 70)), .ref 579])) (hA535 : S.1 535 = .inl (.boolean, 288, .inl fun k : Nat => iI (tg (k : Int)))) (hA536 : S.1 536 = .inl (.int, 22, .inl fun k : Nat => iI (kU (k : Int)))) (hA537 : S.1 537 = .inl (.int, 60, .inl fun k : Nat => iI (wR (k : Int)))) (hA538 : S.1 538 = .inl (.int, 60, .inl fun k : Nat => iI (wL (k : Int)))) (hA539 : S.1 539 = .inl (.int, 60, .inl fun k : Nat => iI (wK (k : Int)))) (hA540 : S.1 540 = .inl (.int, 60, .inl fun k : Nat => iI (wM (k : Int)))) (hA541 : S.1 541 = .inl (.int, 60, .inl fun k : Nat => iI (wH (k : Int)))) (hA545 : S.1 545 = .inl (.long, 480, .inr (.inl fun k : Nat => eP (k : Int)))) (hA546 : S.1 546 = .inl (.int, 480, .inl fun k : Nat => iI (eH (k : Int)))) (hA547 : S.1 547 = .inl (.int, 240, .inl fun k : Nat => iI (hK (k : Int)))) (hA548 : S.1 548 = .inl (.long, 30, .inr (.inl fun k : Nat => tT (k : Int)))) (hA550 : S.1 550 = .inl (.int, 30, .inl fun k : Nat => iI (tU (k : Int)))) (hA552 : S.1 552 = .inl (.long, 28830, .inr (.inl fun k : Nat => oW (k : Int)))) (hA553 : S.1 553 = .inl (.long, 10571, .inr (.inl fun k : Nat => oK (k : Int)))) (hA554 : S.1 554 = .inl (.long, 115320, .inr (.inl fun k : Nat => oH (k : Int)))) (hA555 : S.1 555 = .inl (.long, 32, .inr (.inl fun k : Nat => r1 (k : Int)))) (hA556 : S.1 556 = .inl (.long, 32, .inr (.inl fun k : Nat => r2 (k : Int)))) (hbr : 0 ≤ b ∧ b ≤ 1) (hG : X_Gok G) (htn : 0 ≤ tn ∧ tn ≤ 30) (hTT : ∀ t, 0 ≤ t → t < tn → tT t = gt G t) (hTU : ∀ t, 0 ≤ t → t < tn → tU t = X_nv (gt G t)) (hKU : (∀ u, 0 ≤ u → u < 32 → (X_bt (ga G 0) u ↔ u = 0)) ∧ kU (11 * b) = -1 ∧ ∀ k, 1 ≤ k → k < gk G → (0 ≤ kU (11 * b + k) ∧ kU (11 * b + k) < k) ∧ ∀ u, 0 ≤ u → u < 32 → (X_bt (ga G k) u ↔ u = k ∨ X_bt (ga G (kU (11 * b + k))) u)) (hTG : (∀ i j, 0 ≤ i → i < rc → 0 ≤ j → j < rc → tg (144 * b + 12 * i + j) = bI (X_bt (gl G i) j)) ∧ ∀ w, 0 ≤ w → w < gw G → gD G w 0 0 < rc) (hWR : ∀ w, 0 ≤ w → w < gw G → wR (30 * b + w) = gD G w 0 0) (hWL : ∀ w, 0 ≤ w → w < gw G → wL (30 * b + w) = gD G w 1 0) (hWK : ∀ w, 0 ≤ w → w < gw G → wK (30 * b + w) = gD G w 2 0) (hWM : ∀ w, 0 ≤ w → w < gw G → wM (30 * b + w) = gD G w 3 0) (hWH : ∀ w, 0 ≤ w → w < gw G → wH (30 * b + w) = gD G w 4 0) (hEP : ∀ w, 0 ≤ w → w < gw G → ∀ e, 0 ≤ e → e < gD G w 3 0 → eP (8 * (30 * b + w) + e) = gW G w e) (hEH : ∀ w, 0 ≤ w → w < gw G → ∀ e, 0 ≤ e → e < gD G w 3 0 → gW G w e = 0 → eH (8 * (30 * b + w) + e) = gD G w 8 e) (hHK : ∀ w, 0 ≤ w → w < gw G → ∀ h, 0 ≤ h → h < gD G w 4 0 → hK (4 * (30 * b + w) + h) = gD G w 9 h) : X_T sc 175 (0, [(0, .ref 530)], [], S) (fun v S' => ∃ (oW1 : Int → Int64) (oK1 : Int → Int64) (oH1 : Int → Int64) (r1x : Int → Int64) (r2x : Int → Int64), v = none ∧ R_ct G tn oW1 oK1 oH1 ∧ S'.1 552 = .inl (.long, 28830, .inr (.inl fun k : Nat => oW1 (k : Int))) ∧ S'.1 553 = .inl (.long, 10571, .inr (.inl fun k : Nat => oK1 (k : Int))) ∧ S'.1 554 = .inl (.long, 115320, .inr (.inl fun k : Nat => oH1 (k : Int))) ∧ S'.1 555 = .inl (.long, 32, .inr (.inl fun k : Nat => r1x (k : Int))) ∧ S'.1 556 = .inl (.long, 32, .inr (.inl fun k : Nat => r2x (k : Int))) ∧ (X_Fr (fun q => 552 ≤ q ∧ q ≤ 556) S S')) := by
  have hc1 := hG.1
  have hkr := hG.2.1
  refine X_QI (fun Q hQ => ?_)
  refine T_p xr_175_0 xn_175 (pc' := 1) (ls' := [(0, .ref 530)]) (st' := [.int (iI 1)]) rfl ?_
  refine T_p xr_175_1 xn_175 (pc' := 2) (ls' := [(1, .int (iI 1)), (0, .ref 530)]) (st' := []) rfl ?_
  have L814 : ∀ (m816 : Nat) (S819 : X_S) (n : Int) (oWa : Int → Int64) (oKa : Int → Int64) (oHa : Int → Int64) (r1a : Int → Int64) (r2a : Int → Int64) (hoWa : S819.1 552 = .inl (.long, 28830, .inr (.inl fun k : Nat => oWa (k : Int)))) (hoKa : S819.1 553 = .inl (.long, 10571, .inr (.inl fun k : Nat => oKa (k : Int)))) (hoHa : S819.1 554 = .inl (.long, 115320, .inr (.inl fun k : Nat => oHa (k : Int)))) (hr1a : S819.1 555 = .inl (.long, 32, .inr (.inl fun k : Nat => r1a (k : Int)))) (hr2a : S819.1 556 = .inl (.long, 32, .inr (.inl fun k : Nat => r2a (k : Int)))) (hF818 : X_Fr (fun q => 552 ≤ q ∧ q ≤ 556) S S819) (hn : 1 ≤ n ∧ n ≤ tn + 1) (hLa : ∀ i2 j2, 0 ≤ i2 → i2 < j2 → j2 ≤ tn → (j2 - i2 < n) → R_rc G i2 j2 oWa oKa oHa) (hm817 : tn + 1 - n < m816), X_T sc 175 (2, [(1, .int (iI n)), (0, .ref 530)], [], S819) Q := by
    intro m816
    induction m816 with
    | zero =>
      intro S819 n oWa oKa oHa r1a r2a hoWa hoKa hoHa hr1a hr2a hF818 hn hLa hm817
      exact (show False by omega).elim
    | succ m816 ih815 =>
      intro S819 n oWa oKa oHa r1a r2a hoWa hoKa hoHa hr1a hr2a hF818 hn hLa hm817
      refine T_p xr_175_2 xn_175 (pc' := 3) (ls' := [(1, .int (iI n)), (0, .ref 530)]) (st' := [.int (iI n)]) rfl ?_
      refine T_p xr_175_3 xn_175 (pc' := 4) (ls' := [(1, .int (iI n)), (0, .ref 530)]) (st' := [.ref 530, .int (iI n)]) rfl ?_
      have h820 := (hF818.1 530 (by omega)).trans (hO530)
      refine T_get xr_175_4 h820 rfl (v := .int (iI tn)) rfl (pc' := 7) rfl ?_
      refine T_zicmp_gt xr_175_7 (t := 244) (pc' := 10) rfl rfl (fun c821 => ?_) (fun c821 => ?_)
      · skip
        have c821 : tn < n := c821
        refine T_vret xr_175_244 xf_175.2.2 ?_
        refine hQ _ _ ?_
        exact ⟨oWa, oKa, oHa, r1a, r2a, rfl, (fun i2 j2 h1 h2 h3 => hLa i2 j2 h1 h2 h3 (by omega)), hoWa, hoKa, hoHa, hr1a, hr2a, (X_Fr.rf).tr (X_Fr.mono ⟨hF818.1, hF818.2⟩ (fun q hq => (by omega)))⟩
      · skip
        have c821 : ¬ (tn < n) := c821
        refine T_p xr_175_10 xn_175 (pc' := 11) (ls' := [(1, .int (iI n)), (0, .ref 530)]) (st' := [.int (iI 0)]) rfl ?_
        refine T_p xr_175_11 xn_175 (pc' := 12) (ls' := [(2, .int (iI 0)), (1, .int (iI n)), (0, .ref 530)]) (st' := []) rfl ?_
        have L822 : ∀ (m824 : Nat) (S827 : X_S) (i : Int) (oWb : Int → Int64) (oKb : Int → Int64) (oHb : Int → Int64) (r1b : Int → Int64) (r2b : Int → Int64) (hoWb : S827.1 552 = .inl (.long, 28830, .inr (.inl fun k : Nat => oWb (k : Int)))) (hoKb : S827.1 553 = .inl (.long, 10571, .inr (.inl fun k : Nat => oKb (k : Int)))) (hoHb : S827.1 554 = .inl (.long, 115320, .inr (.inl fun k : Nat => oHb (k : Int)))) (hr1b : S827.1 555 = .inl (.long, 32, .inr (.inl fun k : Nat => r1b (k : Int)))) (hr2b : S827.1 556 = .inl (.long, 32, .inr (.inl fun k : Nat => r2b (k : Int)))) (hF826 : X_Fr (fun q => 552 ≤ q ∧ q ≤ 556) S819 S827) (hi : 0 ≤ i ∧ i + n ≤ tn + 1) (hLb : ∀ i2 j2, 0 ≤ i2 → i2 < j2 → j2 ≤ tn → (j2 - i2 < n ∨ (j2 - i2 = n ∧ i2 < i)) → R_rc G i2 j2 oWb oKb oHb) (hm825 : tn + 1 - i < m824), X_T sc 175 (12, [(2, .int (iI i)), (1, .int (iI n)), (0, .ref 530)], [], S827) Q := by
          intro m824
          induction m824 with
          | zero =>
            intro S827 i oWb oKb oHb r1b r2b hoWb hoKb hoHb hr1b hr2b hF826 hi hLb hm825
            exact (show False by omega).elim
          | succ m824 ih823 =>
            intro S827 i oWb oKb oHb r1b r2b hoWb hoKb hoHb hr1b hr2b hF826 hi hLb hm825
            refine T_p xr_175_12 xn_175 (pc' := 13) (ls' := [(2, .int (iI i)), (1, .int (iI n)), (0, .ref 530)]) (st' := [.int (iI i)]) rfl ?_
            refine T_p xr_175_13 xn_175 (pc' := 14) (ls' := [(2, .int (iI i)), (1, .int (iI n)), (0, .ref 530)]) (st' := [.int (iI n), .int (iI i)]) rfl ?_
            refine T_ziadd xr_175_14 (z := i + n) rfl (pc' := 15) rfl ?_
            refine T_p xr_175_15 xn_175 (pc' := 16) (ls' := [(2, .int (iI i)), (1, .int (iI n)), (0, .ref 530)]) (st' := [.ref 530, .int (iI (i + n))]) rfl ?_
            have h828 := (hF826.1 530 (by omega)).trans (h820)
            refine T_get xr_175_16 h828 rfl (v := .int (iI tn)) rfl (pc' := 19) rfl ?_
            refine T_zicmp_gt xr_175_19 (t := 238) (pc' := 22) rfl rfl (fun c829 => ?_) (fun c829 => ?_)
            · skip
              have c829 : tn < (i + n) := c829
              refine T_ziinc xr_175_238 xn_175 (a := n) (z := n + 1) rfl (Nat.le_of_ble_eq_true rfl) (by omega) (ls' := [(1, .int (iI (n + 1))), (2, .int (iI i)), (0, .ref 530)]) rfl (pc' := 241) rfl ?_
              refine T_p xr_175_241 xn_175 (pc' := 2) (ls' := [(1, .int (iI (n + 1))), (2, .int (iI i)), (0, .ref 530)]) (st' := []) rfl ?_
              refine T_sub (ls := [(1, .int (iI (n + 1))), (0, .ref 530)]) ⟨rfl, rfl, trivial⟩ rfl rfl ?_
              exact ih815 S827 (n + 1) oWb oKb oHb r1b r2b hoWb hoKb hoHb hr1b hr2b (hF818.tr ((X_Fr.rf).tr (X_Fr.mono ⟨hF826.1, hF826.2⟩ (fun q hq => (by omega))))) (by omega) (fun i2 j2 h1 h2 h3 h4 => hLb i2 j2 h1 h2 h3 (by omega)) (by omega)
            · skip
              have c829 : ¬ (tn < (i + n)) := c829
              refine T_p xr_175_22 xn_175 (pc' := 23) (ls' := [(2, .int (iI i)), (1, .int (iI n)), (0, .ref 530)]) (st' := [.int (iI i)]) rfl ?_
              refine T_p xr_175_23 xn_175 (pc' := 24) (ls' := [(2, .int (iI i)), (1, .int (iI n)), (0, .ref 530)]) (st' := [.int (iI i), .int (iI i)]) rfl ?_
              refine T_p xr_175_24 xn_175 (pc' := 25) (ls' := [(2, .int (iI i)), (1, .int (iI n)), (0, .ref 530)]) (st' := [.int (iI n), .int (iI i), .int (iI i)]) rfl ?_
              refine T_ziadd xr_175_25 (z := i + n) rfl (pc' := 26) rfl ?_
              refine T_cs xr_175_26 (by decide) xf_173.1 xn_173 (as := [.int (iI i), .int (iI (i + n))]) (r := []) rfl (Nat.le_of_ble_eq_true rfl) (Nat.le_of_ble_eq_true rfl) (pc' := 29) rfl (ls' := [(0, .int (iI i)), (1, .int (iI (i + n)))]) rfl ?_
              refine T_p xr_173_0 xn_173 (pc' := 2) (ls' := [(0, .int (iI i)), (1, .int (iI (i + n)))]) (st' := [.int (iI 31)]) rfl ?_
              refine T_p xr_173_2 xn_173 (pc' := 3) (ls' := [(0, .int (iI i)), (1, .int (iI (i + n)))]) (st' := [.int (iI i), .int (iI 31)]) rfl ?_
              refine T_zimul xr_173_3 (z := 31 * i) rfl (pc' := 4) rfl ?_
              refine T_p xr_173_4 xn_173 (pc' := 5) (ls' := [(0, .int (iI i)), (1, .int (iI (i + n)))]) (st' := [.int (iI (i + n)), .int (iI (31 * i))]) rfl ?_
              refine T_ziadd xr_173_5 (z := (31 * i) + (i + n)) rfl (pc' := 6) rfl ?_
              refine T_iret xr_173_6 xf_173.2.2 rfl ?_
              show X_T sc 175 (29, [(2, .int (iI i)), (1, .int (iI n)), (0, .ref 530)], [.int (iI ((31 * i) + (i + n)))], S827) _
              refine T_p xr_175_29 xn_175 (pc' := 30) (ls' := [(3, .int (iI ((31 * i) + (i + n)))), (2, .int (iI i)), (1, .int (iI n)), (0, .ref 530)]) (st' := []) rfl ?_
              refine T_p xr_175_30 xn_175 (pc' := 31) (ls' := [(3, .int (iI ((31 * i) + (i + n)))), (2, .int (iI i)), (1, .int (iI n)), (0, .ref 530)]) (st' := [.int (iI 0)]) rfl ?_
              refine T_p xr_175_31 xn_175 (pc' := 33) (ls' := [(4, .int (iI 0)), (3, .int (iI ((31 * i) + (i + n)))), (2, .int (iI i)), (1, .int (iI n)), (0, .ref 530)]) (st' := []) rfl ?_
              have L830 : ∀ (m832 : Nat) (S835 : X_S) (w : Int) (oWc : Int → Int64) (r1c : Int → Int64) (r2c : Int → Int64) (hoWc : S835.1 552 = .inl (.long, 28830, .inr (.inl fun k : Nat => oWc (k : Int)))) (hr1c : S835.1 555 = .inl (.long, 32, .inr (.inl fun k : Nat => r1c (k : Int)))) (hr2c : S835.1 556 = .inl (.long, 32, .inr (.inl fun k : Nat => r2c (k : Int)))) (hF834 : X_Fr (fun q => q = 552 ∨ q = 555 ∨ q = 556) S827 S835) (hw : 0 ≤ w ∧ w ≤ gw G) (hLc : ∀ i2 j2, 0 ≤ i2 → i2 < j2 → j2 ≤ tn → (j2 - i2 < n ∨ (j2 - i2 = n ∧ i2 < i)) → R_rc G i2 j2 oWc oKb oHb) (hWd : ∀ v, 0 ≤ v → v < w → oWc (961 * v + (31 * i + (i + n))) = X_st (-1) ((X_T_ G).1 v i (i + n))) (hm833 : gw G - w < m832), X_T sc 175 (33, [(4, .int (iI w)), (3, .int (iI (31 * i + (i + n)))), (2, .int (iI i)), (1, .int (iI n)), (0, .ref 530)], [], S835) Q := by
                intro m832
                induction m832 with
                | zero =>
                  intro S835 w oWc r1c r2c hoWc hr1c hr2c hF834 hw hLc hWd hm833
                  exact (show False by omega).elim
                | succ m832 ih831 =>
                  intro S835 w oWc r1c r2c hoWc hr1c hr2c hF834 hw hLc hWd hm833
                  refine T_p xr_175_33 xn_175 (pc' := 35) (ls' := [(4, .int (iI w)), (3, .int (iI (31 * i + (i + n)))), (2, .int (iI i)), (1, .int (iI n)), (0, .ref 530)]) (st' := [.int (iI w)]) rfl ?_
                  refine T_p xr_175_35 xn_175 (pc' := 36) (ls' := [(4, .int (iI w)), (3, .int (iI (31 * i + (i + n)))), (2, .int (iI i)), (1, .int (iI n)), (0, .ref 530)]) (st' := [.ref 530, .int (iI w)]) rfl ?_
                  have h836 := (hF834.1 530 (by omega)).trans (h828)
                  refine T_get xr_175_36 h836 rfl (v := .int (iI (gw G))) rfl (pc' := 39) rfl ?_
                  refine T_zicmp_ge xr_175_39 (t := 71) (pc' := 42) rfl rfl (fun c837 => ?_) (fun c837 => ?_)
                  · skip
                    have c837 : (gw G) ≤ w := c837
                    refine T_p xr_175_71 xn_175 (pc' := 72) (ls' := [(4, .int (iI w)), (3, .int (iI (31 * i + (i + n)))), (2, .int (iI i)), (1, .int (iI n)), (0, .ref 530)]) (st' := [.int (iI 0)]) rfl ?_
                    refine T_p xr_175_72 xn_175 (pc' := 74) (ls' := [(4, .int (iI 0)), (3, .int (iI (31 * i + (i + n)))), (2, .int (iI i)), (1, .int (iI n)), (0, .ref 530)]) (st' := []) rfl ?_
                    have h843 := (hF834.1 553 (by omega)).trans (hoKb)
                    have L838 : ∀ (m840 : Nat) (S844 : X_S) (k : Int) (oKd : Int → Int64) (hoKd : S844.1 553 = .inl (.long, 10571, .inr (.inl fun k : Nat => oKd (k : Int)))) (hF842 : X_Fr (fun q => q = 553) S835 S844) (hk : 0 ≤ k ∧ k ≤ gk G) (hLd : ∀ i2 j2, 0 ≤ i2 → i2 < j2 → j2 ≤ tn → (j2 - i2 < n ∨ (j2 - i2 = n ∧ i2 < i)) → R_rc G i2 j2 oWc oKd oHb) (hKd : ∀ v, 0 ≤ v → v < k → oKd (961 * v + (31 * i + (i + n))) = X_st (-1) ((X_T_ G).2 v i (i + n))) (hm841 : gk G - k < m840), X_T sc 175 (74, [(4, .int (iI k)), (3, .int (iI (31 * i + (i + n)))), (2, .int (iI i)), (1, .int (iI n)), (0, .ref 530)], [], S844) Q := by
                      intro m840
                      induction m840 with
                      | zero =>
                        intro S844 k oKd hoKd hF842 hk hLd hKd hm841
                        exact (show False by omega).elim
                      | succ m840 ih839 =>
                        intro S844 k oKd hoKd hF842 hk hLd hKd hm841
                        refine T_p xr_175_74 xn_175 (pc' := 76) (ls' := [(4, .int (iI k)), (3, .int (iI (31 * i + (i + n)))), (2, .int (iI i)), (1, .int (iI n)), (0, .ref 530)]) (st' := [.int (iI k)]) rfl ?_
                        refine T_p xr_175_76 xn_175 (pc' := 77) (ls' := [(4, .int (iI k)), (3, .int (iI (31 * i + (i + n)))), (2, .int (iI i)), (1, .int (iI n)), (0, .ref 530)]) (st' := [.ref 530, .int (iI k)]) rfl ?_
                        have h845 := (hF842.1 530 (by omega)).trans (h836)
                        refine T_get xr_175_77 h845 rfl (v := .int (iI (gk G))) rfl (pc' := 80) rfl ?_
                        refine T_zicmp_ge xr_175_80 (t := 155) (pc' := 83) rfl rfl (fun c846 => ?_) (fun c846 => ?_)
                        · skip
                          have c846 : (gk G) ≤ k := c846
                          refine T_p xr_175_155 xn_175 (pc' := 156) (ls' := [(4, .int (iI k)), (3, .int (iI (31 * i + (i + n)))), (2, .int (iI i)), (1, .int (iI n)), (0, .ref 530)]) (st' := [.int (iI 0)]) rfl ?_
                          refine T_p xr_175_156 xn_175 (pc' := 158) (ls' := [(4, .int (iI 0)), (3, .int (iI (31 * i + (i + n)))), (2, .int (iI i)), (1, .int (iI n)), (0, .ref 530)]) (st' := []) rfl ?_
                          have h852 := (hF842.1 554 (by omega)).trans ((hF834.1 554 (by omega)).trans (hoHb))
                          have L847 : ∀ (m849 : Nat) (S853 : X_S) (w3 : Int) (oHe : Int → Int64) (hoHe : S853.1 554 = .inl (.long, 115320, .inr (.inl fun k : Nat => oHe (k : Int)))) (hF851 : X_Fr (fun q => q = 554) S844 S853) (hw3 : 0 ≤ w3 ∧ w3 ≤ gw G) (hLe : ∀ i2 j2, 0 ≤ i2 → i2 < j2 → j2 ≤ tn → (j2 - i2 < n ∨ (j2 - i2 = n ∧ i2 < i)) → R_rc G i2 j2 oWc oKd oHe) (hHe : ∀ v, 0 ≤ v → v < w3 → ∀ h, 0 ≤ h → h < gD G v 4 0 → oHe (961 * (4 * v + h) + (31 * i + (i + n))) = X_st (-1) (X_Hh G v h i (i + n))) (hm850 : gw G - w3 < m849), X_T sc 175 (158, [(4, .int (iI w3)), (3, .int (iI (31 * i + (i + n)))), (2, .int (iI i)), (1, .int (iI n)), (0, .ref 530)], [], S853) Q := by
                            intro m849
                            induction m849 with
                            | zero =>
                              intro S853 w3 oHe hoHe hF851 hw3 hLe hHe hm850
                              exact (show False by omega).elim
                            | succ m849 ih848 =>
                              intro S853 w3 oHe hoHe hF851 hw3 hLe hHe hm850
                              refine T_p xr_175_158 xn_175 (pc' := 160) (ls' := [(4, .int (iI w3)), (3, .int (iI (31 * i + (i + n)))), (2, .int (iI i)), (1, .int (iI n)), (0, .ref 530)]) (st' := [.int (iI w3)]) rfl ?_
                              refine T_p xr_175_160 xn_175 (pc' := 161) (ls' := [(4, .int (iI w3)), (3, .int (iI (31 * i + (i + n)))), (2, .int (iI i)), (1, .int (iI n)), (0, .ref 530)]) (st' := [.ref 530, .int (iI w3)]) rfl ?_
                              have h854 := (hF851.1 530 (by omega)).trans (h845)
                              refine T_get xr_175_161 h854 rfl (v := .int (iI (gw G))) rfl (pc' := 164) rfl ?_
                              refine T_zicmp_ge xr_175_164 (t := 232) (pc' := 167) rfl rfl (fun c855 => ?_) (fun c855 => ?_)
                              · skip
                                have c855 : (gw G) ≤ w3 := c855
                                refine T_ziinc xr_175_232 xn_175 (a := i) (z := i + 1) rfl (Nat.le_of_ble_eq_true rfl) (by omega) (ls' := [(2, .int (iI (i + 1))), (4, .int (iI w3)), (3, .int (iI (31 * i + (i + n)))), (1, .int (iI n)), (0, .ref 530)]) rfl (pc' := 235) rfl ?_
                                refine T_p xr_175_235 xn_175 (pc' := 12) (ls' := [(2, .int (iI (i + 1))), (4, .int (iI w3)), (3, .int (iI (31 * i + (i + n)))), (1, .int (iI n)), (0, .ref 530)]) (st' := []) rfl ?_
                                have h856 := (hF851.1 552 (by omega)).trans ((hF842.1 552 (by omega)).trans (hoWc))
                                have h857 := (hF851.1 553 (by omega)).trans (hoKd)
                                have h858 := (hF851.1 555 (by omega)).trans ((hF842.1 555 (by omega)).trans (hr1c))
                                have h859 := (hF851.1 556 (by omega)).trans ((hF842.1 556 (by omega)).trans (hr2c))
                                refine T_sub (ls := [(2, .int (iI (i + 1))), (1, .int (iI n)), (0, .ref 530)]) ⟨rfl, rfl, rfl, trivial⟩ rfl rfl ?_
                                exact ih823 S853 (i + 1) oWc oKd oHe r1c r2c h856 h857 hoHe h858 h859 (hF826.tr ((((X_Fr.rf).tr (X_Fr.mono ⟨hF834.1, hF834.2⟩ (fun q hq => (by omega)))).tr (X_Fr.mono ⟨hF842.1, hF842.2⟩ (fun q hq => (by omega)))).tr (X_Fr.mono ⟨hF851.1, hF851.2⟩ (fun q hq => (by omega))))) (by omega) (fun i2 j2 h1 h2 h3 h4 => by
                                      by_cases hh : i2 = i ∧ j2 = i + n
                                      · rw [hh.1, hh.2]
                                        exact ⟨fun v g1 g2 => hWd v g1 (by omega), fun v g1 g2 => hKd v g1 (by omega), fun v g1 g2 z g3 g4 => hHe v g1 (by omega) z g3 g4⟩
                                      · exact hLe i2 j2 h1 h2 h3 (by omega)) (by omega)
                              · skip
                                have c855 : ¬ ((gw G) ≤ w3) := c855
                                refine T_p xr_175_167 xn_175 (pc' := 168) (ls' := [(4, .int (iI w3)), (3, .int (iI (31 * i + (i + n)))), (2, .int (iI i)), (1, .int (iI n)), (0, .ref 530)]) (st' := [.int (iI 0)]) rfl ?_
                                refine T_p xr_175_168 xn_175 (pc' := 170) (ls' := [(5, .int (iI 0)), (4, .int (iI w3)), (3, .int (iI (31 * i + (i + n)))), (2, .int (iI i)), (1, .int (iI n)), (0, .ref 530)]) (st' := []) rfl ?_
                                have L860 : ∀ (m862 : Nat) (S865 : X_S) (h : Int) (oHf : Int → Int64) (hoHf : S865.1 554 = .inl (.long, 115320, .inr (.inl fun k : Nat => oHf (k : Int)))) (hF864 : X_Fr (fun q => q = 554) S853 S865) (hh : 0 ≤ h ∧ h ≤ gD G w3 4 0) (hLf : ∀ i2 j2, 0 ≤ i2 → i2 < j2 → j2 ≤ tn → (j2 - i2 < n ∨ (j2 - i2 = n ∧ i2 < i)) → R_rc G i2 j2 oWc oKd oHf) (hHf : ∀ v, 0 ≤ v → v < w3 → ∀ h, 0 ≤ h → h < gD G v 4 0 → oHf (961 * (4 * v + h) + (31 * i + (i + n))) = X_st (-1) (X_Hh G v h i (i + n))) (hHg : ∀ z, 0 ≤ z → z < h → oHf (961 * (4 * w3 + z) + (31 * i + (i + n))) = X_st (-1) (X_Hh G w3 z i (i + n))) (hm863 : gD G w3 4 0 - h < m862), X_T sc 175 (170, [(5, .int (iI h)), (4, .int (iI w3)), (3, .int (iI (31 * i + (i + n)))), (2, .int (iI i)), (1, .int (iI n)), (0, .ref 530)], [], S865) Q := by
                                  intro m862
                                  induction m862 with
                                  | zero =>
                                    intro S865 h oHf hoHf hF864 hh hLf hHf hHg hm863
                                    exact (show False by omega).elim
                                  | succ m862 ih861 =>
                                    intro S865 h oHf hoHf hF864 hh hLf hHf hHg hm863
                                    have hw3h := (hG.2.2.2 w3 (by omega) (by omega)).2.1
                                    refine T_p xr_175_170 xn_175 (pc' := 172) (ls' := [(5, .int (iI h)), (4, .int (iI w3)), (3, .int (iI (31 * i + (i + n)))), (2, .int (iI i)), (1, .int (iI n)), (0, .ref 530)]) (st' := [.int (iI h)]) rfl ?_
                                    refine T_p xr_175_172 xn_175 (pc' := 173) (ls' := [(5, .int (iI h)), (4, .int (iI w3)), (3, .int (iI (31 * i + (i + n)))), (2, .int (iI i)), (1, .int (iI n)), (0, .ref 530)]) (st' := [.ref 530, .int (iI h)]) rfl ?_
                                    have h866 := (hF864.1 530 (by omega)).trans (h854)
                                    refine T_get xr_175_173 h866 rfl (v := .ref 541) rfl (pc' := 176) rfl ?_
                                    refine T_p xr_175_176 xn_175 (pc' := 178) (ls' := [(5, .int (iI h)), (4, .int (iI w3)), (3, .int (iI (31 * i + (i + n)))), (2, .int (iI i)), (1, .int (iI n)), (0, .ref 530)]) (st' := [.int (iI 30), .ref 541, .int (iI h)]) rfl ?_
                                    refine T_p xr_175_178 xn_175 (pc' := 179) (ls' := [(5, .int (iI h)), (4, .int (iI w3)), (3, .int (iI (31 * i + (i + n)))), (2, .int (iI i)), (1, .int (iI n)), (0, .ref 530)]) (st' := [.ref 530, .int (iI 30), .ref 541, .int (iI h)]) rfl ?_
                                    refine T_get xr_175_179 h866 rfl (v := .int (iI b)) rfl (pc' := 182) rfl ?_
                                    refine T_zimul xr_175_182 (z := 30 * b) rfl (pc' := 183) rfl ?_
                                    refine T_p xr_175_183 xn_175 (pc' := 185) (ls' := [(5, .int (iI h)), (4, .int (iI w3)), (3, .int (iI (31 * i + (i + n)))), (2, .int (iI i)), (1, .int (iI n)), (0, .ref 530)]) (st' := [.int (iI w3), .int (iI (30 * b)), .ref 541, .int (iI h)]) rfl ?_
                                    refine T_ziadd xr_175_185 (z := (30 * b) + w3) rfl (pc' := 186) rfl ?_
                                    have h867 := (hF864.1 541 (by omega)).trans ((hF851.1 541 (by omega)).trans ((hF842.1 541 (by omega)).trans ((hF834.1 541 (by omega)).trans ((hF826.1 541 (by omega)).trans ((hF818.1 541 (by omega)).trans (hA541))))))
                                    refine T_ziald xr_175_186 h867 (pc' := 187) rfl ?_
                                    refine T_ie (y := iI (gD G w3 4 0)) (by rw [hWH w3 (by omega) (by omega)]) ?_
                                    refine T_zicmp_ge xr_175_187 (t := 226) (pc' := 190) rfl rfl (fun c868 => ?_) (fun c868 => ?_)
                                    · skip
                                      have c868 : (gD G w3 4 0) ≤ h := c868
                                      refine T_ziinc xr_175_226 xn_175 (a := w3) (z := w3 + 1) rfl (Nat.le_of_ble_eq_true rfl) (by omega) (ls' := [(4, .int (iI (w3 + 1))), (5, .int (iI h)), (3, .int (iI (31 * i + (i + n)))), (2, .int (iI i)), (1, .int (iI n)), (0, .ref 530)]) rfl (pc' := 229) rfl ?_
                                      refine T_p xr_175_229 xn_175 (pc' := 158) (ls' := [(4, .int (iI (w3 + 1))), (5, .int (iI h)), (3, .int (iI (31 * i + (i + n)))), (2, .int (iI i)), (1, .int (iI n)), (0, .ref 530)]) (st' := []) rfl ?_
                                      refine T_sub (ls := [(4, .int (iI (w3 + 1))), (3, .int (iI (31 * i + (i + n)))), (2, .int (iI i)), (1, .int (iI n)), (0, .ref 530)]) ⟨rfl, rfl, rfl, rfl, rfl, trivial⟩ rfl rfl ?_
                                      exact ih848 S865 (w3 + 1) oHf hoHf (hF851.tr ((X_Fr.rf).tr (X_Fr.mono ⟨hF864.1, hF864.2⟩ (fun q hq => (by omega))))) (by omega) hLf (fun v h1 h2 z g1 g2 => by
                                            by_cases hv : v = w3
                                            · rw [hv] at g2 ⊢; exact hHg z g1 (by omega)
                                            · exact hHf v h1 (by omega) z g1 g2) (by omega)
                                    · skip
                                      have c868 : ¬ ((gD G w3 4 0) ≤ h) := c868
                                      refine T_p xr_175_190 xn_175 (pc' := 191) (ls' := [(5, .int (iI h)), (4, .int (iI w3)), (3, .int (iI (31 * i + (i + n)))), (2, .int (iI i)), (1, .int (iI n)), (0, .ref 530)]) (st' := [.ref 530]) rfl ?_
                                      refine T_get xr_175_191 h866 rfl (v := .ref 554) rfl (pc' := 194) rfl ?_
                                      refine T_p xr_175_194 xn_175 (pc' := 197) (ls' := [(5, .int (iI h)), (4, .int (iI w3)), (3, .int (iI (31 * i + (i + n)))), (2, .int (iI i)), (1, .int (iI n)), (0, .ref 530)]) (st' := [.int (iI 961), .ref 554]) rfl ?_
                                      refine T_p xr_175_197 xn_175 (pc' := 198) (ls' := [(5, .int (iI h)), (4, .int (iI w3)), (3, .int (iI (31 * i + (i + n)))), (2, .int (iI i)), (1, .int (iI n)), (0, .ref 530)]) (st' := [.int (iI 4), .int (iI 961), .ref 554]) rfl ?_
                                      refine T_p xr_175_198 xn_175 (pc' := 200) (ls' := [(5, .int (iI h)), (4, .int (iI w3)), (3, .int (iI (31 * i + (i + n)))), (2, .int (iI i)), (1, .int (iI n)), (0, .ref 530)]) (st' := [.int (iI w3), .int (iI 4), .int (iI 961), .ref 554]) rfl ?_
                                      refine T_zimul xr_175_200 (z := 4 * w3) rfl (pc' := 201) rfl ?_
                                      refine T_p xr_175_201 xn_175 (pc' := 203) (ls' := [(5, .int (iI h)), (4, .int (iI w3)), (3, .int (iI (31 * i + (i + n)))), (2, .int (iI i)), (1, .int (iI n)), (0, .ref 530)]) (st' := [.int (iI h), .int (iI (4 * w3)), .int (iI 961), .ref 554]) rfl ?_
                                      refine T_ziadd xr_175_203 (z := (4 * w3) + h) rfl (pc' := 204) rfl ?_
                                      refine T_zimul xr_175_204 (z := 961 * ((4 * w3) + h)) rfl (pc' := 205) rfl ?_
                                      refine T_p xr_175_205 xn_175 (pc' := 206) (ls' := [(5, .int (iI h)), (4, .int (iI w3)), (3, .int (iI (31 * i + (i + n)))), (2, .int (iI i)), (1, .int (iI n)), (0, .ref 530)]) (st' := [.int (iI (31 * i + (i + n))), .int (iI (961 * ((4 * w3) + h))), .ref 554]) rfl ?_
                                      refine T_ziadd xr_175_206 (z := (961 * ((4 * w3) + h)) + (31 * i + (i + n))) rfl (pc' := 207) rfl ?_
                                      refine T_p xr_175_207 xn_175 (pc' := 208) (ls' := [(5, .int (iI h)), (4, .int (iI w3)), (3, .int (iI (31 * i + (i + n)))), (2, .int (iI i)), (1, .int (iI n)), (0, .ref 530)]) (st' := [.ref 530, .int (iI ((961 * ((4 * w3) + h)) + (31 * i + (i + n)))), .ref 554]) rfl ?_
                                      refine T_p xr_175_208 xn_175 (pc' := 210) (ls' := [(5, .int (iI h)), (4, .int (iI w3)), (3, .int (iI (31 * i + (i + n)))), (2, .int (iI i)), (1, .int (iI n)), (0, .ref 530)]) (st' := [.int (iI w3), .ref 530, .int (iI ((961 * ((4 * w3) + h)) + (31 * i + (i + n)))), .ref 554]) rfl ?_
                                      refine T_p xr_175_210 xn_175 (pc' := 212) (ls' := [(5, .int (iI h)), (4, .int (iI w3)), (3, .int (iI (31 * i + (i + n)))), (2, .int (iI i)), (1, .int (iI n)), (0, .ref 530)]) (st' := [.int (iI h), .int (iI w3), .ref 530, .int (iI ((961 * ((4 * w3) + h)) + (31 * i + (i + n)))), .ref 554]) rfl ?_
                                      refine T_p xr_175_212 xn_175 (pc' := 213) (ls' := [(5, .int (iI h)), (4, .int (iI w3)), (3, .int (iI (31 * i + (i + n)))), (2, .int (iI i)), (1, .int (iI n)), (0, .ref 530)]) (st' := [.int (iI i), .int (iI h), .int (iI w3), .ref 530, .int (iI ((961 * ((4 * w3) + h)) + (31 * i + (i + n)))), .ref 554]) rfl ?_
                                      refine T_p xr_175_213 xn_175 (pc' := 214) (ls' := [(5, .int (iI h)), (4, .int (iI w3)), (3, .int (iI (31 * i + (i + n)))), (2, .int (iI i)), (1, .int (iI n)), (0, .ref 530)]) (st' := [.int (iI i), .int (iI i), .int (iI h), .int (iI w3), .ref 530, .int (iI ((961 * ((4 * w3) + h)) + (31 * i + (i + n)))), .ref 554]) rfl ?_
                                      refine T_p xr_175_214 xn_175 (pc' := 215) (ls' := [(5, .int (iI h)), (4, .int (iI w3)), (3, .int (iI (31 * i + (i + n)))), (2, .int (iI i)), (1, .int (iI n)), (0, .ref 530)]) (st' := [.int (iI n), .int (iI i), .int (iI i), .int (iI h), .int (iI w3), .ref 530, .int (iI ((961 * ((4 * w3) + h)) + (31 * i + (i + n)))), .ref 554]) rfl ?_
                                      refine T_ziadd xr_175_215 (z := i + n) rfl (pc' := 216) rfl ?_
                                      refine T_cv (S := S865) (q := 530) xr_175_216 xf_181.1 xf_181.2.1 xn_181 (as := [.int (iI w3), .int (iI h), .int (iI i), .int (iI (i + n))]) (r := [.int (iI ((961 * ((4 * w3) + h)) + (31 * i + (i + n)))), .ref 554]) rfl h866 (Nat.le_of_ble_eq_true rfl) (Nat.le_of_ble_eq_true rfl) (pc' := 219) rfl (ls' := [(0, .ref 530), (1, .int (iI w3)), (2, .int (iI h)), (3, .int (iI i)), (4, .int (iI (i + n)))]) rfl ?_
                                      have h869 := (hF864.1 535 (by omega)).trans ((hF851.1 535 (by omega)).trans ((hF842.1 535 (by omega)).trans ((hF834.1 535 (by omega)).trans ((hF826.1 535 (by omega)).trans ((hF818.1 535 (by omega)).trans (hA535))))))
                                      have h870 := (hF864.1 536 (by omega)).trans ((hF851.1 536 (by omega)).trans ((hF842.1 536 (by omega)).trans ((hF834.1 536 (by omega)).trans ((hF826.1 536 (by omega)).trans ((hF818.1 536 (by omega)).trans (hA536))))))
                                      have h871 := (hF864.1 537 (by omega)).trans ((hF851.1 537 (by omega)).trans ((hF842.1 537 (by omega)).trans ((hF834.1 537 (by omega)).trans ((hF826.1 537 (by omega)).trans ((hF818.1 537 (by omega)).trans (hA537))))))
                                      have h872 := (hF864.1 538 (by omega)).trans ((hF851.1 538 (by omega)).trans ((hF842.1 538 (by omega)).trans ((hF834.1 538 (by omega)).trans ((hF826.1 538 (by omega)).trans ((hF818.1 538 (by omega)).trans (hA538))))))
                                      have h873 := (hF864.1 539 (by omega)).trans ((hF851.1 539 (by omega)).trans ((hF842.1 539 (by omega)).trans ((hF834.1 539 (by omega)).trans ((hF826.1 539 (by omega)).trans ((hF818.1 539 (by omega)).trans (hA539))))))
                                      have h874 := (hF864.1 540 (by omega)).trans ((hF851.1 540 (by omega)).trans ((hF842.1 540 (by omega)).trans ((hF834.1 540 (by omega)).trans ((hF826.1 540 (by omega)).trans ((hF818.1 540 (by omega)).trans (hA540))))))
                                      have h875 := (hF864.1 545 (by omega)).trans ((hF851.1 545 (by omega)).trans ((hF842.1 545 (by omega)).trans ((hF834.1 545 (by omega)).trans ((hF826.1 545 (by omega)).trans ((hF818.1 545 (by omega)).trans (hA545))))))
                                      have h876 := (hF864.1 547 (by omega)).trans ((hF851.1 547 (by omega)).trans ((hF842.1 547 (by omega)).trans ((hF834.1 547 (by omega)).trans ((hF826.1 547 (by omega)).trans ((hF818.1 547 (by omega)).trans (hA547))))))
                                      have h877 := (hF864.1 550 (by omega)).trans ((hF851.1 550 (by omega)).trans ((hF842.1 550 (by omega)).trans ((hF834.1 550 (by omega)).trans ((hF826.1 550 (by omega)).trans ((hF818.1 550 (by omega)).trans (hA550))))))
                                      have h878 := (hF864.1 552 (by omega)).trans ((hF851.1 552 (by omega)).trans ((hF842.1 552 (by omega)).trans (hoWc)))
                                      have h879 := (hF864.1 553 (by omega)).trans ((hF851.1 553 (by omega)).trans (hoKd))
                                      refine T_mono (r_holeWays sc S865 tg kU wR wL wK wM wH eP hK tU oWc oKd o nm b rc G tn w3 h i (i + n) h866 h869 h870 h871 h872 h873 h874 h867 h875 h876 h877 h878 h879 (by omega) hG (by omega) hTU hKU hTG hWR hWL hWK hWM hWH hEP hHK (by omega) (by omega) (by omega) (fun v g1 g2 => hKd v g1 (by omega)) (fun v g1 g2 => hWd v g1 (by omega))) (fun v880 S881 h882 => ?_)
                                      rcases h882 with ⟨hv883, hf884⟩
                                      rw [hv883]
                                      rw [hf884]
                                      show X_T sc 175 (219, [(5, .int (iI h)), (4, .int (iI w3)), (3, .int (iI (31 * i + (i + n)))), (2, .int (iI i)), (1, .int (iI n)), (0, .ref 530)], [.long (X_st (-1) (X_Hh G w3 h i (i + n))), .int (iI ((961 * ((4 * w3) + h)) + (31 * i + (i + n)))), .ref 554], S865) _
                                      refine T_zlast xr_175_219 hoHf (pc' := 220) rfl (fun S885 h886 n887 e888 => ?_)
                                      refine T_ziinc xr_175_220 xn_175 (a := h) (z := h + 1) rfl (Nat.le_of_ble_eq_true rfl) (by omega) (ls' := [(5, .int (iI (h + 1))), (4, .int (iI w3)), (3, .int (iI (31 * i + (i + n)))), (2, .int (iI i)), (1, .int (iI n)), (0, .ref 530)]) rfl (pc' := 223) rfl ?_
                                      refine T_p xr_175_223 xn_175 (pc' := 170) (ls' := [(5, .int (iI (h + 1))), (4, .int (iI w3)), (3, .int (iI (31 * i + (i + n)))), (2, .int (iI i)), (1, .int (iI n)), (0, .ref 530)]) (st' := []) rfl ?_
                                      exact ih861 S885 (h + 1) (X_ug oHf ((961 * ((4 * w3) + h)) + (31 * i + (i + n))) (X_st (-1) (X_Hh G w3 h i (i + n)))) h886 (hF864.tr ((X_Fr.rf).tr (X_Fr.of n887 e888 (by omega)))) (by omega) (fun i2 j2 h1 h2 h3 h4 => by
                                            obtain ⟨a1, a2, a3⟩ := hLf i2 j2 h1 h2 h3 h4
                                            exact ⟨a1, a2, fun v g1 g2 z g3 g4 => by rw [X_ug_n _ _ (X_ix_ne (by omega) (by omega) (by omega) (by omega) (by omega))]; exact a3 v g1 g2 z g3 g4⟩) (fun v h1 h2 z g1 g2 => by
                                            have := (hG.2.2.2 v h1 (by omega)).2.1
                                            rw [X_ug_n _ _ (by omega)]; exact hHf v h1 h2 z g1 g2) (fun z h1 h2 => by
                                            by_cases hz : z = h
                                            · rw [hz, X_ug_s]
                                            · rw [X_ug_n _ _ (by omega)]; exact hHg z h1 (by omega)) (by omega)
                                exact L860 ((gD G w3 4 0) + 1).toNat S853 0 oHe hoHe ((X_Fr.rf)) (by have := (hG.2.2.2 w3 (by omega) (by omega)).2.1; omega) hLe hHe (fun v h1 h2 => absurd h2 (by omega)) (by omega)
                          exact L847 ((gw G) + 1).toNat S844 0 oHb h852 ((X_Fr.rf)) (by omega) hLd (fun v h1 h2 => absurd h2 (by omega)) (by omega)
                        · skip
                          have c846 : ¬ ((gk G) ≤ k) := c846
                          refine T_p xr_175_83 xn_175 (pc' := 84) (ls' := [(4, .int (iI k)), (3, .int (iI (31 * i + (i + n)))), (2, .int (iI i)), (1, .int (iI n)), (0, .ref 530)]) (st' := [.ref 530]) rfl ?_
                          refine T_get xr_175_84 h845 rfl (v := .ref 553) rfl (pc' := 87) rfl ?_
                          refine T_p xr_175_87 xn_175 (pc' := 90) (ls' := [(4, .int (iI k)), (3, .int (iI (31 * i + (i + n)))), (2, .int (iI i)), (1, .int (iI n)), (0, .ref 530)]) (st' := [.int (iI 961), .ref 553]) rfl ?_
                          refine T_p xr_175_90 xn_175 (pc' := 92) (ls' := [(4, .int (iI k)), (3, .int (iI (31 * i + (i + n)))), (2, .int (iI i)), (1, .int (iI n)), (0, .ref 530)]) (st' := [.int (iI k), .int (iI 961), .ref 553]) rfl ?_
                          refine T_zimul xr_175_92 (z := 961 * k) rfl (pc' := 93) rfl ?_
                          refine T_p xr_175_93 xn_175 (pc' := 94) (ls' := [(4, .int (iI k)), (3, .int (iI (31 * i + (i + n)))), (2, .int (iI i)), (1, .int (iI n)), (0, .ref 530)]) (st' := [.int (iI (31 * i + (i + n))), .int (iI (961 * k)), .ref 553]) rfl ?_
                          refine T_ziadd xr_175_94 (z := (961 * k) + (31 * i + (i + n))) rfl (pc' := 95) rfl ?_
                          refine T_p xr_175_95 xn_175 (pc' := 96) (ls' := [(4, .int (iI k)), (3, .int (iI (31 * i + (i + n)))), (2, .int (iI i)), (1, .int (iI n)), (0, .ref 530)]) (st' := [.int (iI n), .int (iI ((961 * k) + (31 * i + (i + n)))), .ref 553]) rfl ?_
                          refine T_p xr_175_96 xn_175 (pc' := 97) (ls' := [(4, .int (iI k)), (3, .int (iI (31 * i + (i + n)))), (2, .int (iI i)), (1, .int (iI n)), (0, .ref 530)]) (st' := [.int (iI 2), .int (iI n), .int (iI ((961 * k) + (31 * i + (i + n)))), .ref 553]) rfl ?_
                          refine T_zicmp_le xr_175_97 (t := 147) (pc' := 100) rfl rfl (fun c889 => ?_) (fun c889 => ?_)
                          · skip
                            have c889 : n ≤ 2 := c889
                            refine T_p xr_175_147 xn_175 (pc' := 148) (ls' := [(4, .int (iI k)), (3, .int (iI (31 * i + (i + n)))), (2, .int (iI i)), (1, .int (iI n)), (0, .ref 530)]) (st' := [.long (iL 0), .int (iI ((961 * k) + (31 * i + (i + n)))), .ref 553]) rfl ?_
                            refine T_le (y := (X_st (-1) ((X_T_ G).2 k i (i + n)))) (by rw [X_T_B (show i < i + n by omega) (by omega), X_if_f (p := X_brk G i (i + n)) (fun z => by first | exact absurd z.1 (by omega) | exact absurd z.2.1 (by assumption) | exact absurd z.2.2 (by assumption))]; rfl) ?_
                            refine T_zlast xr_175_148 hoKd (pc' := 149) rfl (fun S890 h891 n892 e893 => ?_)
                            refine T_ziinc xr_175_149 xn_175 (a := k) (z := k + 1) rfl (Nat.le_of_ble_eq_true rfl) (by omega) (ls' := [(4, .int (iI (k + 1))), (3, .int (iI (31 * i + (i + n)))), (2, .int (iI i)), (1, .int (iI n)), (0, .ref 530)]) rfl (pc' := 152) rfl ?_
                            refine T_p xr_175_152 xn_175 (pc' := 74) (ls' := [(4, .int (iI (k + 1))), (3, .int (iI (31 * i + (i + n)))), (2, .int (iI i)), (1, .int (iI n)), (0, .ref 530)]) (st' := []) rfl ?_
                            exact ih839 S890 (k + 1) (X_ug oKd ((961 * k) + (31 * i + (i + n))) (X_st (-1) ((X_T_ G).2 k i (i + n)))) h891 (hF842.tr ((X_Fr.rf).tr (X_Fr.of n892 e893 (by omega)))) (by omega) (fun i2 j2 h1 h2 h3 h4 => by
                                  obtain ⟨a1, a2, a3⟩ := hLd i2 j2 h1 h2 h3 h4
                                  exact ⟨a1, fun v g1 g2 => by rw [X_ug_n _ _ (X_ix_ne (by omega) (by omega) (by omega) (by omega) (by omega))]; exact a2 v g1 g2, a3⟩) (fun v h1 h2 => by
                                  by_cases hv : v = k
                                  · rw [hv, X_ug_s]
                                  · rw [X_ug_n _ _ (by omega)]; exact hKd v h1 (by omega)) (by omega)
                          · skip
                            have c889 : ¬ (n ≤ 2) := c889
                            refine T_p xr_175_100 xn_175 (pc' := 101) (ls' := [(4, .int (iI k)), (3, .int (iI (31 * i + (i + n)))), (2, .int (iI i)), (1, .int (iI n)), (0, .ref 530)]) (st' := [.ref 530, .int (iI ((961 * k) + (31 * i + (i + n)))), .ref 553]) rfl ?_
                            refine T_get xr_175_101 h845 rfl (v := .ref 548) rfl (pc' := 104) rfl ?_
                            refine T_p xr_175_104 xn_175 (pc' := 105) (ls' := [(4, .int (iI k)), (3, .int (iI (31 * i + (i + n)))), (2, .int (iI i)), (1, .int (iI n)), (0, .ref 530)]) (st' := [.int (iI i), .ref 548, .int (iI ((961 * k) + (31 * i + (i + n)))), .ref 553]) rfl ?_
                            have h894 := (hF842.1 548 (by omega)).trans ((hF834.1 548 (by omega)).trans ((hF826.1 548 (by omega)).trans ((hF818.1 548 (by omega)).trans (hA548))))
                            refine T_zlald xr_175_105 h894 (pc' := 106) rfl ?_
                            refine T_le (y := (gt G i)) (hTT i (by omega) (by omega)) ?_
                            refine T_p xr_175_106 xn_175 (pc' := 109) (ls' := [(4, .int (iI k)), (3, .int (iI (31 * i + (i + n)))), (2, .int (iI i)), (1, .int (iI n)), (0, .ref 530)]) (st' := [.long (iL 40), .long (gt G i), .int (iI ((961 * k) + (31 * i + (i + n)))), .ref 553]) rfl ?_
                            refine T_lc_ne xr_175_109 xr_175_110 (t := 147) (pc' := 113) rfl rfl (fun c895 => ?_) (fun c895 => ?_)
                            · skip
                              have c895 : ¬ (gt G i) = (iL 40) := c895
                              refine T_p xr_175_147 xn_175 (pc' := 148) (ls' := [(4, .int (iI k)), (3, .int (iI (31 * i + (i + n)))), (2, .int (iI i)), (1, .int (iI n)), (0, .ref 530)]) (st' := [.long (iL 0), .int (iI ((961 * k) + (31 * i + (i + n)))), .ref 553]) rfl ?_
                              refine T_le (y := (X_st (-1) ((X_T_ G).2 k i (i + n)))) (by rw [X_T_B (show i < i + n by omega) (by omega), X_if_f (p := X_brk G i (i + n)) (fun z => by first | exact absurd z.1 (by omega) | exact absurd z.2.1 (by assumption) | exact absurd z.2.2 (by assumption))]; rfl) ?_
                              refine T_zlast xr_175_148 hoKd (pc' := 149) rfl (fun S896 h897 n898 e899 => ?_)
                              refine T_ziinc xr_175_149 xn_175 (a := k) (z := k + 1) rfl (Nat.le_of_ble_eq_true rfl) (by omega) (ls' := [(4, .int (iI (k + 1))), (3, .int (iI (31 * i + (i + n)))), (2, .int (iI i)), (1, .int (iI n)), (0, .ref 530)]) rfl (pc' := 152) rfl ?_
                              refine T_p xr_175_152 xn_175 (pc' := 74) (ls' := [(4, .int (iI (k + 1))), (3, .int (iI (31 * i + (i + n)))), (2, .int (iI i)), (1, .int (iI n)), (0, .ref 530)]) (st' := []) rfl ?_
                              exact ih839 S896 (k + 1) (X_ug oKd ((961 * k) + (31 * i + (i + n))) (X_st (-1) ((X_T_ G).2 k i (i + n)))) h897 (hF842.tr ((X_Fr.rf).tr (X_Fr.of n898 e899 (by omega)))) (by omega) (fun i2 j2 h1 h2 h3 h4 => by
                                    obtain ⟨a1, a2, a3⟩ := hLd i2 j2 h1 h2 h3 h4
                                    exact ⟨a1, fun v g1 g2 => by rw [X_ug_n _ _ (X_ix_ne (by omega) (by omega) (by omega) (by omega) (by omega))]; exact a2 v g1 g2, a3⟩) (fun v h1 h2 => by
                                    by_cases hv : v = k
                                    · rw [hv, X_ug_s]
                                    · rw [X_ug_n _ _ (by omega)]; exact hKd v h1 (by omega)) (by omega)
                            · skip
                              have c895 : ¬ (¬ (gt G i) = (iL 40)) := c895
                              refine T_p xr_175_113 xn_175 (pc' := 114) (ls' := [(4, .int (iI k)), (3, .int (iI (31 * i + (i + n)))), (2, .int (iI i)), (1, .int (iI n)), (0, .ref 530)]) (st' := [.ref 530, .int (iI ((961 * k) + (31 * i + (i + n)))), .ref 553]) rfl ?_
                              refine T_get xr_175_114 h845 rfl (v := .ref 548) rfl (pc' := 117) rfl ?_
                              refine T_p xr_175_117 xn_175 (pc' := 118) (ls' := [(4, .int (iI k)), (3, .int (iI (31 * i + (i + n)))), (2, .int (iI i)), (1, .int (iI n)), (0, .ref 530)]) (st' := [.int (iI i), .ref 548, .int (iI ((961 * k) + (31 * i + (i + n)))), .ref 553]) rfl ?_
                              refine T_p xr_175_118 xn_175 (pc' := 119) (ls' := [(4, .int (iI k)), (3, .int (iI (31 * i + (i + n)))), (2, .int (iI i)), (1, .int (iI n)), (0, .ref 530)]) (st' := [.int (iI n), .int (iI i), .ref 548, .int (iI ((961 * k) + (31 * i + (i + n)))), .ref 553]) rfl ?_
                              refine T_ziadd xr_175_119 (z := i + n) rfl (pc' := 120) rfl ?_
                              refine T_p xr_175_120 xn_175 (pc' := 121) (ls' := [(4, .int (iI k)), (3, .int (iI (31 * i + (i + n)))), (2, .int (iI i)), (1, .int (iI n)), (0, .ref 530)]) (st' := [.int (iI 1), .int (iI (i + n)), .ref 548, .int (iI ((961 * k) + (31 * i + (i + n)))), .ref 553]) rfl ?_
                              refine T_zisub xr_175_121 (z := (i + n) - 1) rfl (pc' := 122) rfl ?_
                              refine T_zlald xr_175_122 h894 (pc' := 123) rfl ?_
                              refine T_le (y := (gt G (i + n - 1))) (hTT (i + n - 1) (by omega) (by omega)) ?_
                              refine T_p xr_175_123 xn_175 (pc' := 126) (ls' := [(4, .int (iI k)), (3, .int (iI (31 * i + (i + n)))), (2, .int (iI i)), (1, .int (iI n)), (0, .ref 530)]) (st' := [.long (iL 41), .long (gt G (i + n - 1)), .int (iI ((961 * k) + (31 * i + (i + n)))), .ref 553]) rfl ?_
                              refine T_lc_ne xr_175_126 xr_175_127 (t := 147) (pc' := 130) rfl rfl (fun c900 => ?_) (fun c900 => ?_)
                              · skip
                                have c900 : ¬ (gt G (i + n - 1)) = (iL 41) := c900
                                refine T_p xr_175_147 xn_175 (pc' := 148) (ls' := [(4, .int (iI k)), (3, .int (iI (31 * i + (i + n)))), (2, .int (iI i)), (1, .int (iI n)), (0, .ref 530)]) (st' := [.long (iL 0), .int (iI ((961 * k) + (31 * i + (i + n)))), .ref 553]) rfl ?_
                                refine T_le (y := (X_st (-1) ((X_T_ G).2 k i (i + n)))) (by rw [X_T_B (show i < i + n by omega) (by omega), X_if_f (p := X_brk G i (i + n)) (fun z => by first | exact absurd z.1 (by omega) | exact absurd z.2.1 (by assumption) | exact absurd z.2.2 (by assumption))]; rfl) ?_
                                refine T_zlast xr_175_148 hoKd (pc' := 149) rfl (fun S901 h902 n903 e904 => ?_)
                                refine T_ziinc xr_175_149 xn_175 (a := k) (z := k + 1) rfl (Nat.le_of_ble_eq_true rfl) (by omega) (ls' := [(4, .int (iI (k + 1))), (3, .int (iI (31 * i + (i + n)))), (2, .int (iI i)), (1, .int (iI n)), (0, .ref 530)]) rfl (pc' := 152) rfl ?_
                                refine T_p xr_175_152 xn_175 (pc' := 74) (ls' := [(4, .int (iI (k + 1))), (3, .int (iI (31 * i + (i + n)))), (2, .int (iI i)), (1, .int (iI n)), (0, .ref 530)]) (st' := []) rfl ?_
                                exact ih839 S901 (k + 1) (X_ug oKd ((961 * k) + (31 * i + (i + n))) (X_st (-1) ((X_T_ G).2 k i (i + n)))) h902 (hF842.tr ((X_Fr.rf).tr (X_Fr.of n903 e904 (by omega)))) (by omega) (fun i2 j2 h1 h2 h3 h4 => by
                                      obtain ⟨a1, a2, a3⟩ := hLd i2 j2 h1 h2 h3 h4
                                      exact ⟨a1, fun v g1 g2 => by rw [X_ug_n _ _ (X_ix_ne (by omega) (by omega) (by omega) (by omega) (by omega))]; exact a2 v g1 g2, a3⟩) (fun v h1 h2 => by
                                      by_cases hv : v = k
                                      · rw [hv, X_ug_s]
                                      · rw [X_ug_n _ _ (by omega)]; exact hKd v h1 (by omega)) (by omega)
                              · skip
                                have c900 : ¬ (¬ (gt G (i + n - 1)) = (iL 41)) := c900
                                refine T_p xr_175_130 xn_175 (pc' := 131) (ls' := [(4, .int (iI k)), (3, .int (iI (31 * i + (i + n)))), (2, .int (iI i)), (1, .int (iI n)), (0, .ref 530)]) (st' := [.ref 530, .int (iI ((961 * k) + (31 * i + (i + n)))), .ref 553]) rfl ?_
                                refine T_p xr_175_131 xn_175 (pc' := 133) (ls' := [(4, .int (iI k)), (3, .int (iI (31 * i + (i + n)))), (2, .int (iI i)), (1, .int (iI n)), (0, .ref 530)]) (st' := [.int (iI k), .ref 530, .int (iI ((961 * k) + (31 * i + (i + n)))), .ref 553]) rfl ?_
                                refine T_p xr_175_133 xn_175 (pc' := 134) (ls' := [(4, .int (iI k)), (3, .int (iI (31 * i + (i + n)))), (2, .int (iI i)), (1, .int (iI n)), (0, .ref 530)]) (st' := [.int (iI i), .int (iI k), .ref 530, .int (iI ((961 * k) + (31 * i + (i + n)))), .ref 553]) rfl ?_
                                refine T_p xr_175_134 xn_175 (pc' := 135) (ls' := [(4, .int (iI k)), (3, .int (iI (31 * i + (i + n)))), (2, .int (iI i)), (1, .int (iI n)), (0, .ref 530)]) (st' := [.int (iI 1), .int (iI i), .int (iI k), .ref 530, .int (iI ((961 * k) + (31 * i + (i + n)))), .ref 553]) rfl ?_
                                refine T_ziadd xr_175_135 (z := i + 1) rfl (pc' := 136) rfl ?_
                                refine T_p xr_175_136 xn_175 (pc' := 137) (ls' := [(4, .int (iI k)), (3, .int (iI (31 * i + (i + n)))), (2, .int (iI i)), (1, .int (iI n)), (0, .ref 530)]) (st' := [.int (iI i), .int (iI (i + 1)), .int (iI k), .ref 530, .int (iI ((961 * k) + (31 * i + (i + n)))), .ref 553]) rfl ?_
                                refine T_p xr_175_137 xn_175 (pc' := 138) (ls' := [(4, .int (iI k)), (3, .int (iI (31 * i + (i + n)))), (2, .int (iI i)), (1, .int (iI n)), (0, .ref 530)]) (st' := [.int (iI n), .int (iI i), .int (iI (i + 1)), .int (iI k), .ref 530, .int (iI ((961 * k) + (31 * i + (i + n)))), .ref 553]) rfl ?_
                                refine T_ziadd xr_175_138 (z := i + n) rfl (pc' := 139) rfl ?_
                                refine T_p xr_175_139 xn_175 (pc' := 140) (ls' := [(4, .int (iI k)), (3, .int (iI (31 * i + (i + n)))), (2, .int (iI i)), (1, .int (iI n)), (0, .ref 530)]) (st' := [.int (iI 1), .int (iI (i + n)), .int (iI (i + 1)), .int (iI k), .ref 530, .int (iI ((961 * k) + (31 * i + (i + n)))), .ref 553]) rfl ?_
                                refine T_zisub xr_175_140 (z := (i + n) - 1) rfl (pc' := 141) rfl ?_
                                refine T_cv (S := S844) (q := 530) xr_175_141 xf_177.1 xf_177.2.1 xn_177 (as := [.int (iI k), .int (iI (i + 1)), .int (iI ((i + n) - 1))]) (r := [.int (iI ((961 * k) + (31 * i + (i + n)))), .ref 553]) rfl h845 (Nat.le_of_ble_eq_true rfl) (Nat.le_of_ble_eq_true rfl) (pc' := 144) rfl (ls' := [(0, .ref 530), (1, .int (iI k)), (2, .int (iI (i + 1))), (3, .int (iI ((i + n) - 1)))]) rfl ?_
                                have h905 := (hF842.1 539 (by omega)).trans ((hF834.1 539 (by omega)).trans ((hF826.1 539 (by omega)).trans ((hF818.1 539 (by omega)).trans (hA539))))
                                have h906 := (hF842.1 550 (by omega)).trans ((hF834.1 550 (by omega)).trans ((hF826.1 550 (by omega)).trans ((hF818.1 550 (by omega)).trans (hA550))))
                                have h907 := (hF842.1 552 (by omega)).trans (hoWc)
                                refine T_mono (r_kindWays sc S844 wK tU oWc oKd o nm b rc G tn k (i + 1) ((i + n) - 1) h845 h905 h906 h907 hoKd (by omega) hG (by omega) hTU hWK (by omega) (by omega) ((hLd (i + 1) (i + n - 1) (by omega) (by omega) (by omega) (by omega)).2.1 k (by omega) (by omega)) (hLd (i + 1) (i + n - 1) (by omega) (by omega) (by omega) (by omega)).1) (fun v908 S909 h910 => ?_)
                                rcases h910 with ⟨hv911, hf912⟩
                                rw [hv911]
                                rw [hf912]
                                show X_T sc 175 (144, [(4, .int (iI k)), (3, .int (iI (31 * i + (i + n)))), (2, .int (iI i)), (1, .int (iI n)), (0, .ref 530)], [.long (X_st (-1) (X_Kd G (X_T_ G) k (i + 1) ((i + n) - 1))), .int (iI ((961 * k) + (31 * i + (i + n)))), .ref 553], S844) _
                                refine T_p xr_175_144 xn_175 (pc' := 148) (ls' := [(4, .int (iI k)), (3, .int (iI (31 * i + (i + n)))), (2, .int (iI i)), (1, .int (iI n)), (0, .ref 530)]) (st' := [.long (X_st (-1) (X_Kd G (X_T_ G) k (i + 1) ((i + n) - 1))), .int (iI ((961 * k) + (31 * i + (i + n)))), .ref 553]) rfl ?_
                                refine T_le (y := (X_st (-1) ((X_T_ G).2 k i (i + n)))) (by rw [X_T_B (show i < i + n by omega) (by omega), X_if_t (p := X_brk G i (i + n)) ⟨by omega, (by first | assumption | exact Classical.not_not.mp (by assumption)), (by first | assumption | exact Classical.not_not.mp (by assumption))⟩]) ?_
                                refine T_zlast xr_175_148 hoKd (pc' := 149) rfl (fun S913 h914 n915 e916 => ?_)
                                refine T_ziinc xr_175_149 xn_175 (a := k) (z := k + 1) rfl (Nat.le_of_ble_eq_true rfl) (by omega) (ls' := [(4, .int (iI (k + 1))), (3, .int (iI (31 * i + (i + n)))), (2, .int (iI i)), (1, .int (iI n)), (0, .ref 530)]) rfl (pc' := 152) rfl ?_
                                refine T_p xr_175_152 xn_175 (pc' := 74) (ls' := [(4, .int (iI (k + 1))), (3, .int (iI (31 * i + (i + n)))), (2, .int (iI i)), (1, .int (iI n)), (0, .ref 530)]) (st' := []) rfl ?_
                                exact ih839 S913 (k + 1) (X_ug oKd ((961 * k) + (31 * i + (i + n))) (X_st (-1) ((X_T_ G).2 k i (i + n)))) h914 (hF842.tr ((X_Fr.rf).tr (X_Fr.of n915 e916 (by omega)))) (by omega) (fun i2 j2 h1 h2 h3 h4 => by
                                      obtain ⟨a1, a2, a3⟩ := hLd i2 j2 h1 h2 h3 h4
                                      exact ⟨a1, fun v g1 g2 => by rw [X_ug_n _ _ (X_ix_ne (by omega) (by omega) (by omega) (by omega) (by omega))]; exact a2 v g1 g2, a3⟩) (fun v h1 h2 => by
                                      by_cases hv : v = k
                                      · rw [hv, X_ug_s]
                                      · rw [X_ug_n _ _ (by omega)]; exact hKd v h1 (by omega)) (by omega)
                    exact L838 ((gk G) + 1).toNat S835 0 oKb h843 ((X_Fr.rf)) (by omega) hLc (fun v h1 h2 => absurd h2 (by omega)) (by omega)
                  · skip
                    have c837 : ¬ ((gw G) ≤ w) := c837
                    refine T_p xr_175_42 xn_175 (pc' := 43) (ls' := [(4, .int (iI w)), (3, .int (iI (31 * i + (i + n)))), (2, .int (iI i)), (1, .int (iI n)), (0, .ref 530)]) (st' := [.ref 530]) rfl ?_
                    refine T_get xr_175_43 h836 rfl (v := .ref 552) rfl (pc' := 46) rfl ?_
                    refine T_p xr_175_46 xn_175 (pc' := 49) (ls' := [(4, .int (iI w)), (3, .int (iI (31 * i + (i + n)))), (2, .int (iI i)), (1, .int (iI n)), (0, .ref 530)]) (st' := [.int (iI 961), .ref 552]) rfl ?_
                    refine T_p xr_175_49 xn_175 (pc' := 51) (ls' := [(4, .int (iI w)), (3, .int (iI (31 * i + (i + n)))), (2, .int (iI i)), (1, .int (iI n)), (0, .ref 530)]) (st' := [.int (iI w), .int (iI 961), .ref 552]) rfl ?_
                    refine T_zimul xr_175_51 (z := 961 * w) rfl (pc' := 52) rfl ?_
                    refine T_p xr_175_52 xn_175 (pc' := 53) (ls' := [(4, .int (iI w)), (3, .int (iI (31 * i + (i + n)))), (2, .int (iI i)), (1, .int (iI n)), (0, .ref 530)]) (st' := [.int (iI (31 * i + (i + n))), .int (iI (961 * w)), .ref 552]) rfl ?_
                    refine T_ziadd xr_175_53 (z := (961 * w) + (31 * i + (i + n))) rfl (pc' := 54) rfl ?_
                    refine T_p xr_175_54 xn_175 (pc' := 55) (ls' := [(4, .int (iI w)), (3, .int (iI (31 * i + (i + n)))), (2, .int (iI i)), (1, .int (iI n)), (0, .ref 530)]) (st' := [.ref 530, .int (iI ((961 * w) + (31 * i + (i + n)))), .ref 552]) rfl ?_
                    refine T_p xr_175_55 xn_175 (pc' := 57) (ls' := [(4, .int (iI w)), (3, .int (iI (31 * i + (i + n)))), (2, .int (iI i)), (1, .int (iI n)), (0, .ref 530)]) (st' := [.int (iI w), .ref 530, .int (iI ((961 * w) + (31 * i + (i + n)))), .ref 552]) rfl ?_
                    refine T_p xr_175_57 xn_175 (pc' := 58) (ls' := [(4, .int (iI w)), (3, .int (iI (31 * i + (i + n)))), (2, .int (iI i)), (1, .int (iI n)), (0, .ref 530)]) (st' := [.int (iI i), .int (iI w), .ref 530, .int (iI ((961 * w) + (31 * i + (i + n)))), .ref 552]) rfl ?_
                    refine T_p xr_175_58 xn_175 (pc' := 59) (ls' := [(4, .int (iI w)), (3, .int (iI (31 * i + (i + n)))), (2, .int (iI i)), (1, .int (iI n)), (0, .ref 530)]) (st' := [.int (iI i), .int (iI i), .int (iI w), .ref 530, .int (iI ((961 * w) + (31 * i + (i + n)))), .ref 552]) rfl ?_
                    refine T_p xr_175_59 xn_175 (pc' := 60) (ls' := [(4, .int (iI w)), (3, .int (iI (31 * i + (i + n)))), (2, .int (iI i)), (1, .int (iI n)), (0, .ref 530)]) (st' := [.int (iI n), .int (iI i), .int (iI i), .int (iI w), .ref 530, .int (iI ((961 * w) + (31 * i + (i + n)))), .ref 552]) rfl ?_
                    refine T_ziadd xr_175_60 (z := i + n) rfl (pc' := 61) rfl ?_
                    refine T_cv (S := S835) (q := 530) xr_175_61 xf_178.1 xf_178.2.1 xn_178 (as := [.int (iI w), .int (iI i), .int (iI (i + n))]) (r := [.int (iI ((961 * w) + (31 * i + (i + n)))), .ref 552]) rfl h836 (Nat.le_of_ble_eq_true rfl) (Nat.le_of_ble_eq_true rfl) (pc' := 64) rfl (ls' := [(0, .ref 530), (1, .int (iI w)), (2, .int (iI i)), (3, .int (iI (i + n)))]) rfl ?_
                    have h917 := (hF834.1 540 (by omega)).trans ((hF826.1 540 (by omega)).trans ((hF818.1 540 (by omega)).trans (hA540)))
                    have h918 := (hF834.1 545 (by omega)).trans ((hF826.1 545 (by omega)).trans ((hF818.1 545 (by omega)).trans (hA545)))
                    have h919 := (hF834.1 546 (by omega)).trans ((hF826.1 546 (by omega)).trans ((hF818.1 546 (by omega)).trans (hA546)))
                    have h920 := (hF834.1 548 (by omega)).trans ((hF826.1 548 (by omega)).trans ((hF818.1 548 (by omega)).trans (hA548)))
                    have h921 := (hF834.1 554 (by omega)).trans (hoHb)
                    refine T_mono (r_wordWays sc S835 wM eP eH tT oHb r1c r2c o nm b rc G tn w i (i + n) h836 h917 h918 h919 h920 h921 hr1c hr2c (by omega) hG (by omega) hTT hWM hEP hEH (by omega) (by omega) (fun e g1 g2 g3 p q h1 h2 h3 h4 => by
                            have hh := (hG.2.2.2 w (by omega) (by omega)).hole g1 g2 g3
                            have hr := (hLc p q (by omega) h2 (by omega) (by omega)).2.2 w (by omega) (by omega) (gD G w 8 e) hh.1 hh.2
                            rw [hr, X_Hw_h (hG.2.2.2 w (by omega) (by omega)) g1 g2 g3])) (fun v922 S923 h924 => ?_)
                    rcases h924 with ⟨rx925, rx926, hv927, ha928, ha929, hf930⟩
                    rw [hv927]
                    show X_T sc 175 (64, [(4, .int (iI w)), (3, .int (iI (31 * i + (i + n)))), (2, .int (iI i)), (1, .int (iI n)), (0, .ref 530)], [.long (X_st (-1) ((X_T_ G).1 w i (i + n))), .int (iI ((961 * w) + (31 * i + (i + n)))), .ref 552], S923) _
                    have h931 := (hf930.1 552 (by omega)).trans (hoWc)
                    refine T_zlast xr_175_64 h931 (pc' := 65) rfl (fun S932 h933 n934 e935 => ?_)
                    refine T_ziinc xr_175_65 xn_175 (a := w) (z := w + 1) rfl (Nat.le_of_ble_eq_true rfl) (by omega) (ls' := [(4, .int (iI (w + 1))), (3, .int (iI (31 * i + (i + n)))), (2, .int (iI i)), (1, .int (iI n)), (0, .ref 530)]) rfl (pc' := 68) rfl ?_
                    refine T_p xr_175_68 xn_175 (pc' := 33) (ls' := [(4, .int (iI (w + 1))), (3, .int (iI (31 * i + (i + n)))), (2, .int (iI i)), (1, .int (iI n)), (0, .ref 530)]) (st' := []) rfl ?_
                    have h936 := (n934 555 (by decide)).trans (ha928)
                    have h937 := (n934 556 (by decide)).trans (ha929)
                    exact ih831 S932 (w + 1) (X_ug oWc ((961 * w) + (31 * i + (i + n))) (X_st (-1) ((X_T_ G).1 w i (i + n)))) rx925 rx926 h933 h936 h937 (hF834.tr (((X_Fr.rf).tr (X_Fr.mono ⟨hf930.1, hf930.2⟩ (fun q hq => (by omega)))).tr (X_Fr.of n934 e935 (by omega)))) (by omega) (fun i2 j2 h1 h2 h3 h4 => by
                          obtain ⟨a1, a2, a3⟩ := hLc i2 j2 h1 h2 h3 h4
                          exact ⟨fun v g1 g2 => by rw [X_ug_n _ _ (X_ix_ne (by omega) (by omega) (by omega) (by omega) (by omega))]; exact a1 v g1 g2, a2, a3⟩) (fun v h1 h2 => by
                          by_cases hv : v = w
                          · rw [hv, X_ug_s]
                          · rw [X_ug_n _ _ (by omega)]; exact hWd v h1 (by omega)) (by omega)
              exact L830 ((gw G) + 1).toNat S827 0 oWb r1b r2b hoWb hr1b hr2b ((X_Fr.rf)) (by omega) hLb (fun v h1 h2 => absurd h2 (by omega)) (by omega)
        exact L822 ((tn + 1) + 1).toNat S819 0 oWa oKa oHa r1a r2a hoWa hoKa hoHa hr1a hr2a ((X_Fr.rf)) (by omega) (fun i2 j2 h1 h2 h3 h4 => hLa i2 j2 h1 h2 h3 (by omega)) (by omega)
  exact L814 ((tn + 1) + 1).toNat S 1 oW oK oH r1 r2 hA552 hA553 hA554 hA555 hA556 ((X_Fr.rf)) (by omega) (fun i2 j2 h1 h2 h3 h4 => absurd h4 (by omega)) (by omega)
theorem r_count (sc : X_Sc) (S : X_S) (wK : Int → Int) (tU : Int → Int) (oW : Int → Int64) (oK : Int → Int64) (oH : Int → Int64) (o : Nat → Int) (nm : Int64) (b : Int) (rc : Int) (G : X_G) (tn : Int) (i : Int) (j : Int) (hO530 : S.1 530 = .inr (11, [.ref 531, .int (iI (o 1)), .ref 532, .int (iI (o 3)), .int (iI b), .int (iI (o 5)), .int (iI (o 6)), .int (iI (o 7)), .int (iI (o 8)), .int (iI (o 9)), .int (iI (o 10)), .int (iI (o 11)), .long nm, .ref 533, .ref 534, .ref 535, .ref 536, .ref 537, .ref 538, .ref 539, .ref 540, .ref 541, .ref 542, .ref 543, .ref 544, .ref 545, .ref 546, .ref 547, .int (iI rc), .int (iI (gk G)), .int (iI (gw G)), .int (iI (o 31)), .int (iI (o 32)), .int (iI (o 33)), .ref 548, .ref 549, .ref 550, .ref 551, .int (iI tn), .ref 552, .ref 553, .ref 554, .ref 555, .ref 556, .ref 557, .ref 558, .ref 559, .ref 560, .ref 561, .int (iI (o 49)), .ref 562, .ref 563, .ref 564, .ref 565, .ref 566, .ref 567, .ref 568, .ref 569, .int (iI (o 58)), .ref 570, .ref 571, .ref 572, .ref 573, .ref 574, .ref 575, .ref 576, .ref 577, .ref 578, .int (iI (o 68)), .int (iI (o 69)), .int (iI (o 70)), .ref 579])) (hA539 : S.1 539 = .inl (.int, 60, .inl fun k : Nat => iI (wK (k : Int)))) (hA550 : S.1 550 = .inl (.int, 30, .inl fun k : Nat => iI (tU (k : Int)))) (hA552 : S.1 552 = .inl (.long, 28830, .inr (.inl fun k : Nat => oW (k : Int)))) (hA553 : S.1 553 = .inl (.long, 10571, .inr (.inl fun k : Nat => oK (k : Int)))) (hA554 : S.1 554 = .inl (.long, 115320, .inr (.inl fun k : Nat => oH (k : Int)))) (hbr : 0 ≤ b ∧ b ≤ 1) (hG : X_Gok G) (htn : 0 ≤ tn ∧ tn ≤ 30) (hTU : ∀ t, 0 ≤ t → t < tn → tU t = X_nv (gt G t)) (hWK : ∀ w, 0 ≤ w → w < gw G → wK (30 * b + w) = gD G w 2 0) (hCt : R_ct G tn oW oK oH) (hi : -2147483648 ≤ i ∧ i ≤ 2147483647) (hj : -2147483648 ≤ j ∧ j ≤ 2147483647) : X_T sc 183 (0, [(0, .ref 530), (1, .int (iI i)), (2, .int (iI j))], [], S) (fun v S' => v = some (.long (X_qCt G tn i j)) ∧ S' = S) := by
  refine X_QI (fun Q hQ => ?_)
  refine T_p xr_183_0 xn_183 (pc' := 1) (ls' := [(0, .ref 530), (1, .int (iI i)), (2, .int (iI j))]) (st' := [.int (iI i)]) rfl ?_
  refine T_zif_lt xr_183_1 (t := 17) (pc' := 4) rfl rfl (fun c938 => ?_) (fun c938 => ?_)
  · skip
    have c938 : i < 0 := c938
    refine T_p xr_183_17 xn_183 (pc' := 18) (ls' := [(0, .ref 530), (1, .int (iI i)), (2, .int (iI j))]) (st' := [.long (iL 0)]) rfl ?_
    refine T_lret xr_183_18 xf_183.2.2 rfl ?_
    refine hQ _ _ ?_
    exact ⟨(by rw [show X_qCt G tn i j = iL 0 from by unfold X_qCt; rw [if_neg (by omega)]]), rfl⟩
  · skip
    have c938 : ¬ (i < 0) := c938
    refine T_p xr_183_4 xn_183 (pc' := 5) (ls' := [(0, .ref 530), (1, .int (iI i)), (2, .int (iI j))]) (st' := [.int (iI j)]) rfl ?_
    refine T_p xr_183_5 xn_183 (pc' := 6) (ls' := [(0, .ref 530), (1, .int (iI i)), (2, .int (iI j))]) (st' := [.ref 530, .int (iI j)]) rfl ?_
    refine T_get xr_183_6 hO530 rfl (v := .int (iI tn)) rfl (pc' := 9) rfl ?_
    refine T_zicmp_gt xr_183_9 (t := 17) (pc' := 12) rfl rfl (fun c939 => ?_) (fun c939 => ?_)
    · skip
      have c939 : tn < j := c939
      refine T_p xr_183_17 xn_183 (pc' := 18) (ls' := [(0, .ref 530), (1, .int (iI i)), (2, .int (iI j))]) (st' := [.long (iL 0)]) rfl ?_
      refine T_lret xr_183_18 xf_183.2.2 rfl ?_
      refine hQ _ _ ?_
      exact ⟨(by rw [show X_qCt G tn i j = iL 0 from by unfold X_qCt; rw [if_neg (by omega)]]), rfl⟩
    · skip
      have c939 : ¬ (tn < j) := c939
      refine T_p xr_183_12 xn_183 (pc' := 13) (ls' := [(0, .ref 530), (1, .int (iI i)), (2, .int (iI j))]) (st' := [.int (iI i)]) rfl ?_
      refine T_p xr_183_13 xn_183 (pc' := 14) (ls' := [(0, .ref 530), (1, .int (iI i)), (2, .int (iI j))]) (st' := [.int (iI j), .int (iI i)]) rfl ?_
      refine T_zicmp_lt xr_183_14 (t := 19) (pc' := 17) rfl rfl (fun c940 => ?_) (fun c940 => ?_)
      · skip
        have c940 : i < j := c940
        refine T_p xr_183_19 xn_183 (pc' := 20) (ls' := [(0, .ref 530), (1, .int (iI i)), (2, .int (iI j))]) (st' := [.ref 530]) rfl ?_
        refine T_p xr_183_20 xn_183 (pc' := 21) (ls' := [(0, .ref 530), (1, .int (iI i)), (2, .int (iI j))]) (st' := [.int (iI i), .ref 530]) rfl ?_
        refine T_p xr_183_21 xn_183 (pc' := 22) (ls' := [(0, .ref 530), (1, .int (iI i)), (2, .int (iI j))]) (st' := [.int (iI j), .int (iI i), .ref 530]) rfl ?_
        refine T_cv (S := S) (q := 530) xr_183_22 xf_182.1 xf_182.2.1 xn_182 (as := [.int (iI i), .int (iI j)]) (r := []) rfl hO530 (Nat.le_of_ble_eq_true rfl) (Nat.le_of_ble_eq_true rfl) (pc' := 25) rfl (ls' := [(0, .ref 530), (1, .int (iI i)), (2, .int (iI j))]) rfl ?_
        refine T_mono (r_allWays sc S wK tU oW oK o nm b rc G tn i j hO530 hA539 hA550 hA552 hA553 (by omega) hG (by omega) hTU hWK (by omega) (hCt i j (by omega) (by omega) (by omega)).2.1 (hCt i j (by omega) (by omega) (by omega)).1) (fun v941 S942 h943 => ?_)
        rcases h943 with ⟨hv944, hf945⟩
        rw [hv944]
        rw [hf945]
        show X_T sc 183 (25, [(0, .ref 530), (1, .int (iI i)), (2, .int (iI j))], [.long (X_st (-1) (X_all G i j))], S) _
        refine T_p xr_183_25 xn_183 (pc' := 26) (ls' := [(3, .long (X_st (-1) (X_all G i j))), (0, .ref 530), (1, .int (iI i)), (2, .int (iI j))]) (st' := []) rfl ?_
        refine T_p xr_183_26 xn_183 (pc' := 27) (ls' := [(3, .long (X_st (-1) (X_all G i j))), (0, .ref 530), (1, .int (iI i)), (2, .int (iI j))]) (st' := [.long (X_st (-1) (X_all G i j))]) rfl ?_
        refine T_p xr_183_27 xn_183 (pc' := 28) (ls' := [(3, .long (X_st (-1) (X_all G i j))), (0, .ref 530), (1, .int (iI i)), (2, .int (iI j))]) (st' := [.long (iL 0), .long (X_st (-1) (X_all G i j))]) rfl ?_
        refine T_lc_ge xr_183_28 xr_183_29 (t := 38) (pc' := 32) rfl rfl (fun c946 => ?_) (fun c946 => ?_)
        · skip
          have c946 : (iL 0) ≤ (X_st (-1) (X_all G i j)) := c946
          refine T_p xr_183_38 xn_183 (pc' := 39) (ls' := [(3, .long (X_st (-1) (X_all G i j))), (0, .ref 530), (1, .int (iI i)), (2, .int (iI j))]) (st' := [.long (X_st (-1) (X_all G i j))]) rfl ?_
          refine T_lret xr_183_39 xf_183.2.2 rfl ?_
          refine hQ _ _ ?_
          exact ⟨(by rw [show X_qCt G tn i j = X_st (-2) (X_all G i j) from by unfold X_qCt; rw [if_pos (by omega)]]; rw [X_st_lo (m := -1) (a := X_all G i j) (Nat.le_of_not_lt (fun z => absurd ((X_st_n (m := -1) (by omega)).mpr z) (by first | assumption | exact Int64.not_lt.mpr (by assumption)))), X_st_lo (m := -2) (a := X_all G i j) (Nat.le_of_not_lt (fun z => absurd ((X_st_n (m := -1) (by omega)).mpr z) (by first | assumption | exact Int64.not_lt.mpr (by assumption))))]), rfl⟩
        · skip
          have c946 : ¬ ((iL 0) ≤ (X_st (-1) (X_all G i j))) := c946
          refine T_p xr_183_32 xn_183 (pc' := 35) (ls' := [(3, .long (X_st (-1) (X_all G i j))), (0, .ref 530), (1, .int (iI i)), (2, .int (iI j))]) (st' := [.long (iL (-2))]) rfl ?_
          refine T_p xr_183_35 xn_183 (pc' := 39) (ls' := [(3, .long (X_st (-1) (X_all G i j))), (0, .ref 530), (1, .int (iI i)), (2, .int (iI j))]) (st' := [.long (iL (-2))]) rfl ?_
          refine T_lret xr_183_39 xf_183.2.2 rfl ?_
          refine hQ _ _ ?_
          exact ⟨(by rw [show X_qCt G tn i j = X_st (-2) (X_all G i j) from by unfold X_qCt; rw [if_pos (by omega)]]; rw [X_st_hi (m := -2) ((X_st_n (m := -1) (by omega)).mp (by first | assumption | exact Int64.not_le.mp (by assumption)))]), rfl⟩
      · skip
        have c940 : ¬ (i < j) := c940
        refine T_p xr_183_17 xn_183 (pc' := 18) (ls' := [(0, .ref 530), (1, .int (iI i)), (2, .int (iI j))]) (st' := [.long (iL 0)]) rfl ?_
        refine T_lret xr_183_18 xf_183.2.2 rfl ?_
        refine hQ _ _ ?_
        exact ⟨(by rw [show X_qCt G tn i j = iL 0 from by unfold X_qCt; rw [if_neg (by omega)]]), rfl⟩
theorem r_quarrel (sc : X_Sc) (S : X_S) (wK : Int → Int) (tU : Int → Int) (oW : Int → Int64) (oK : Int → Int64) (oH : Int → Int64) (o : Nat → Int) (nm : Int64) (b : Int) (rc : Int) (G : X_G) (tn : Int) (hO530 : S.1 530 = .inr (11, [.ref 531, .int (iI (o 1)), .ref 532, .int (iI (o 3)), .int (iI b), .int (iI (o 5)), .int (iI (o 6)), .int (iI (o 7)), .int (iI (o 8)), .int (iI (o 9)), .int (iI (o 10)), .int (iI (o 11)), .long nm, .ref 533, .ref 534, .ref 535, .ref 536, .ref 537, .ref 538, .ref 539, .ref 540, .ref 541, .ref 542, .ref 543, .ref 544, .ref 545, .ref 546, .ref 547, .int (iI rc), .int (iI (gk G)), .int (iI (gw G)), .int (iI (o 31)), .int (iI (o 32)), .int (iI (o 33)), .ref 548, .ref 549, .ref 550, .ref 551, .int (iI tn), .ref 552, .ref 553, .ref 554, .ref 555, .ref 556, .ref 557, .ref 558, .ref 559, .ref 560, .ref 561, .int (iI (o 49)), .ref 562, .ref 563, .ref 564, .ref 565, .ref 566, .ref 567, .ref 568, .ref 569, .int (iI (o 58)), .ref 570, .ref 571, .ref 572, .ref 573, .ref 574, .ref 575, .ref 576, .ref 577, .ref 578, .int (iI (o 68)), .int (iI (o 69)), .int (iI (o 70)), .ref 579])) (hA539 : S.1 539 = .inl (.int, 60, .inl fun k : Nat => iI (wK (k : Int)))) (hA550 : S.1 550 = .inl (.int, 30, .inl fun k : Nat => iI (tU (k : Int)))) (hA552 : S.1 552 = .inl (.long, 28830, .inr (.inl fun k : Nat => oW (k : Int)))) (hA553 : S.1 553 = .inl (.long, 10571, .inr (.inl fun k : Nat => oK (k : Int)))) (hA554 : S.1 554 = .inl (.long, 115320, .inr (.inl fun k : Nat => oH (k : Int)))) (hbr : 0 ≤ b ∧ b ≤ 1) (hG : X_Gok G) (htn : 0 ≤ tn ∧ tn ≤ 30) (hTU : ∀ t, 0 ≤ t → t < tn → tU t = X_nv (gt G t)) (hWK : ∀ w, 0 ≤ w → w < gw G → wK (30 * b + w) = gD G w 2 0) (hCt : R_ct G tn oW oK oH) : X_T sc 184 (0, [(0, .ref 530)], [], S) (fun v S' => ∃ (r : Int), v = some (.int (iI r)) ∧ X_qQu G tn r ∧ S' = S) := by
  refine X_QI (fun Q hQ => ?_)
  refine T_p xr_184_0 xn_184 (pc' := 1) (ls' := [(0, .ref 530)]) (st' := [.int (iI 1)]) rfl ?_
  refine T_p xr_184_1 xn_184 (pc' := 2) (ls' := [(1, .int (iI 1)), (0, .ref 530)]) (st' := []) rfl ?_
  have L947 : ∀ (m949 : Nat) (n : Int) (hn : 1 ≤ n ∧ n ≤ tn + 1) (hno : ∀ n1 i1, 1 ≤ n1 → 0 ≤ i1 → i1 + n1 ≤ tn → n1 < n → ¬ 1 < X_all G i1 (i1 + n1)) (hm950 : tn + 1 - n < m949), X_T sc 184 (2, [(1, .int (iI n)), (0, .ref 530)], [], S) Q := by
    intro m949
    induction m949 with
    | zero =>
      intro n hn hno hm950
      exact (show False by omega).elim
    | succ m949 ih948 =>
      intro n hn hno hm950
      refine T_p xr_184_2 xn_184 (pc' := 3) (ls' := [(1, .int (iI n)), (0, .ref 530)]) (st' := [.int (iI n)]) rfl ?_
      refine T_p xr_184_3 xn_184 (pc' := 4) (ls' := [(1, .int (iI n)), (0, .ref 530)]) (st' := [.ref 530, .int (iI n)]) rfl ?_
      refine T_get xr_184_4 hO530 rfl (v := .int (iI tn)) rfl (pc' := 7) rfl ?_
      refine T_zicmp_gt xr_184_7 (t := 62) (pc' := 10) rfl rfl (fun c952 => ?_) (fun c952 => ?_)
      · skip
        have c952 : tn < n := c952
        refine T_p xr_184_62 xn_184 (pc' := 63) (ls' := [(1, .int (iI n)), (0, .ref 530)]) (st' := [.int (iI (-1))]) rfl ?_
        refine T_iret xr_184_63 xf_184.2.2 rfl ?_
        refine hQ _ _ ?_
        exact ⟨(-1), rfl, (Or.inl ⟨rfl, fun n1 i1 h1 h2 h3 => hno n1 i1 h1 h2 h3 (by omega)⟩), rfl⟩
      · skip
        have c952 : ¬ (tn < n) := c952
        refine T_p xr_184_10 xn_184 (pc' := 11) (ls' := [(1, .int (iI n)), (0, .ref 530)]) (st' := [.int (iI 0)]) rfl ?_
        refine T_p xr_184_11 xn_184 (pc' := 12) (ls' := [(2, .int (iI 0)), (1, .int (iI n)), (0, .ref 530)]) (st' := []) rfl ?_
        have L953 : ∀ (m955 : Nat) (i : Int) (hi : 0 ≤ i ∧ i + n ≤ tn + 1) (hno2 : ∀ n1 i1, 1 ≤ n1 → 0 ≤ i1 → i1 + n1 ≤ tn → (n1 < n ∨ (n1 = n ∧ i1 < i)) → ¬ 1 < X_all G i1 (i1 + n1)) (hm956 : tn + 1 - i < m955), X_T sc 184 (12, [(2, .int (iI i)), (1, .int (iI n)), (0, .ref 530)], [], S) Q := by
          intro m955
          induction m955 with
          | zero =>
            intro i hi hno2 hm956
            exact (show False by omega).elim
          | succ m955 ih954 =>
            intro i hi hno2 hm956
            refine T_p xr_184_12 xn_184 (pc' := 13) (ls' := [(2, .int (iI i)), (1, .int (iI n)), (0, .ref 530)]) (st' := [.int (iI i)]) rfl ?_
            refine T_p xr_184_13 xn_184 (pc' := 14) (ls' := [(2, .int (iI i)), (1, .int (iI n)), (0, .ref 530)]) (st' := [.int (iI n), .int (iI i)]) rfl ?_
            refine T_ziadd xr_184_14 (z := i + n) rfl (pc' := 15) rfl ?_
            refine T_p xr_184_15 xn_184 (pc' := 16) (ls' := [(2, .int (iI i)), (1, .int (iI n)), (0, .ref 530)]) (st' := [.ref 530, .int (iI (i + n))]) rfl ?_
            refine T_get xr_184_16 hO530 rfl (v := .int (iI tn)) rfl (pc' := 19) rfl ?_
            refine T_zicmp_gt xr_184_19 (t := 56) (pc' := 22) rfl rfl (fun c958 => ?_) (fun c958 => ?_)
            · skip
              have c958 : tn < (i + n) := c958
              refine T_ziinc xr_184_56 xn_184 (a := n) (z := n + 1) rfl (Nat.le_of_ble_eq_true rfl) (by omega) (ls' := [(1, .int (iI (n + 1))), (2, .int (iI i)), (0, .ref 530)]) rfl (pc' := 59) rfl ?_
              refine T_p xr_184_59 xn_184 (pc' := 2) (ls' := [(1, .int (iI (n + 1))), (2, .int (iI i)), (0, .ref 530)]) (st' := []) rfl ?_
              refine T_sub (ls := [(1, .int (iI (n + 1))), (0, .ref 530)]) ⟨rfl, rfl, trivial⟩ rfl rfl ?_
              exact ih948 (n + 1)  (by omega) (fun n1 i1 h1 h2 h3 h4 => hno2 n1 i1 h1 h2 h3 (by omega)) (by omega)
            · skip
              have c958 : ¬ (tn < (i + n)) := c958
              refine T_p xr_184_22 xn_184 (pc' := 23) (ls' := [(2, .int (iI i)), (1, .int (iI n)), (0, .ref 530)]) (st' := [.ref 530]) rfl ?_
              refine T_p xr_184_23 xn_184 (pc' := 24) (ls' := [(2, .int (iI i)), (1, .int (iI n)), (0, .ref 530)]) (st' := [.int (iI i), .ref 530]) rfl ?_
              refine T_p xr_184_24 xn_184 (pc' := 25) (ls' := [(2, .int (iI i)), (1, .int (iI n)), (0, .ref 530)]) (st' := [.int (iI i), .int (iI i), .ref 530]) rfl ?_
              refine T_p xr_184_25 xn_184 (pc' := 26) (ls' := [(2, .int (iI i)), (1, .int (iI n)), (0, .ref 530)]) (st' := [.int (iI n), .int (iI i), .int (iI i), .ref 530]) rfl ?_
              refine T_ziadd xr_184_26 (z := i + n) rfl (pc' := 27) rfl ?_
              refine T_cv (S := S) (q := 530) xr_184_27 xf_182.1 xf_182.2.1 xn_182 (as := [.int (iI i), .int (iI (i + n))]) (r := []) rfl hO530 (Nat.le_of_ble_eq_true rfl) (Nat.le_of_ble_eq_true rfl) (pc' := 30) rfl (ls' := [(0, .ref 530), (1, .int (iI i)), (2, .int (iI (i + n)))]) rfl ?_
              refine T_mono (r_allWays sc S wK tU oW oK o nm b rc G tn i (i + n) hO530 hA539 hA550 hA552 hA553 (by omega) hG (by omega) hTU hWK (by omega) (hCt i (i + n) (by omega) (by omega) (by omega)).2.1 (hCt i (i + n) (by omega) (by omega) (by omega)).1) (fun v959 S960 h961 => ?_)
              rcases h961 with ⟨hv962, hf963⟩
              rw [hv962]
              rw [hf963]
              show X_T sc 184 (30, [(2, .int (iI i)), (1, .int (iI n)), (0, .ref 530)], [.long (X_st (-1) (X_all G i (i + n)))], S) _
              refine T_p xr_184_30 xn_184 (pc' := 31) (ls' := [(3, .long (X_st (-1) (X_all G i (i + n)))), (2, .int (iI i)), (1, .int (iI n)), (0, .ref 530)]) (st' := []) rfl ?_
              refine T_p xr_184_31 xn_184 (pc' := 32) (ls' := [(3, .long (X_st (-1) (X_all G i (i + n)))), (2, .int (iI i)), (1, .int (iI n)), (0, .ref 530)]) (st' := [.long (X_st (-1) (X_all G i (i + n)))]) rfl ?_
              refine T_p xr_184_32 xn_184 (pc' := 33) (ls' := [(3, .long (X_st (-1) (X_all G i (i + n)))), (2, .int (iI i)), (1, .int (iI n)), (0, .ref 530)]) (st' := [.long (iL 0), .long (X_st (-1) (X_all G i (i + n)))]) rfl ?_
              refine T_lc_lt xr_184_33 xr_184_34 (t := 43) (pc' := 37) rfl rfl (fun c964 => ?_) (fun c964 => ?_)
              · skip
                have c964 : (X_st (-1) (X_all G i (i + n))) < (iL 0) := c964
                refine T_p xr_184_43 xn_184 (pc' := 45) (ls' := [(3, .long (X_st (-1) (X_all G i (i + n)))), (2, .int (iI i)), (1, .int (iI n)), (0, .ref 530)]) (st' := [.int (iI 100)]) rfl ?_
                refine T_p xr_184_45 xn_184 (pc' := 46) (ls' := [(3, .long (X_st (-1) (X_all G i (i + n)))), (2, .int (iI i)), (1, .int (iI n)), (0, .ref 530)]) (st' := [.int (iI i), .int (iI 100)]) rfl ?_
                refine T_zimul xr_184_46 (z := 100 * i) rfl (pc' := 47) rfl ?_
                refine T_p xr_184_47 xn_184 (pc' := 48) (ls' := [(3, .long (X_st (-1) (X_all G i (i + n)))), (2, .int (iI i)), (1, .int (iI n)), (0, .ref 530)]) (st' := [.int (iI n), .int (iI (100 * i))]) rfl ?_
                refine T_ziadd xr_184_48 (z := (100 * i) + n) rfl (pc' := 49) rfl ?_
                refine T_iret xr_184_49 xf_184.2.2 rfl ?_
                refine hQ _ _ ?_
                exact ⟨(100 * i) + n, rfl, (Or.inr ⟨n, i, by omega, by omega, (show 1 < X_all G i (i + n) from by
                      by_cases hm : X_all G i (i + n) ≤ 9223372036854775807
                      · have h1 : iL 1 < X_st (-1) (X_all G i (i + n)) := by first | assumption | exact Int64.not_le.mp (by assumption) | exact absurd ((X_st_n (m := -1) (a := X_all G i (i + n)) (by omega)).mp (by assumption)) (by omega)
                        rw [X_st_lo hm, iL_lt (by omega) (by omega) (by omega) (by omega)] at h1; omega
                      · omega), fun n1 i1 h1 h2 h3 h4 => hno2 n1 i1 h1 h2 h3 (by omega)⟩), rfl⟩
              · skip
                have c964 : ¬ ((X_st (-1) (X_all G i (i + n))) < (iL 0)) := c964
                refine T_p xr_184_37 xn_184 (pc' := 38) (ls' := [(3, .long (X_st (-1) (X_all G i (i + n)))), (2, .int (iI i)), (1, .int (iI n)), (0, .ref 530)]) (st' := [.long (X_st (-1) (X_all G i (i + n)))]) rfl ?_
                refine T_p xr_184_38 xn_184 (pc' := 39) (ls' := [(3, .long (X_st (-1) (X_all G i (i + n)))), (2, .int (iI i)), (1, .int (iI n)), (0, .ref 530)]) (st' := [.long (iL 1), .long (X_st (-1) (X_all G i (i + n)))]) rfl ?_
                refine T_lc_le xr_184_39 xr_184_40 (t := 50) (pc' := 43) rfl rfl (fun c965 => ?_) (fun c965 => ?_)
                · skip
                  have c965 : (X_st (-1) (X_all G i (i + n))) ≤ (iL 1) := c965
                  refine T_ziinc xr_184_50 xn_184 (a := i) (z := i + 1) rfl (Nat.le_of_ble_eq_true rfl) (by omega) (ls' := [(2, .int (iI (i + 1))), (3, .long (X_st (-1) (X_all G i (i + n)))), (1, .int (iI n)), (0, .ref 530)]) rfl (pc' := 53) rfl ?_
                  refine T_p xr_184_53 xn_184 (pc' := 12) (ls' := [(2, .int (iI (i + 1))), (3, .long (X_st (-1) (X_all G i (i + n)))), (1, .int (iI n)), (0, .ref 530)]) (st' := []) rfl ?_
                  refine T_sub (ls := [(2, .int (iI (i + 1))), (1, .int (iI n)), (0, .ref 530)]) ⟨rfl, rfl, rfl, trivial⟩ rfl rfl ?_
                  exact ih954 (i + 1)  (by omega) (fun n1 i1 h1 h2 h3 h4 => by
                        by_cases hh : n1 = n ∧ i1 = i
                        · obtain ⟨e1, e2⟩ := hh
                          subst e1; subst e2; exact (show ¬ 1 < X_all G i1 (i1 + n1) from fun z => by
                        by_cases hm : X_all G i1 (i1 + n1) ≤ 9223372036854775807
                        · refine absurd (show iL 1 < X_st (-1) (X_all G i1 (i1 + n1)) from ?_) (by first | assumption | exact Int64.not_lt.mpr (by assumption))
                          rw [X_st_lo hm, iL_lt (by omega) (by omega) (by omega) (by omega)]; omega
                        · exact absurd ((X_st_n (m := -1) (a := X_all G i1 (i1 + n1)) (by omega)).mpr (by omega)) (by first | assumption | exact Int64.not_lt.mpr (by assumption)))
                        · exact hno2 n1 i1 h1 h2 h3 (by omega)) (by omega)
                · skip
                  have c965 : ¬ ((X_st (-1) (X_all G i (i + n))) ≤ (iL 1)) := c965
                  refine T_p xr_184_43 xn_184 (pc' := 45) (ls' := [(3, .long (X_st (-1) (X_all G i (i + n)))), (2, .int (iI i)), (1, .int (iI n)), (0, .ref 530)]) (st' := [.int (iI 100)]) rfl ?_
                  refine T_p xr_184_45 xn_184 (pc' := 46) (ls' := [(3, .long (X_st (-1) (X_all G i (i + n)))), (2, .int (iI i)), (1, .int (iI n)), (0, .ref 530)]) (st' := [.int (iI i), .int (iI 100)]) rfl ?_
                  refine T_zimul xr_184_46 (z := 100 * i) rfl (pc' := 47) rfl ?_
                  refine T_p xr_184_47 xn_184 (pc' := 48) (ls' := [(3, .long (X_st (-1) (X_all G i (i + n)))), (2, .int (iI i)), (1, .int (iI n)), (0, .ref 530)]) (st' := [.int (iI n), .int (iI (100 * i))]) rfl ?_
                  refine T_ziadd xr_184_48 (z := (100 * i) + n) rfl (pc' := 49) rfl ?_
                  refine T_iret xr_184_49 xf_184.2.2 rfl ?_
                  refine hQ _ _ ?_
                  exact ⟨(100 * i) + n, rfl, (Or.inr ⟨n, i, by omega, by omega, (show 1 < X_all G i (i + n) from by
                        by_cases hm : X_all G i (i + n) ≤ 9223372036854775807
                        · have h1 : iL 1 < X_st (-1) (X_all G i (i + n)) := by first | assumption | exact Int64.not_le.mp (by assumption) | exact absurd ((X_st_n (m := -1) (a := X_all G i (i + n)) (by omega)).mp (by assumption)) (by omega)
                          rw [X_st_lo hm, iL_lt (by omega) (by omega) (by omega) (by omega)] at h1; omega
                        · omega), fun n1 i1 h1 h2 h3 h4 => hno2 n1 i1 h1 h2 h3 (by omega)⟩), rfl⟩
        exact L953 ((tn + 1) + 1).toNat 0  (by omega) (fun n1 i1 h1 h2 h3 h4 => hno n1 i1 h1 h2 h3 (by omega)) (by omega)
  exact L947 (tn + 1).toNat 1  (by omega) (fun n1 i1 h1 h2 h3 h4 => absurd h4 (by omega)) (by omega)
