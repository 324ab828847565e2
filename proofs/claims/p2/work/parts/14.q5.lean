theorem xr_170_0 : X_row 170 0 = some (0, (.iconst 0, 1), (0, 0, 0)) := by decide +kernel
theorem xr_170_1 : X_row 170 1 = some (1, (.istore_n 1, 1), (0, 0, 0)) := by decide +kernel
theorem xr_170_2 : X_row 170 2 = some (2, (.iconst 0, 1), (0, 0, 0)) := by decide +kernel
theorem xr_170_3 : X_row 170 3 = some (3, (.istore_n 2, 1), (0, 0, 0)) := by decide +kernel
theorem xr_170_4 : X_row 170 4 = some (4, (.aload_n 0, 1), (0, 0, 0)) := by decide +kernel
theorem xr_170_5 : X_row 170 5 = some (5, (.getfield 293, 3), (11, 1, 2)) := by decide +kernel
theorem xr_170_8 : X_row 170 8 = some (8, (.istore_n 3, 1), (0, 0, 0)) := by decide +kernel
theorem xr_170_9 : X_row 170 9 = some (9, (.aload_n 0, 1), (0, 0, 0)) := by decide +kernel
theorem xr_170_10 : X_row 170 10 = some (10, (.iconst 0, 1), (0, 0, 0)) := by decide +kernel
theorem xr_170_11 : X_row 170 11 = some (11, (.putfield 293, 3), (11, 1, 2)) := by decide +kernel
theorem xr_170_14 : X_row 170 14 = some (14, (.iload_n 2, 1), (0, 0, 0)) := by decide +kernel
theorem xr_170_15 : X_row 170 15 = some (15, (.iload_n 3, 1), (0, 0, 0)) := by decide +kernel
theorem xr_170_16 : X_row 170 16 = some (16, (.if_icmp .ge 274, 3), (0, 0, 0)) := by decide +kernel
theorem xr_170_19 : X_row 170 19 = some (19, (.aload_n 0, 1), (0, 0, 0)) := by decide +kernel
theorem xr_170_20 : X_row 170 20 = some (20, (.getfield 188, 3), (11, 0, 0)) := by decide +kernel
theorem xr_170_23 : X_row 170 23 = some (23, (.iload_n 2, 1), (0, 0, 0)) := by decide +kernel
theorem xr_170_24 : X_row 170 24 = some (24, (.baload, 1), (0, 0, 0)) := by decide +kernel
theorem xr_170_25 : X_row 170 25 = some (25, (.sipush 255, 3), (0, 0, 0)) := by decide +kernel
theorem xr_170_28 : X_row 170 28 = some (28, (.iand, 1), (0, 0, 0)) := by decide +kernel
theorem xr_170_29 : X_row 170 29 = some (29, (.istore 4, 2), (0, 0, 0)) := by decide +kernel
theorem xr_170_31 : X_row 170 31 = some (31, (.iload 4, 2), (0, 0, 0)) := by decide +kernel
theorem xr_170_33 : X_row 170 33 = some (33, (.bipush 32, 2), (0, 0, 0)) := by decide +kernel
theorem xr_170_35 : X_row 170 35 = some (35, (.if_icmp .eq 10, 3), (0, 0, 0)) := by decide +kernel
theorem xr_170_38 : X_row 170 38 = some (38, (.iload 4, 2), (0, 0, 0)) := by decide +kernel
theorem xr_170_40 : X_row 170 40 = some (40, (.bipush 10, 2), (0, 0, 0)) := by decide +kernel
theorem xr_170_42 : X_row 170 42 = some (42, (.if_icmp .ne 9, 3), (0, 0, 0)) := by decide +kernel
theorem xr_170_45 : X_row 170 45 = some (45, (.iinc 2 1, 3), (0, 0, 0)) := by decide +kernel
theorem xr_170_48 : X_row 170 48 = some (48, (.goto (-34), 3), (0, 0, 0)) := by decide +kernel
theorem xr_170_51 : X_row 170 51 = some (51, (.iload 4, 2), (0, 0, 0)) := by decide +kernel
theorem xr_170_53 : X_row 170 53 = some (53, (.bipush 33, 2), (0, 0, 0)) := by decide +kernel
theorem xr_170_55 : X_row 170 55 = some (55, (.if_icmp .lt 16, 3), (0, 0, 0)) := by decide +kernel
theorem xr_170_58 : X_row 170 58 = some (58, (.iload 4, 2), (0, 0, 0)) := by decide +kernel
theorem xr_170_60 : X_row 170 60 = some (60, (.bipush 126, 2), (0, 0, 0)) := by decide +kernel
theorem xr_170_62 : X_row 170 62 = some (62, (.if_icmp .gt 9, 3), (0, 0, 0)) := by decide +kernel
theorem xr_170_65 : X_row 170 65 = some (65, (.iload_n 1, 1), (0, 0, 0)) := by decide +kernel
theorem xr_170_66 : X_row 170 66 = some (66, (.bipush 30, 2), (0, 0, 0)) := by decide +kernel
theorem xr_170_68 : X_row 170 68 = some (68, (.if_icmp .ne 5, 3), (0, 0, 0)) := by decide +kernel
theorem xr_170_71 : X_row 170 71 = some (71, (.iconst (-1), 1), (0, 0, 0)) := by decide +kernel
theorem xr_170_72 : X_row 170 72 = some (72, (.ireturn, 1), (0, 0, 0)) := by decide +kernel
theorem xr_170_73 : X_row 170 73 = some (73, (.iload_n 2, 1), (0, 0, 0)) := by decide +kernel
theorem xr_170_74 : X_row 170 74 = some (74, (.istore 5, 2), (0, 0, 0)) := by decide +kernel
theorem xr_170_76 : X_row 170 76 = some (76, (.iinc 2 1, 3), (0, 0, 0)) := by decide +kernel
theorem xr_170_79 : X_row 170 79 = some (79, (.iload 4, 2), (0, 0, 0)) := by decide +kernel
theorem xr_170_81 : X_row 170 81 = some (81, (.bipush 40, 2), (0, 0, 0)) := by decide +kernel
theorem xr_170_83 : X_row 170 83 = some (83, (.if_icmp .eq 73, 3), (0, 0, 0)) := by decide +kernel
theorem xr_170_86 : X_row 170 86 = some (86, (.iload 4, 2), (0, 0, 0)) := by decide +kernel
theorem xr_170_88 : X_row 170 88 = some (88, (.bipush 41, 2), (0, 0, 0)) := by decide +kernel
theorem xr_170_90 : X_row 170 90 = some (90, (.if_icmp .eq 66, 3), (0, 0, 0)) := by decide +kernel
theorem xr_170_93 : X_row 170 93 = some (93, (.iload_n 2, 1), (0, 0, 0)) := by decide +kernel
theorem xr_170_94 : X_row 170 94 = some (94, (.iload_n 3, 1), (0, 0, 0)) := by decide +kernel
theorem xr_170_95 : X_row 170 95 = some (95, (.if_icmp .ge 61, 3), (0, 0, 0)) := by decide +kernel
theorem xr_170_98 : X_row 170 98 = some (98, (.aload_n 0, 1), (0, 0, 0)) := by decide +kernel
theorem xr_170_99 : X_row 170 99 = some (99, (.getfield 188, 3), (11, 0, 0)) := by decide +kernel
theorem xr_170_102 : X_row 170 102 = some (102, (.iload_n 2, 1), (0, 0, 0)) := by decide +kernel
theorem xr_170_103 : X_row 170 103 = some (103, (.baload, 1), (0, 0, 0)) := by decide +kernel
theorem xr_170_104 : X_row 170 104 = some (104, (.sipush 255, 3), (0, 0, 0)) := by decide +kernel
theorem xr_170_107 : X_row 170 107 = some (107, (.iand, 1), (0, 0, 0)) := by decide +kernel
theorem xr_170_108 : X_row 170 108 = some (108, (.bipush 33, 2), (0, 0, 0)) := by decide +kernel
theorem xr_170_110 : X_row 170 110 = some (110, (.if_icmp .lt 46, 3), (0, 0, 0)) := by decide +kernel
theorem xr_170_113 : X_row 170 113 = some (113, (.aload_n 0, 1), (0, 0, 0)) := by decide +kernel
theorem xr_170_114 : X_row 170 114 = some (114, (.getfield 188, 3), (11, 0, 0)) := by decide +kernel
theorem xr_170_117 : X_row 170 117 = some (117, (.iload_n 2, 1), (0, 0, 0)) := by decide +kernel
theorem xr_170_118 : X_row 170 118 = some (118, (.baload, 1), (0, 0, 0)) := by decide +kernel
theorem xr_170_119 : X_row 170 119 = some (119, (.sipush 255, 3), (0, 0, 0)) := by decide +kernel
theorem xr_170_122 : X_row 170 122 = some (122, (.iand, 1), (0, 0, 0)) := by decide +kernel
theorem xr_170_123 : X_row 170 123 = some (123, (.bipush 126, 2), (0, 0, 0)) := by decide +kernel
theorem xr_170_125 : X_row 170 125 = some (125, (.if_icmp .gt 31, 3), (0, 0, 0)) := by decide +kernel
theorem xr_170_128 : X_row 170 128 = some (128, (.aload_n 0, 1), (0, 0, 0)) := by decide +kernel
theorem xr_170_129 : X_row 170 129 = some (129, (.getfield 188, 3), (11, 0, 0)) := by decide +kernel
theorem xr_170_132 : X_row 170 132 = some (132, (.iload_n 2, 1), (0, 0, 0)) := by decide +kernel
theorem xr_170_133 : X_row 170 133 = some (133, (.baload, 1), (0, 0, 0)) := by decide +kernel
theorem xr_170_134 : X_row 170 134 = some (134, (.bipush 40, 2), (0, 0, 0)) := by decide +kernel
theorem xr_170_136 : X_row 170 136 = some (136, (.if_icmp .eq 20, 3), (0, 0, 0)) := by decide +kernel
theorem xr_170_139 : X_row 170 139 = some (139, (.aload_n 0, 1), (0, 0, 0)) := by decide +kernel
theorem xr_170_140 : X_row 170 140 = some (140, (.getfield 188, 3), (11, 0, 0)) := by decide +kernel
theorem xr_170_143 : X_row 170 143 = some (143, (.iload_n 2, 1), (0, 0, 0)) := by decide +kernel
theorem xr_170_144 : X_row 170 144 = some (144, (.baload, 1), (0, 0, 0)) := by decide +kernel
theorem xr_170_145 : X_row 170 145 = some (145, (.bipush 41, 2), (0, 0, 0)) := by decide +kernel
theorem xr_170_147 : X_row 170 147 = some (147, (.if_icmp .eq 9, 3), (0, 0, 0)) := by decide +kernel
theorem xr_170_150 : X_row 170 150 = some (150, (.iinc 2 1, 3), (0, 0, 0)) := by decide +kernel
theorem xr_170_153 : X_row 170 153 = some (153, (.goto (-74), 3), (0, 0, 0)) := by decide +kernel
theorem xr_170_156 : X_row 170 156 = some (156, (.iload_n 2, 1), (0, 0, 0)) := by decide +kernel
theorem xr_170_157 : X_row 170 157 = some (157, (.iload 5, 2), (0, 0, 0)) := by decide +kernel
theorem xr_170_159 : X_row 170 159 = some (159, (.isub, 1), (0, 0, 0)) := by decide +kernel
theorem xr_170_160 : X_row 170 160 = some (160, (.bipush 8, 2), (0, 0, 0)) := by decide +kernel
theorem xr_170_162 : X_row 170 162 = some (162, (.if_icmp .le 5, 3), (0, 0, 0)) := by decide +kernel
theorem xr_170_165 : X_row 170 165 = some (165, (.iconst (-1), 1), (0, 0, 0)) := by decide +kernel
theorem xr_170_166 : X_row 170 166 = some (166, (.ireturn, 1), (0, 0, 0)) := by decide +kernel
theorem xr_170_167 : X_row 170 167 = some (167, (.aload_n 0, 1), (0, 0, 0)) := by decide +kernel
theorem xr_170_168 : X_row 170 168 = some (168, (.getfield 197, 3), (11, 35, 70)) := by decide +kernel
theorem xr_170_171 : X_row 170 171 = some (171, (.iload_n 1, 1), (0, 0, 0)) := by decide +kernel
theorem xr_170_172 : X_row 170 172 = some (172, (.lconst 0, 1), (0, 0, 0)) := by decide +kernel
theorem xr_170_173 : X_row 170 173 = some (173, (.lastore, 1), (0, 0, 0)) := by decide +kernel
theorem xr_170_174 : X_row 170 174 = some (174, (.aload_n 0, 1), (0, 0, 0)) := by decide +kernel
theorem xr_170_175 : X_row 170 175 = some (175, (.getfield 203, 3), (11, 37, 74)) := by decide +kernel
theorem xr_170_178 : X_row 170 178 = some (178, (.iload_n 1, 1), (0, 0, 0)) := by decide +kernel
theorem xr_170_179 : X_row 170 179 = some (179, (.iconst 0, 1), (0, 0, 0)) := by decide +kernel
theorem xr_170_180 : X_row 170 180 = some (180, (.iastore, 1), (0, 0, 0)) := by decide +kernel
theorem xr_170_181 : X_row 170 181 = some (181, (.iconst 1, 1), (0, 0, 0)) := by decide +kernel
theorem xr_170_182 : X_row 170 182 = some (182, (.istore 6, 2), (0, 0, 0)) := by decide +kernel
theorem xr_170_184 : X_row 170 184 = some (184, (.iload 5, 2), (0, 0, 0)) := by decide +kernel
theorem xr_170_186 : X_row 170 186 = some (186, (.istore 7, 2), (0, 0, 0)) := by decide +kernel
theorem xr_170_188 : X_row 170 188 = some (188, (.iload 7, 2), (0, 0, 0)) := by decide +kernel
theorem xr_170_190 : X_row 170 190 = some (190, (.iload_n 2, 1), (0, 0, 0)) := by decide +kernel
theorem xr_170_191 : X_row 170 191 = some (191, (.if_icmp .ge 93, 3), (0, 0, 0)) := by decide +kernel
theorem xr_170_194 : X_row 170 194 = some (194, (.aload_n 0, 1), (0, 0, 0)) := by decide +kernel
theorem xr_170_195 : X_row 170 195 = some (195, (.getfield 197, 3), (11, 35, 70)) := by decide +kernel
theorem xr_170_198 : X_row 170 198 = some (198, (.iload_n 1, 1), (0, 0, 0)) := by decide +kernel
theorem xr_170_199 : X_row 170 199 = some (199, (.aload_n 0, 1), (0, 0, 0)) := by decide +kernel
theorem xr_170_200 : X_row 170 200 = some (200, (.getfield 197, 3), (11, 35, 70)) := by decide +kernel
theorem xr_170_203 : X_row 170 203 = some (203, (.iload_n 1, 1), (0, 0, 0)) := by decide +kernel
theorem xr_170_204 : X_row 170 204 = some (204, (.laload, 1), (0, 0, 0)) := by decide +kernel
theorem xr_170_205 : X_row 170 205 = some (205, (.bipush 8, 2), (0, 0, 0)) := by decide +kernel
theorem xr_170_207 : X_row 170 207 = some (207, (.lshl, 1), (0, 0, 0)) := by decide +kernel
theorem xr_170_208 : X_row 170 208 = some (208, (.aload_n 0, 1), (0, 0, 0)) := by decide +kernel
theorem xr_170_209 : X_row 170 209 = some (209, (.getfield 188, 3), (11, 0, 0)) := by decide +kernel
theorem xr_170_212 : X_row 170 212 = some (212, (.iload 7, 2), (0, 0, 0)) := by decide +kernel
theorem xr_170_214 : X_row 170 214 = some (214, (.baload, 1), (0, 0, 0)) := by decide +kernel
theorem xr_170_215 : X_row 170 215 = some (215, (.i2l, 1), (0, 0, 0)) := by decide +kernel
theorem xr_170_216 : X_row 170 216 = some (216, (.lor, 1), (0, 0, 0)) := by decide +kernel
theorem xr_170_217 : X_row 170 217 = some (217, (.lastore, 1), (0, 0, 0)) := by decide +kernel
theorem xr_170_218 : X_row 170 218 = some (218, (.iload 6, 2), (0, 0, 0)) := by decide +kernel
theorem xr_170_220 : X_row 170 220 = some (220, (.ifCond .eq 20, 3), (0, 0, 0)) := by decide +kernel
theorem xr_170_223 : X_row 170 223 = some (223, (.aload_n 0, 1), (0, 0, 0)) := by decide +kernel
theorem xr_170_224 : X_row 170 224 = some (224, (.getfield 188, 3), (11, 0, 0)) := by decide +kernel
theorem xr_170_227 : X_row 170 227 = some (227, (.iload 7, 2), (0, 0, 0)) := by decide +kernel
theorem xr_170_229 : X_row 170 229 = some (229, (.baload, 1), (0, 0, 0)) := by decide +kernel
theorem xr_170_230 : X_row 170 230 = some (230, (.invokestatic 34, 3), (138, 6, 0)) := by decide +kernel
theorem xr_170_233 : X_row 170 233 = some (233, (.ifCond .eq 7, 3), (0, 0, 0)) := by decide +kernel
theorem xr_170_236 : X_row 170 236 = some (236, (.iconst 1, 1), (0, 0, 0)) := by decide +kernel
theorem xr_170_237 : X_row 170 237 = some (237, (.goto 4, 3), (0, 0, 0)) := by decide +kernel
theorem xr_170_240 : X_row 170 240 = some (240, (.iconst 0, 1), (0, 0, 0)) := by decide +kernel
theorem xr_170_241 : X_row 170 241 = some (241, (.istore 6, 2), (0, 0, 0)) := by decide +kernel
theorem xr_170_243 : X_row 170 243 = some (243, (.aload_n 0, 1), (0, 0, 0)) := by decide +kernel
theorem xr_170_244 : X_row 170 244 = some (244, (.getfield 203, 3), (11, 37, 74)) := by decide +kernel
theorem xr_170_247 : X_row 170 247 = some (247, (.iload_n 1, 1), (0, 0, 0)) := by decide +kernel
theorem xr_170_248 : X_row 170 248 = some (248, (.iload 6, 2), (0, 0, 0)) := by decide +kernel
theorem xr_170_250 : X_row 170 250 = some (250, (.ifCond .eq 26, 3), (0, 0, 0)) := by decide +kernel
theorem xr_170_253 : X_row 170 253 = some (253, (.bipush 10, 2), (0, 0, 0)) := by decide +kernel
theorem xr_170_255 : X_row 170 255 = some (255, (.aload_n 0, 1), (0, 0, 0)) := by decide +kernel
theorem xr_170_256 : X_row 170 256 = some (256, (.getfield 203, 3), (11, 37, 74)) := by decide +kernel
theorem xr_170_259 : X_row 170 259 = some (259, (.iload_n 1, 1), (0, 0, 0)) := by decide +kernel
theorem xr_170_260 : X_row 170 260 = some (260, (.iaload, 1), (0, 0, 0)) := by decide +kernel
theorem xr_170_261 : X_row 170 261 = some (261, (.imul, 1), (0, 0, 0)) := by decide +kernel
theorem xr_170_262 : X_row 170 262 = some (262, (.aload_n 0, 1), (0, 0, 0)) := by decide +kernel
theorem xr_170_263 : X_row 170 263 = some (263, (.getfield 188, 3), (11, 0, 0)) := by decide +kernel
theorem xr_170_266 : X_row 170 266 = some (266, (.iload 7, 2), (0, 0, 0)) := by decide +kernel
theorem xr_170_268 : X_row 170 268 = some (268, (.baload, 1), (0, 0, 0)) := by decide +kernel
theorem xr_170_269 : X_row 170 269 = some (269, (.iadd, 1), (0, 0, 0)) := by decide +kernel
theorem xr_170_270 : X_row 170 270 = some (270, (.bipush 48, 2), (0, 0, 0)) := by decide +kernel
theorem xr_170_272 : X_row 170 272 = some (272, (.isub, 1), (0, 0, 0)) := by decide +kernel
theorem xr_170_273 : X_row 170 273 = some (273, (.goto 4, 3), (0, 0, 0)) := by decide +kernel
theorem xr_170_276 : X_row 170 276 = some (276, (.iconst (-1), 1), (0, 0, 0)) := by decide +kernel
theorem xr_170_277 : X_row 170 277 = some (277, (.iastore, 1), (0, 0, 0)) := by decide +kernel
theorem xr_170_278 : X_row 170 278 = some (278, (.iinc 7 1, 3), (0, 0, 0)) := by decide +kernel
theorem xr_170_281 : X_row 170 281 = some (281, (.goto (-93), 3), (0, 0, 0)) := by decide +kernel
theorem xr_170_284 : X_row 170 284 = some (284, (.iinc 1 1, 3), (0, 0, 0)) := by decide +kernel
theorem xr_170_287 : X_row 170 287 = some (287, (.goto (-273), 3), (0, 0, 0)) := by decide +kernel
theorem xr_170_290 : X_row 170 290 = some (290, (.iconst 0, 1), (0, 0, 0)) := by decide +kernel
theorem xr_170_291 : X_row 170 291 = some (291, (.istore 4, 2), (0, 0, 0)) := by decide +kernel
theorem xr_170_293 : X_row 170 293 = some (293, (.iload 4, 2), (0, 0, 0)) := by decide +kernel
theorem xr_170_295 : X_row 170 295 = some (295, (.iload_n 1, 1), (0, 0, 0)) := by decide +kernel
theorem xr_170_296 : X_row 170 296 = some (296, (.if_icmp .ge 37, 3), (0, 0, 0)) := by decide +kernel
theorem xr_170_299 : X_row 170 299 = some (299, (.aload_n 0, 1), (0, 0, 0)) := by decide +kernel
theorem xr_170_300 : X_row 170 300 = some (300, (.getfield 194, 3), (11, 34, 68)) := by decide +kernel
theorem xr_170_303 : X_row 170 303 = some (303, (.iload 4, 2), (0, 0, 0)) := by decide +kernel
theorem xr_170_305 : X_row 170 305 = some (305, (.aload_n 0, 1), (0, 0, 0)) := by decide +kernel
theorem xr_170_306 : X_row 170 306 = some (306, (.getfield 197, 3), (11, 35, 70)) := by decide +kernel
theorem xr_170_309 : X_row 170 309 = some (309, (.iload 4, 2), (0, 0, 0)) := by decide +kernel
theorem xr_170_311 : X_row 170 311 = some (311, (.laload, 1), (0, 0, 0)) := by decide +kernel
theorem xr_170_312 : X_row 170 312 = some (312, (.lastore, 1), (0, 0, 0)) := by decide +kernel
theorem xr_170_313 : X_row 170 313 = some (313, (.aload_n 0, 1), (0, 0, 0)) := by decide +kernel
theorem xr_170_314 : X_row 170 314 = some (314, (.getfield 200, 3), (11, 36, 72)) := by decide +kernel
theorem xr_170_317 : X_row 170 317 = some (317, (.iload 4, 2), (0, 0, 0)) := by decide +kernel
theorem xr_170_319 : X_row 170 319 = some (319, (.aload_n 0, 1), (0, 0, 0)) := by decide +kernel
theorem xr_170_320 : X_row 170 320 = some (320, (.getfield 203, 3), (11, 37, 74)) := by decide +kernel
theorem xr_170_323 : X_row 170 323 = some (323, (.iload 4, 2), (0, 0, 0)) := by decide +kernel
theorem xr_170_325 : X_row 170 325 = some (325, (.iaload, 1), (0, 0, 0)) := by decide +kernel
theorem xr_170_326 : X_row 170 326 = some (326, (.iastore, 1), (0, 0, 0)) := by decide +kernel
theorem xr_170_327 : X_row 170 327 = some (327, (.iinc 4 1, 3), (0, 0, 0)) := by decide +kernel
theorem xr_170_330 : X_row 170 330 = some (330, (.goto (-37), 3), (0, 0, 0)) := by decide +kernel
theorem xr_170_333 : X_row 170 333 = some (333, (.aload_n 0, 1), (0, 0, 0)) := by decide +kernel
theorem xr_170_334 : X_row 170 334 = some (334, (.iload_n 1, 1), (0, 0, 0)) := by decide +kernel
theorem xr_170_335 : X_row 170 335 = some (335, (.putfield 314, 3), (11, 38, 76)) := by decide +kernel
theorem xr_170_338 : X_row 170 338 = some (338, (.aload_n 0, 1), (0, 0, 0)) := by decide +kernel
theorem xr_170_339 : X_row 170 339 = some (339, (.iconst 0, 1), (0, 0, 0)) := by decide +kernel
theorem xr_170_340 : X_row 170 340 = some (340, (.putfield 317, 3), (11, 49, 98)) := by decide +kernel
theorem xr_170_343 : X_row 170 343 = some (343, (.aload_n 0, 1), (0, 0, 0)) := by decide +kernel
theorem xr_170_344 : X_row 170 344 = some (344, (.iconst 0, 1), (0, 0, 0)) := by decide +kernel
theorem xr_170_345 : X_row 170 345 = some (345, (.putfield 320, 3), (11, 68, 136)) := by decide +kernel
theorem xr_170_348 : X_row 170 348 = some (348, (.aload_n 0, 1), (0, 0, 0)) := by decide +kernel
theorem xr_170_349 : X_row 170 349 = some (349, (.invokevirtual 330, 3), (175, 54, 0)) := by decide +kernel
theorem xr_170_352 : X_row 170 352 = some (352, (.iload_n 1, 1), (0, 0, 0)) := by decide +kernel
theorem xr_170_353 : X_row 170 353 = some (353, (.ireturn, 1), (0, 0, 0)) := by decide +kernel
theorem xn_170 : X_nL 170 = 8 := by decide +kernel
theorem xf_170 : X_na 170 = 0 ∧ X_ci 170 = 11 ∧ X_rt 170 = (some .int) := by decide +kernel
set_option maxHeartbeats 1600000 in
theorem r_sentence (sc : X_Sc) (S : X_S) (tp : Int → Int) (tg : Int → Int) (kU : Int → Int) (wR : Int → Int) (wL : Int → Int) (wK : Int → Int) (wM : Int → Int) (wH : Int → Int) (eP : Int → Int64) (eH : Int → Int) (hK : Int → Int) (tT : Int → Int64) (nn : Int → Int64) (tU : Int → Int) (nu : Int → Int) (oW : Int → Int64) (oK : Int → Int64) (oH : Int → Int64) (r1 : Int → Int64) (r2 : Int → Int64) (o : Nat → Int) (nm : Int64) (b : Int) (rc : Int) (G : X_G) (tn : Int) (len : Int) (tb : Int → Int) (hO530 : S.1 530 = .inr (11, [.ref 531, .int (iI (o 1)), .ref 532, .int (iI (o 3)), .int (iI b), .int (iI (o 5)), .int (iI (o 6)), .int (iI (o 7)), .int (iI (o 8)), .int (iI (o 9)), .int (iI (o 10)), .int (iI (o 11)), .long nm, .ref 533, .ref 534, .ref 535, .ref 536, .ref 537, .ref 538, .ref 539, .ref 540, .ref 541, .ref 542, .ref 543, .ref 544, .ref 545, .ref 546, .ref 547, .int (iI rc), .int (iI (gk G)), .int (iI (gw G)), .int (iI (o 31)), .int (iI (o 32)), .int (iI (o 33)), .ref 548, .ref 549, .ref 550, .ref 551, .int (iI tn), .ref 552, .ref 553, .ref 554, .ref 555, .ref 556, .ref 557, .ref 558, .ref 559, .ref 560, .ref 561, .int (iI (o 49)), .ref 562, .ref 563, .ref 564, .ref 565, .ref 566, .ref 567, .ref 568, .ref 569, .int (iI (o 58)), .ref 570, .ref 571, .ref 572, .ref 573, .ref 574, .ref 575, .ref 576, .ref 577, .ref 578, .int (iI (o 68)), .int (iI (o 69)), .int (iI (o 70)), .ref 579])) (hA531 : S.1 531 = .inl (.byte, 2020, .inl fun k : Nat => iI (tp (k : Int)))) (hA535 : S.1 535 = .inl (.boolean, 288, .inl fun k : Nat => iI (tg (k : Int)))) (hA536 : S.1 536 = .inl (.int, 22, .inl fun k : Nat => iI (kU (k : Int)))) (hA537 : S.1 537 = .inl (.int, 60, .inl fun k : Nat => iI (wR (k : Int)))) (hA538 : S.1 538 = .inl (.int, 60, .inl fun k : Nat => iI (wL (k : Int)))) (hA539 : S.1 539 = .inl (.int, 60, .inl fun k : Nat => iI (wK (k : Int)))) (hA540 : S.1 540 = .inl (.int, 60, .inl fun k : Nat => iI (wM (k : Int)))) (hA541 : S.1 541 = .inl (.int, 60, .inl fun k : Nat => iI (wH (k : Int)))) (hA545 : S.1 545 = .inl (.long, 480, .inr (.inl fun k : Nat => eP (k : Int)))) (hA546 : S.1 546 = .inl (.int, 480, .inl fun k : Nat => iI (eH (k : Int)))) (hA547 : S.1 547 = .inl (.int, 240, .inl fun k : Nat => iI (hK (k : Int)))) (hA548 : S.1 548 = .inl (.long, 30, .inr (.inl fun k : Nat => tT (k : Int)))) (hA549 : S.1 549 = .inl (.long, 30, .inr (.inl fun k : Nat => nn (k : Int)))) (hA550 : S.1 550 = .inl (.int, 30, .inl fun k : Nat => iI (tU (k : Int)))) (hA551 : S.1 551 = .inl (.int, 30, .inl fun k : Nat => iI (nu (k : Int)))) (hA552 : S.1 552 = .inl (.long, 28830, .inr (.inl fun k : Nat => oW (k : Int)))) (hA553 : S.1 553 = .inl (.long, 10571, .inr (.inl fun k : Nat => oK (k : Int)))) (hA554 : S.1 554 = .inl (.long, 115320, .inr (.inl fun k : Nat => oH (k : Int)))) (hA555 : S.1 555 = .inl (.long, 32, .inr (.inl fun k : Nat => r1 (k : Int)))) (hA556 : S.1 556 = .inl (.long, 32, .inr (.inl fun k : Nat => r2 (k : Int)))) (hbr : 0 ≤ b ∧ b ≤ 1) (hG : X_Gok G) (hl : 0 ≤ len ∧ len ≤ 2000) (hol : o 1 = len) (htp : ∀ k, 0 ≤ k → k < len → tp k = tb k ∧ -128 ≤ tb k ∧ tb k ≤ 127) (hgt : ∀ n2 z2 t2, X_sn tb len len.toNat = some (n2, z2, t2) → ∀ i, 0 ≤ i → i < n2 → gt G i = t2 i) (hKU : (∀ u, 0 ≤ u → u < 32 → (X_bt (ga G 0) u ↔ u = 0)) ∧ kU (11 * b) = -1 ∧ ∀ k, 1 ≤ k → k < gk G → (0 ≤ kU (11 * b + k) ∧ kU (11 * b + k) < k) ∧ ∀ u, 0 ≤ u → u < 32 → (X_bt (ga G k) u ↔ u = k ∨ X_bt (ga G (kU (11 * b + k))) u)) (hTG : (∀ i j, 0 ≤ i → i < rc → 0 ≤ j → j < rc → tg (144 * b + 12 * i + j) = bI (X_bt (gl G i) j)) ∧ ∀ w, 0 ≤ w → w < gw G → gD G w 0 0 < rc) (hWR : ∀ w, 0 ≤ w → w < gw G → wR (30 * b + w) = gD G w 0 0) (hWL : ∀ w, 0 ≤ w → w < gw G → wL (30 * b + w) = gD G w 1 0) (hWK : ∀ w, 0 ≤ w → w < gw G → wK (30 * b + w) = gD G w 2 0) (hWM : ∀ w, 0 ≤ w → w < gw G → wM (30 * b + w) = gD G w 3 0) (hWH : ∀ w, 0 ≤ w → w < gw G → wH (30 * b + w) = gD G w 4 0) (hEP : ∀ w, 0 ≤ w → w < gw G → ∀ e, 0 ≤ e → e < gD G w 3 0 → eP (8 * (30 * b + w) + e) = gW G w e) (hEH : ∀ w, 0 ≤ w → w < gw G → ∀ e, 0 ≤ e → e < gD G w 3 0 → gW G w e = 0 → eH (8 * (30 * b + w) + e) = gD G w 8 e) (hHK : ∀ w, 0 ≤ w → w < gw G → ∀ h, 0 ≤ h → h < gD G w 4 0 → hK (4 * (30 * b + w) + h) = gD G w 9 h) : X_T sc 170 (0, [(0, .ref 530)], [], S) (fun v S' => (∃ (nn1 : Int → Int64) (nu1 : Int → Int), v = some (.int (iI (-1))) ∧ X_sn tb len len.toNat = none ∧ S'.1 530 = .inr (11, [.ref 531, .int (iI 0), .ref 532, .int (iI (o 3)), .int (iI b), .int (iI (o 5)), .int (iI (o 6)), .int (iI (o 7)), .int (iI (o 8)), .int (iI (o 9)), .int (iI (o 10)), .int (iI (o 11)), .long nm, .ref 533, .ref 534, .ref 535, .ref 536, .ref 537, .ref 538, .ref 539, .ref 540, .ref 541, .ref 542, .ref 543, .ref 544, .ref 545, .ref 546, .ref 547, .int (iI rc), .int (iI (gk G)), .int (iI (gw G)), .int (iI (o 31)), .int (iI (o 32)), .int (iI (o 33)), .ref 548, .ref 549, .ref 550, .ref 551, .int (iI tn), .ref 552, .ref 553, .ref 554, .ref 555, .ref 556, .ref 557, .ref 558, .ref 559, .ref 560, .ref 561, .int (iI (o 49)), .ref 562, .ref 563, .ref 564, .ref 565, .ref 566, .ref 567, .ref 568, .ref 569, .int (iI (o 58)), .ref 570, .ref 571, .ref 572, .ref 573, .ref 574, .ref 575, .ref 576, .ref 577, .ref 578, .int (iI (o 68)), .int (iI (o 69)), .int (iI (o 70)), .ref 579]) ∧ S'.1 549 = .inl (.long, 30, .inr (.inl fun k : Nat => nn1 (k : Int))) ∧ S'.1 551 = .inl (.int, 30, .inl fun k : Nat => iI (nu1 (k : Int))) ∧ (X_Fr (fun q => q = 530 ∨ q = 549 ∨ q = 551) S S')) ∨ (∃ (n1 : Int) (z1 : Int) (t1 : Int → Int64) (tT1 : Int → Int64) (nn1 : Int → Int64) (oW1 : Int → Int64) (oK1 : Int → Int64) (oH1 : Int → Int64) (r1x : Int → Int64) (r2x : Int → Int64) (tU1 : Int → Int) (nu1 : Int → Int), v = some (.int (iI n1)) ∧ X_sn tb len len.toNat = some (n1, z1, t1) ∧ (0 ≤ n1 ∧ n1 ≤ 30) ∧ (∀ i, 0 ≤ i → i < n1 → tT1 i = gt G i) ∧ (∀ i, 0 ≤ i → i < n1 → tU1 i = X_nv (gt G i)) ∧ R_ct G n1 oW1 oK1 oH1 ∧ S'.1 530 = .inr (11, [.ref 531, .int (iI 0), .ref 532, .int (iI (o 3)), .int (iI b), .int (iI (o 5)), .int (iI (o 6)), .int (iI (o 7)), .int (iI (o 8)), .int (iI (o 9)), .int (iI (o 10)), .int (iI (o 11)), .long nm, .ref 533, .ref 534, .ref 535, .ref 536, .ref 537, .ref 538, .ref 539, .ref 540, .ref 541, .ref 542, .ref 543, .ref 544, .ref 545, .ref 546, .ref 547, .int (iI rc), .int (iI (gk G)), .int (iI (gw G)), .int (iI (o 31)), .int (iI (o 32)), .int (iI (o 33)), .ref 548, .ref 549, .ref 550, .ref 551, .int (iI n1), .ref 552, .ref 553, .ref 554, .ref 555, .ref 556, .ref 557, .ref 558, .ref 559, .ref 560, .ref 561, .int (iI 0), .ref 562, .ref 563, .ref 564, .ref 565, .ref 566, .ref 567, .ref 568, .ref 569, .int (iI (o 58)), .ref 570, .ref 571, .ref 572, .ref 573, .ref 574, .ref 575, .ref 576, .ref 577, .ref 578, .int (iI 0), .int (iI (o 69)), .int (iI (o 70)), .ref 579]) ∧ S'.1 548 = .inl (.long, 30, .inr (.inl fun k : Nat => tT1 (k : Int))) ∧ S'.1 549 = .inl (.long, 30, .inr (.inl fun k : Nat => nn1 (k : Int))) ∧ S'.1 550 = .inl (.int, 30, .inl fun k : Nat => iI (tU1 (k : Int))) ∧ S'.1 551 = .inl (.int, 30, .inl fun k : Nat => iI (nu1 (k : Int))) ∧ S'.1 552 = .inl (.long, 28830, .inr (.inl fun k : Nat => oW1 (k : Int))) ∧ S'.1 553 = .inl (.long, 10571, .inr (.inl fun k : Nat => oK1 (k : Int))) ∧ S'.1 554 = .inl (.long, 115320, .inr (.inl fun k : Nat => oH1 (k : Int))) ∧ S'.1 555 = .inl (.long, 32, .inr (.inl fun k : Nat => r1x (k : Int))) ∧ S'.1 556 = .inl (.long, 32, .inr (.inl fun k : Nat => r2x (k : Int))) ∧ (X_Fr (fun q => q = 530 ∨ (548 ≤ q ∧ q ≤ 556)) S S'))) := by
  refine X_QI (fun Q hQ => ?_)
  refine T_p xr_170_0 xn_170 (pc' := 1) (ls' := [(0, .ref 530)]) (st' := [.int (iI 0)]) rfl ?_
  refine T_p xr_170_1 xn_170 (pc' := 2) (ls' := [(1, .int (iI 0)), (0, .ref 530)]) (st' := []) rfl ?_
  refine T_p xr_170_2 xn_170 (pc' := 3) (ls' := [(1, .int (iI 0)), (0, .ref 530)]) (st' := [.int (iI 0)]) rfl ?_
  refine T_p xr_170_3 xn_170 (pc' := 4) (ls' := [(2, .int (iI 0)), (1, .int (iI 0)), (0, .ref 530)]) (st' := []) rfl ?_
  refine T_p xr_170_4 xn_170 (pc' := 5) (ls' := [(2, .int (iI 0)), (1, .int (iI 0)), (0, .ref 530)]) (st' := [.ref 530]) rfl ?_
  refine T_get xr_170_5 hO530 rfl (v := .int (iI (o 1))) rfl (pc' := 8) rfl ?_
  refine T_ie (y := iI len) (by rw [hol]) ?_
  refine T_p xr_170_8 xn_170 (pc' := 9) (ls' := [(3, .int (iI len)), (2, .int (iI 0)), (1, .int (iI 0)), (0, .ref 530)]) (st' := []) rfl ?_
  refine T_p xr_170_9 xn_170 (pc' := 10) (ls' := [(3, .int (iI len)), (2, .int (iI 0)), (1, .int (iI 0)), (0, .ref 530)]) (st' := [.ref 530]) rfl ?_
  refine T_p xr_170_10 xn_170 (pc' := 11) (ls' := [(3, .int (iI len)), (2, .int (iI 0)), (1, .int (iI 0)), (0, .ref 530)]) (st' := [.int (iI 0), .ref 530]) rfl ?_
  refine T_put xr_170_11 hO530 rfl (Nat.le_of_ble_eq_true rfl) rfl (fs' := [.ref 531, .int (iI 0), .ref 532, .int (iI (o 3)), .int (iI b), .int (iI (o 5)), .int (iI (o 6)), .int (iI (o 7)), .int (iI (o 8)), .int (iI (o 9)), .int (iI (o 10)), .int (iI (o 11)), .long nm, .ref 533, .ref 534, .ref 535, .ref 536, .ref 537, .ref 538, .ref 539, .ref 540, .ref 541, .ref 542, .ref 543, .ref 544, .ref 545, .ref 546, .ref 547, .int (iI rc), .int (iI (gk G)), .int (iI (gw G)), .int (iI (o 31)), .int (iI (o 32)), .int (iI (o 33)), .ref 548, .ref 549, .ref 550, .ref 551, .int (iI tn), .ref 552, .ref 553, .ref 554, .ref 555, .ref 556, .ref 557, .ref 558, .ref 559, .ref 560, .ref 561, .int (iI (o 49)), .ref 562, .ref 563, .ref 564, .ref 565, .ref 566, .ref 567, .ref 568, .ref 569, .int (iI (o 58)), .ref 570, .ref 571, .ref 572, .ref 573, .ref 574, .ref 575, .ref 576, .ref 577, .ref 578, .int (iI (o 68)), .int (iI (o 69)), .int (iI (o 70)), .ref 579]) rfl (pc' := 14) rfl (fun S966 h967 n968 e969 => ?_)
  have h975 := (n968 549 (by decide)).trans (hA549)
  have h976 := (n968 551 (by decide)).trans (hA551)
  have L970 : ∀ (m972 : Nat) (S977 : X_S) (n : Int) (k : Int) (nna : Int → Int64) (nua : Int → Int) (hnna : S977.1 549 = .inl (.long, 30, .inr (.inl fun k : Nat => nna (k : Int)))) (hnua : S977.1 551 = .inl (.int, 30, .inl fun k : Nat => iI (nua (k : Int)))) (hF974 : X_Fr (fun q => q = 549 ∨ q = 551) S966 S977) (hn : 0 ≤ n ∧ n ≤ 30) (hk : 0 ≤ k ∧ k ≤ len) (hX : ∃ z t, X_sn tb len k.toNat = some (n, z, t) ∧ 0 ≤ z ∧ (0 < z → k < len → ¬ X_ct (X_at tb len k)) ∧ ∀ v, 0 ≤ v → v < n → nna v = t v ∧ nua v = X_nv (t v)) (hm973 : len - k < m972), X_T sc 170 (14, [(3, .int (iI len)), (2, .int (iI k)), (1, .int (iI n)), (0, .ref 530)], [], S977) Q := by
    intro m972
    induction m972 with
    | zero =>
      intro S977 n k nna nua hnna hnua hF974 hn hk hX hm973
      exact (show False by omega).elim
    | succ m972 ih971 =>
      intro S977 n k nna nua hnna hnua hF974 hn hk hX hm973
      obtain ⟨z, t, hX1, hX0, hX2, hX3⟩ := hX
      refine T_p xr_170_14 xn_170 (pc' := 15) (ls' := [(3, .int (iI len)), (2, .int (iI k)), (1, .int (iI n)), (0, .ref 530)]) (st' := [.int (iI k)]) rfl ?_
      refine T_p xr_170_15 xn_170 (pc' := 16) (ls' := [(3, .int (iI len)), (2, .int (iI k)), (1, .int (iI n)), (0, .ref 530)]) (st' := [.int (iI len), .int (iI k)]) rfl ?_
      refine T_zicmp_ge xr_170_16 (t := 290) (pc' := 19) rfl rfl (fun c978 => ?_) (fun c978 => ?_)
      · skip
        have c978 : len ≤ k := c978
        refine T_p xr_170_290 xn_170 (pc' := 291) (ls' := [(3, .int (iI len)), (2, .int (iI k)), (1, .int (iI n)), (0, .ref 530)]) (st' := [.int (iI 0)]) rfl ?_
        refine T_p xr_170_291 xn_170 (pc' := 293) (ls' := [(4, .int (iI 0)), (3, .int (iI len)), (2, .int (iI k)), (1, .int (iI n)), (0, .ref 530)]) (st' := []) rfl ?_
        have h984 := (hF974.1 548 (by omega)).trans ((n968 548 (by decide)).trans (hA548))
        have h985 := (hF974.1 550 (by omega)).trans ((n968 550 (by decide)).trans (hA550))
        have L979 : ∀ (m981 : Nat) (S986 : X_S) (ic : Int) (tTa : Int → Int64) (tUa : Int → Int) (htTa : S986.1 548 = .inl (.long, 30, .inr (.inl fun k : Nat => tTa (k : Int)))) (htUa : S986.1 550 = .inl (.int, 30, .inl fun k : Nat => iI (tUa (k : Int)))) (hF983 : X_Fr (fun q => q = 548 ∨ q = 550) S977 S986) (hic : 0 ≤ ic ∧ ic ≤ n) (hcp : ∀ v, 0 ≤ v → v < ic → tTa v = nna v ∧ tUa v = nua v) (hm982 : n - ic < m981), X_T sc 170 (293, [(4, .int (iI ic)), (1, .int (iI n)), (0, .ref 530)], [], S986) Q := by
          intro m981
          induction m981 with
          | zero =>
            intro S986 ic tTa tUa htTa htUa hF983 hic hcp hm982
            exact (show False by omega).elim
          | succ m981 ih980 =>
            intro S986 ic tTa tUa htTa htUa hF983 hic hcp hm982
            refine T_p xr_170_293 xn_170 (pc' := 295) (ls' := [(4, .int (iI ic)), (1, .int (iI n)), (0, .ref 530)]) (st' := [.int (iI ic)]) rfl ?_
            refine T_p xr_170_295 xn_170 (pc' := 296) (ls' := [(4, .int (iI ic)), (1, .int (iI n)), (0, .ref 530)]) (st' := [.int (iI n), .int (iI ic)]) rfl ?_
            refine T_zicmp_ge xr_170_296 (t := 333) (pc' := 299) rfl rfl (fun c987 => ?_) (fun c987 => ?_)
            · skip
              have c987 : n ≤ ic := c987
              have hend : X_sn tb len len.toNat = some (n, z, t) := by
                have ek : k = len := by omega
                rw [ek] at hX1; exact hX1
              have hTT : ∀ u, 0 ≤ u → u < n → tTa u = gt G u := fun u h1 h2 => by rw [(hcp u h1 (by omega)).1, (hX3 u h1 h2).1, hgt n z t hend u h1 h2]
              have hTU : ∀ u, 0 ≤ u → u < n → tUa u = X_nv (gt G u) := fun u h1 h2 => by rw [(hcp u h1 (by omega)).2, (hX3 u h1 h2).2, hgt n z t hend u h1 h2]
              refine T_p xr_170_333 xn_170 (pc' := 334) (ls' := [(4, .int (iI ic)), (1, .int (iI n)), (0, .ref 530)]) (st' := [.ref 530]) rfl ?_
              refine T_p xr_170_334 xn_170 (pc' := 335) (ls' := [(4, .int (iI ic)), (1, .int (iI n)), (0, .ref 530)]) (st' := [.int (iI n), .ref 530]) rfl ?_
              have h988 := (hF983.1 530 (by omega)).trans ((hF974.1 530 (by omega)).trans (h967))
              refine T_put xr_170_335 h988 rfl (Nat.le_of_ble_eq_true rfl) rfl (fs' := [.ref 531, .int (iI 0), .ref 532, .int (iI (o 3)), .int (iI b), .int (iI (o 5)), .int (iI (o 6)), .int (iI (o 7)), .int (iI (o 8)), .int (iI (o 9)), .int (iI (o 10)), .int (iI (o 11)), .long nm, .ref 533, .ref 534, .ref 535, .ref 536, .ref 537, .ref 538, .ref 539, .ref 540, .ref 541, .ref 542, .ref 543, .ref 544, .ref 545, .ref 546, .ref 547, .int (iI rc), .int (iI (gk G)), .int (iI (gw G)), .int (iI (o 31)), .int (iI (o 32)), .int (iI (o 33)), .ref 548, .ref 549, .ref 550, .ref 551, .int (iI n), .ref 552, .ref 553, .ref 554, .ref 555, .ref 556, .ref 557, .ref 558, .ref 559, .ref 560, .ref 561, .int (iI (o 49)), .ref 562, .ref 563, .ref 564, .ref 565, .ref 566, .ref 567, .ref 568, .ref 569, .int (iI (o 58)), .ref 570, .ref 571, .ref 572, .ref 573, .ref 574, .ref 575, .ref 576, .ref 577, .ref 578, .int (iI (o 68)), .int (iI (o 69)), .int (iI (o 70)), .ref 579]) rfl (pc' := 338) rfl (fun S989 h990 n991 e992 => ?_)
              refine T_p xr_170_338 xn_170 (pc' := 339) (ls' := [(4, .int (iI ic)), (1, .int (iI n)), (0, .ref 530)]) (st' := [.ref 530]) rfl ?_
              refine T_p xr_170_339 xn_170 (pc' := 340) (ls' := [(4, .int (iI ic)), (1, .int (iI n)), (0, .ref 530)]) (st' := [.int (iI 0), .ref 530]) rfl ?_
              refine T_put xr_170_340 h990 rfl (Nat.le_of_ble_eq_true rfl) rfl (fs' := [.ref 531, .int (iI 0), .ref 532, .int (iI (o 3)), .int (iI b), .int (iI (o 5)), .int (iI (o 6)), .int (iI (o 7)), .int (iI (o 8)), .int (iI (o 9)), .int (iI (o 10)), .int (iI (o 11)), .long nm, .ref 533, .ref 534, .ref 535, .ref 536, .ref 537, .ref 538, .ref 539, .ref 540, .ref 541, .ref 542, .ref 543, .ref 544, .ref 545, .ref 546, .ref 547, .int (iI rc), .int (iI (gk G)), .int (iI (gw G)), .int (iI (o 31)), .int (iI (o 32)), .int (iI (o 33)), .ref 548, .ref 549, .ref 550, .ref 551, .int (iI n), .ref 552, .ref 553, .ref 554, .ref 555, .ref 556, .ref 557, .ref 558, .ref 559, .ref 560, .ref 561, .int (iI 0), .ref 562, .ref 563, .ref 564, .ref 565, .ref 566, .ref 567, .ref 568, .ref 569, .int (iI (o 58)), .ref 570, .ref 571, .ref 572, .ref 573, .ref 574, .ref 575, .ref 576, .ref 577, .ref 578, .int (iI (o 68)), .int (iI (o 69)), .int (iI (o 70)), .ref 579]) rfl (pc' := 343) rfl (fun S993 h994 n995 e996 => ?_)
              refine T_p xr_170_343 xn_170 (pc' := 344) (ls' := [(4, .int (iI ic)), (1, .int (iI n)), (0, .ref 530)]) (st' := [.ref 530]) rfl ?_
              refine T_p xr_170_344 xn_170 (pc' := 345) (ls' := [(4, .int (iI ic)), (1, .int (iI n)), (0, .ref 530)]) (st' := [.int (iI 0), .ref 530]) rfl ?_
              refine T_put xr_170_345 h994 rfl (Nat.le_of_ble_eq_true rfl) rfl (fs' := [.ref 531, .int (iI 0), .ref 532, .int (iI (o 3)), .int (iI b), .int (iI (o 5)), .int (iI (o 6)), .int (iI (o 7)), .int (iI (o 8)), .int (iI (o 9)), .int (iI (o 10)), .int (iI (o 11)), .long nm, .ref 533, .ref 534, .ref 535, .ref 536, .ref 537, .ref 538, .ref 539, .ref 540, .ref 541, .ref 542, .ref 543, .ref 544, .ref 545, .ref 546, .ref 547, .int (iI rc), .int (iI (gk G)), .int (iI (gw G)), .int (iI (o 31)), .int (iI (o 32)), .int (iI (o 33)), .ref 548, .ref 549, .ref 550, .ref 551, .int (iI n), .ref 552, .ref 553, .ref 554, .ref 555, .ref 556, .ref 557, .ref 558, .ref 559, .ref 560, .ref 561, .int (iI 0), .ref 562, .ref 563, .ref 564, .ref 565, .ref 566, .ref 567, .ref 568, .ref 569, .int (iI (o 58)), .ref 570, .ref 571, .ref 572, .ref 573, .ref 574, .ref 575, .ref 576, .ref 577, .ref 578, .int (iI 0), .int (iI (o 69)), .int (iI (o 70)), .ref 579]) rfl (pc' := 348) rfl (fun S997 h998 n999 e1000 => ?_)
              refine T_p xr_170_348 xn_170 (pc' := 349) (ls' := [(4, .int (iI ic)), (1, .int (iI n)), (0, .ref 530)]) (st' := [.ref 530]) rfl ?_
              refine T_cv (S := S997) (q := 530) xr_170_349 xf_175.1 xf_175.2.1 xn_175 (as := []) (r := []) rfl h998 (Nat.le_of_ble_eq_true rfl) (Nat.le_of_ble_eq_true rfl) (pc' := 352) rfl (ls' := [(0, .ref 530)]) rfl ?_
              have h1001 := (n999 535 (by decide)).trans ((n995 535 (by decide)).trans ((n991 535 (by decide)).trans ((hF983.1 535 (by omega)).trans ((hF974.1 535 (by omega)).trans ((n968 535 (by decide)).trans (hA535))))))
              have h1002 := (n999 536 (by decide)).trans ((n995 536 (by decide)).trans ((n991 536 (by decide)).trans ((hF983.1 536 (by omega)).trans ((hF974.1 536 (by omega)).trans ((n968 536 (by decide)).trans (hA536))))))
              have h1003 := (n999 537 (by decide)).trans ((n995 537 (by decide)).trans ((n991 537 (by decide)).trans ((hF983.1 537 (by omega)).trans ((hF974.1 537 (by omega)).trans ((n968 537 (by decide)).trans (hA537))))))
              have h1004 := (n999 538 (by decide)).trans ((n995 538 (by decide)).trans ((n991 538 (by decide)).trans ((hF983.1 538 (by omega)).trans ((hF974.1 538 (by omega)).trans ((n968 538 (by decide)).trans (hA538))))))
              have h1005 := (n999 539 (by decide)).trans ((n995 539 (by decide)).trans ((n991 539 (by decide)).trans ((hF983.1 539 (by omega)).trans ((hF974.1 539 (by omega)).trans ((n968 539 (by decide)).trans (hA539))))))
              have h1006 := (n999 540 (by decide)).trans ((n995 540 (by decide)).trans ((n991 540 (by decide)).trans ((hF983.1 540 (by omega)).trans ((hF974.1 540 (by omega)).trans ((n968 540 (by decide)).trans (hA540))))))
              have h1007 := (n999 541 (by decide)).trans ((n995 541 (by decide)).trans ((n991 541 (by decide)).trans ((hF983.1 541 (by omega)).trans ((hF974.1 541 (by omega)).trans ((n968 541 (by decide)).trans (hA541))))))
              have h1008 := (n999 545 (by decide)).trans ((n995 545 (by decide)).trans ((n991 545 (by decide)).trans ((hF983.1 545 (by omega)).trans ((hF974.1 545 (by omega)).trans ((n968 545 (by decide)).trans (hA545))))))
              have h1009 := (n999 546 (by decide)).trans ((n995 546 (by decide)).trans ((n991 546 (by decide)).trans ((hF983.1 546 (by omega)).trans ((hF974.1 546 (by omega)).trans ((n968 546 (by decide)).trans (hA546))))))
              have h1010 := (n999 547 (by decide)).trans ((n995 547 (by decide)).trans ((n991 547 (by decide)).trans ((hF983.1 547 (by omega)).trans ((hF974.1 547 (by omega)).trans ((n968 547 (by decide)).trans (hA547))))))
              have h1011 := (n999 548 (by decide)).trans ((n995 548 (by decide)).trans ((n991 548 (by decide)).trans (htTa)))
              have h1012 := (n999 550 (by decide)).trans ((n995 550 (by decide)).trans ((n991 550 (by decide)).trans (htUa)))
              have h1013 := (n999 552 (by decide)).trans ((n995 552 (by decide)).trans ((n991 552 (by decide)).trans ((hF983.1 552 (by omega)).trans ((hF974.1 552 (by omega)).trans ((n968 552 (by decide)).trans (hA552))))))
              have h1014 := (n999 553 (by decide)).trans ((n995 553 (by decide)).trans ((n991 553 (by decide)).trans ((hF983.1 553 (by omega)).trans ((hF974.1 553 (by omega)).trans ((n968 553 (by decide)).trans (hA553))))))
              have h1015 := (n999 554 (by decide)).trans ((n995 554 (by decide)).trans ((n991 554 (by decide)).trans ((hF983.1 554 (by omega)).trans ((hF974.1 554 (by omega)).trans ((n968 554 (by decide)).trans (hA554))))))
              have h1016 := (n999 555 (by decide)).trans ((n995 555 (by decide)).trans ((n991 555 (by decide)).trans ((hF983.1 555 (by omega)).trans ((hF974.1 555 (by omega)).trans ((n968 555 (by decide)).trans (hA555))))))
              have h1017 := (n999 556 (by decide)).trans ((n995 556 (by decide)).trans ((n991 556 (by decide)).trans ((hF983.1 556 (by omega)).trans ((hF974.1 556 (by omega)).trans ((n968 556 (by decide)).trans (hA556))))))
              refine T_mono (r_countAll sc S997 tg kU wR wL wK wM wH eP eH hK tTa tUa oW oK oH r1 r2 (X_ou (X_ou (X_ou o 1 0) 49 0) 68 0) nm b rc G n h998 h1001 h1002 h1003 h1004 h1005 h1006 h1007 h1008 h1009 h1010 h1011 h1012 h1013 h1014 h1015 h1016 h1017 (by omega) hG (by omega) hTT hTU hKU hTG hWR hWL hWK hWM hWH hEP hEH hHK) (fun v1018 S1019 h1020 => ?_)
              rcases h1020 with ⟨oW1021, oK1022, oH1023, rx1024, rx1025, hv1026, hp1027, ha1028, ha1029, ha1030, ha1031, ha1032, hf1033⟩
              rw [hv1026]
              show X_T sc 170 (352, [(4, .int (iI ic)), (1, .int (iI n)), (0, .ref 530)], [], S1019) _
              refine T_p xr_170_352 xn_170 (pc' := 353) (ls' := [(4, .int (iI ic)), (1, .int (iI n)), (0, .ref 530)]) (st' := [.int (iI n)]) rfl ?_
              refine T_iret xr_170_353 xf_170.2.2 rfl ?_
              refine hQ _ _ ?_
              have h1034 := (hf1033.1 548 (by omega)).trans (h1011)
              have h1035 := (hf1033.1 549 (by omega)).trans ((n999 549 (by decide)).trans ((n995 549 (by decide)).trans ((n991 549 (by decide)).trans ((hF983.1 549 (by omega)).trans (hnna)))))
              have h1036 := (hf1033.1 550 (by omega)).trans (h1012)
              have h1037 := (hf1033.1 551 (by omega)).trans ((n999 551 (by decide)).trans ((n995 551 (by decide)).trans ((n991 551 (by decide)).trans ((hF983.1 551 (by omega)).trans (hnua)))))
              have h1038 := (hf1033.1 530 (by omega)).trans (h998)
              exact Or.inr ⟨n, z, t, tTa, nna, oW1021, oK1022, oH1023, rx1024, rx1025, tUa, nua, rfl, hend, (by omega), hTT, hTU, (by assumption), h1038, h1034, h1035, h1036, h1037, ha1028, ha1029, ha1030, ha1031, ha1032, (((((((X_Fr.rf).tr (X_Fr.of n968 e969 (by omega))).tr (X_Fr.mono ⟨hF974.1, hF974.2⟩ (fun q hq => (by omega)))).tr (X_Fr.mono ⟨hF983.1, hF983.2⟩ (fun q hq => (by omega)))).tr (X_Fr.of n991 e992 (by omega))).tr (X_Fr.of n995 e996 (by omega))).tr (X_Fr.of n999 e1000 (by omega))).tr (X_Fr.mono ⟨hf1033.1, hf1033.2⟩ (fun q hq => (by omega)))⟩
            · skip
              have c987 : ¬ (n ≤ ic) := c987
              refine T_p xr_170_299 xn_170 (pc' := 300) (ls' := [(4, .int (iI ic)), (1, .int (iI n)), (0, .ref 530)]) (st' := [.ref 530]) rfl ?_
              have h1039 := (hF983.1 530 (by omega)).trans ((hF974.1 530 (by omega)).trans (h967))
              refine T_get xr_170_300 h1039 rfl (v := .ref 548) rfl (pc' := 303) rfl ?_
              refine T_p xr_170_303 xn_170 (pc' := 305) (ls' := [(4, .int (iI ic)), (1, .int (iI n)), (0, .ref 530)]) (st' := [.int (iI ic), .ref 548]) rfl ?_
              refine T_p xr_170_305 xn_170 (pc' := 306) (ls' := [(4, .int (iI ic)), (1, .int (iI n)), (0, .ref 530)]) (st' := [.ref 530, .int (iI ic), .ref 548]) rfl ?_
              refine T_get xr_170_306 h1039 rfl (v := .ref 549) rfl (pc' := 309) rfl ?_
              refine T_p xr_170_309 xn_170 (pc' := 311) (ls' := [(4, .int (iI ic)), (1, .int (iI n)), (0, .ref 530)]) (st' := [.int (iI ic), .ref 549, .int (iI ic), .ref 548]) rfl ?_
              have h1040 := (hF983.1 549 (by omega)).trans (hnna)
              refine T_zlald xr_170_311 h1040 (pc' := 312) rfl ?_
              refine T_zlast xr_170_312 htTa (pc' := 313) rfl (fun S1041 h1042 n1043 e1044 => ?_)
              refine T_p xr_170_313 xn_170 (pc' := 314) (ls' := [(4, .int (iI ic)), (1, .int (iI n)), (0, .ref 530)]) (st' := [.ref 530]) rfl ?_
              have h1045 := (n1043 530 (by decide)).trans (h1039)
              refine T_get xr_170_314 h1045 rfl (v := .ref 550) rfl (pc' := 317) rfl ?_
              refine T_p xr_170_317 xn_170 (pc' := 319) (ls' := [(4, .int (iI ic)), (1, .int (iI n)), (0, .ref 530)]) (st' := [.int (iI ic), .ref 550]) rfl ?_
              refine T_p xr_170_319 xn_170 (pc' := 320) (ls' := [(4, .int (iI ic)), (1, .int (iI n)), (0, .ref 530)]) (st' := [.ref 530, .int (iI ic), .ref 550]) rfl ?_
              refine T_get xr_170_320 h1045 rfl (v := .ref 551) rfl (pc' := 323) rfl ?_
              refine T_p xr_170_323 xn_170 (pc' := 325) (ls' := [(4, .int (iI ic)), (1, .int (iI n)), (0, .ref 530)]) (st' := [.int (iI ic), .ref 551, .int (iI ic), .ref 550]) rfl ?_
              have h1046 := (n1043 551 (by decide)).trans ((hF983.1 551 (by omega)).trans (hnua))
              refine T_ziald xr_170_325 h1046 (pc' := 326) rfl ?_
              have h1047 := (n1043 550 (by decide)).trans (htUa)
              refine T_ziast xr_170_326 h1047 (pc' := 327) rfl (fun S1048 h1049 n1050 e1051 => ?_)
              refine T_ziinc xr_170_327 xn_170 (a := ic) (z := ic + 1) rfl (Nat.le_of_ble_eq_true rfl) (by omega) (ls' := [(4, .int (iI (ic + 1))), (1, .int (iI n)), (0, .ref 530)]) rfl (pc' := 330) rfl ?_
              refine T_p xr_170_330 xn_170 (pc' := 293) (ls' := [(4, .int (iI (ic + 1))), (1, .int (iI n)), (0, .ref 530)]) (st' := []) rfl ?_
              have h1052 := (n1050 548 (by decide)).trans (h1042)
              exact ih980 S1048 (ic + 1) (X_ug tTa ic (nna ic)) (X_ug tUa ic (nua ic)) h1052 h1049 (hF983.tr (((X_Fr.rf).tr (X_Fr.of n1043 e1044 (by omega))).tr (X_Fr.of n1050 e1051 (by omega)))) (by omega) (fun v h1 h2 => by
                    by_cases hv : v = ic
                    · rw [hv, X_ug_s, X_ug_s]; exact ⟨rfl, rfl⟩
                    · rw [X_ug_n _ _ hv, X_ug_n _ _ hv]; exact hcp v h1 (by omega)) (by omega)
        refine T_sub (ls := [(4, .int (iI 0)), (1, .int (iI n)), (0, .ref 530)]) ⟨rfl, rfl, rfl, trivial⟩ rfl rfl ?_
        exact L979 (n + 1).toNat S977 0 tT tU h984 h985 ((X_Fr.rf)) (by omega) (fun v h1 h2 => absurd h2 (by omega)) (by omega)
      · skip
        have c978 : ¬ (len ≤ k) := c978
        refine T_p xr_170_19 xn_170 (pc' := 20) (ls' := [(3, .int (iI len)), (2, .int (iI k)), (1, .int (iI n)), (0, .ref 530)]) (st' := [.ref 530]) rfl ?_
        have h1053 := (hF974.1 530 (by omega)).trans (h967)
        refine T_get xr_170_20 h1053 rfl (v := .ref 531) rfl (pc' := 23) rfl ?_
        refine T_p xr_170_23 xn_170 (pc' := 24) (ls' := [(3, .int (iI len)), (2, .int (iI k)), (1, .int (iI n)), (0, .ref 530)]) (st' := [.int (iI k), .ref 531]) rfl ?_
        have h1054 := (hF974.1 531 (by omega)).trans ((n968 531 (by decide)).trans (hA531))
        refine T_zbald xr_170_24 h1054 (pc' := 25) rfl ?_
        refine T_p xr_170_25 xn_170 (pc' := 28) (ls' := [(3, .int (iI len)), (2, .int (iI k)), (1, .int (iI n)), (0, .ref 530)]) (st' := [.int (iI 255), .int (iI (tp k))]) rfl ?_
        refine T_zop xr_170_28 (pc' := 29) rfl (z := (tp k) % 256) (iI_m255 _) ?_
        have ht0 := htp k (by omega) (by omega)
        have ha0 : X_at tb len k = tb k % 256 := X_at_in (by omega)
        refine T_ie (y := iI (X_at tb len k)) (by rw [ha0, ht0.1]) ?_
        refine T_p xr_170_29 xn_170 (pc' := 31) (ls' := [(4, .int (iI (X_at tb len k))), (3, .int (iI len)), (2, .int (iI k)), (1, .int (iI n)), (0, .ref 530)]) (st' := []) rfl ?_
        refine T_p xr_170_31 xn_170 (pc' := 33) (ls' := [(4, .int (iI (X_at tb len k))), (3, .int (iI len)), (2, .int (iI k)), (1, .int (iI n)), (0, .ref 530)]) (st' := [.int (iI (X_at tb len k))]) rfl ?_
        refine T_p xr_170_33 xn_170 (pc' := 35) (ls' := [(4, .int (iI (X_at tb len k))), (3, .int (iI len)), (2, .int (iI k)), (1, .int (iI n)), (0, .ref 530)]) (st' := [.int (iI 32), .int (iI (X_at tb len k))]) rfl ?_
        refine T_zicmp_eq xr_170_35 (t := 45) (pc' := 38) rfl rfl (fun c1055 => ?_) (fun c1055 => ?_)
        · skip
          have c1055 : (X_at tb len k) = 32 := c1055
          refine T_ziinc xr_170_45 xn_170 (a := k) (z := k + 1) rfl (Nat.le_of_ble_eq_true rfl) (by omega) (ls' := [(2, .int (iI (k + 1))), (4, .int (iI (X_at tb len k))), (3, .int (iI len)), (1, .int (iI n)), (0, .ref 530)]) rfl (pc' := 48) rfl ?_
          refine T_p xr_170_48 xn_170 (pc' := 14) (ls' := [(2, .int (iI (k + 1))), (4, .int (iI (X_at tb len k))), (3, .int (iI len)), (1, .int (iI n)), (0, .ref 530)]) (st' := []) rfl ?_
          refine T_sub (ls := [(3, .int (iI len)), (2, .int (iI (k + 1))), (1, .int (iI n)), (0, .ref 530)]) ⟨rfl, rfl, rfl, rfl, trivial⟩ rfl rfl ?_
          exact ih971 S977 n (k + 1) nna nua hnna hnua (hF974.tr (X_Fr.rf)) (by omega) (by omega) ⟨0, t, by rw [X_sn_s (by omega) hX1]; exact X_sn1_b (by unfold X_isBl; omega), by omega, fun y => absurd y (by omega), hX3⟩ (by omega)
        · skip
          have c1055 : ¬ ((X_at tb len k) = 32) := c1055
          refine T_p xr_170_38 xn_170 (pc' := 40) (ls' := [(4, .int (iI (X_at tb len k))), (3, .int (iI len)), (2, .int (iI k)), (1, .int (iI n)), (0, .ref 530)]) (st' := [.int (iI (X_at tb len k))]) rfl ?_
          refine T_p xr_170_40 xn_170 (pc' := 42) (ls' := [(4, .int (iI (X_at tb len k))), (3, .int (iI len)), (2, .int (iI k)), (1, .int (iI n)), (0, .ref 530)]) (st' := [.int (iI 10), .int (iI (X_at tb len k))]) rfl ?_
          refine T_zicmp_ne xr_170_42 (t := 51) (pc' := 45) rfl rfl (fun c1056 => ?_) (fun c1056 => ?_)
          · skip
            have c1056 : ¬ (X_at tb len k) = 10 := c1056
            refine T_p xr_170_51 xn_170 (pc' := 53) (ls' := [(4, .int (iI (X_at tb len k))), (3, .int (iI len)), (2, .int (iI k)), (1, .int (iI n)), (0, .ref 530)]) (st' := [.int (iI (X_at tb len k))]) rfl ?_
            refine T_p xr_170_53 xn_170 (pc' := 55) (ls' := [(4, .int (iI (X_at tb len k))), (3, .int (iI len)), (2, .int (iI k)), (1, .int (iI n)), (0, .ref 530)]) (st' := [.int (iI 33), .int (iI (X_at tb len k))]) rfl ?_
            refine T_zicmp_lt xr_170_55 (t := 71) (pc' := 58) rfl rfl (fun c1057 => ?_) (fun c1057 => ?_)
            · skip
              have c1057 : (X_at tb len k) < 33 := c1057
              have hnone : X_sn tb len len.toNat = none := by
                refine X_sn_x (k := k) (by omega) (by omega) ?_
                rw [X_sn_s (by omega) hX1]
                by_cases hc : X_at tb len k < 33 ∨ 126 < X_at tb len k
                · exact X_sn1_x (by unfold X_isBl; omega) hc
                · rw [X_sn1_n (by unfold X_isBl; omega) hc (fun y => hX2 y.1 (by omega) (by unfold X_ct; exact ⟨by omega, by omega, y.2⟩)), if_pos (by omega)]
              refine T_p xr_170_71 xn_170 (pc' := 72) (ls' := [(4, .int (iI (X_at tb len k))), (3, .int (iI len)), (2, .int (iI k)), (1, .int (iI n)), (0, .ref 530)]) (st' := [.int (iI (-1))]) rfl ?_
              refine T_iret xr_170_72 xf_170.2.2 rfl ?_
              refine hQ _ _ ?_
              exact Or.inl ⟨nna, nua, rfl, hnone, h1053, hnna, hnua, ((X_Fr.rf).tr (X_Fr.of n968 e969 (by omega))).tr (X_Fr.mono ⟨hF974.1, hF974.2⟩ (fun q hq => (by omega)))⟩
            · skip
              have c1057 : ¬ ((X_at tb len k) < 33) := c1057
              refine T_p xr_170_58 xn_170 (pc' := 60) (ls' := [(4, .int (iI (X_at tb len k))), (3, .int (iI len)), (2, .int (iI k)), (1, .int (iI n)), (0, .ref 530)]) (st' := [.int (iI (X_at tb len k))]) rfl ?_
              refine T_p xr_170_60 xn_170 (pc' := 62) (ls' := [(4, .int (iI (X_at tb len k))), (3, .int (iI len)), (2, .int (iI k)), (1, .int (iI n)), (0, .ref 530)]) (st' := [.int (iI 126), .int (iI (X_at tb len k))]) rfl ?_
              refine T_zicmp_gt xr_170_62 (t := 71) (pc' := 65) rfl rfl (fun c1058 => ?_) (fun c1058 => ?_)
              · skip
                have c1058 : 126 < (X_at tb len k) := c1058
                have hnone : X_sn tb len len.toNat = none := by
                  refine X_sn_x (k := k) (by omega) (by omega) ?_
                  rw [X_sn_s (by omega) hX1]
                  by_cases hc : X_at tb len k < 33 ∨ 126 < X_at tb len k
                  · exact X_sn1_x (by unfold X_isBl; omega) hc
                  · rw [X_sn1_n (by unfold X_isBl; omega) hc (fun y => hX2 y.1 (by omega) (by unfold X_ct; exact ⟨by omega, by omega, y.2⟩)), if_pos (by omega)]
                refine T_p xr_170_71 xn_170 (pc' := 72) (ls' := [(4, .int (iI (X_at tb len k))), (3, .int (iI len)), (2, .int (iI k)), (1, .int (iI n)), (0, .ref 530)]) (st' := [.int (iI (-1))]) rfl ?_
                refine T_iret xr_170_72 xf_170.2.2 rfl ?_
                refine hQ _ _ ?_
                exact Or.inl ⟨nna, nua, rfl, hnone, h1053, hnna, hnua, ((X_Fr.rf).tr (X_Fr.of n968 e969 (by omega))).tr (X_Fr.mono ⟨hF974.1, hF974.2⟩ (fun q hq => (by omega)))⟩
              · skip
                have c1058 : ¬ (126 < (X_at tb len k)) := c1058
                refine T_p xr_170_65 xn_170 (pc' := 66) (ls' := [(4, .int (iI (X_at tb len k))), (3, .int (iI len)), (2, .int (iI k)), (1, .int (iI n)), (0, .ref 530)]) (st' := [.int (iI n)]) rfl ?_
                refine T_p xr_170_66 xn_170 (pc' := 68) (ls' := [(4, .int (iI (X_at tb len k))), (3, .int (iI len)), (2, .int (iI k)), (1, .int (iI n)), (0, .ref 530)]) (st' := [.int (iI 30), .int (iI n)]) rfl ?_
                refine T_zicmp_ne xr_170_68 (t := 73) (pc' := 71) rfl rfl (fun c1059 => ?_) (fun c1059 => ?_)
                · skip
                  have c1059 : ¬ n = 30 := c1059
                  refine T_p xr_170_73 xn_170 (pc' := 74) (ls' := [(4, .int (iI (X_at tb len k))), (3, .int (iI len)), (2, .int (iI k)), (1, .int (iI n)), (0, .ref 530)]) (st' := [.int (iI k)]) rfl ?_
                  refine T_p xr_170_74 xn_170 (pc' := 76) (ls' := [(5, .int (iI k)), (4, .int (iI (X_at tb len k))), (3, .int (iI len)), (2, .int (iI k)), (1, .int (iI n)), (0, .ref 530)]) (st' := []) rfl ?_
                  refine T_ziinc xr_170_76 xn_170 (a := k) (z := k + 1) rfl (Nat.le_of_ble_eq_true rfl) (by omega) (ls' := [(2, .int (iI (k + 1))), (5, .int (iI k)), (4, .int (iI (X_at tb len k))), (3, .int (iI len)), (1, .int (iI n)), (0, .ref 530)]) rfl (pc' := 79) rfl ?_
                  refine T_p xr_170_79 xn_170 (pc' := 81) (ls' := [(2, .int (iI (k + 1))), (5, .int (iI k)), (4, .int (iI (X_at tb len k))), (3, .int (iI len)), (1, .int (iI n)), (0, .ref 530)]) (st' := [.int (iI (X_at tb len k))]) rfl ?_
                  refine T_p xr_170_81 xn_170 (pc' := 83) (ls' := [(2, .int (iI (k + 1))), (5, .int (iI k)), (4, .int (iI (X_at tb len k))), (3, .int (iI len)), (1, .int (iI n)), (0, .ref 530)]) (st' := [.int (iI 40), .int (iI (X_at tb len k))]) rfl ?_
                  refine T_zicmp_eq xr_170_83 (t := 156) (pc' := 86) rfl rfl (fun c1060 => ?_) (fun c1060 => ?_)
                  · skip
                    have c1060 : (X_at tb len k) = 40 := c1060
                    refine T_p xr_170_156 xn_170 (pc' := 157) (ls' := [(2, .int (iI (k + 1))), (5, .int (iI k)), (4, .int (iI (X_at tb len k))), (3, .int (iI len)), (1, .int (iI n)), (0, .ref 530)]) (st' := [.int (iI (k + 1))]) rfl ?_
                    refine T_p xr_170_157 xn_170 (pc' := 159) (ls' := [(2, .int (iI (k + 1))), (5, .int (iI k)), (4, .int (iI (X_at tb len k))), (3, .int (iI len)), (1, .int (iI n)), (0, .ref 530)]) (st' := [.int (iI k), .int (iI (k + 1))]) rfl ?_
                    refine T_zisub xr_170_159 (z := (k + 1) - k) rfl (pc' := 160) rfl ?_
                    refine T_p xr_170_160 xn_170 (pc' := 162) (ls' := [(2, .int (iI (k + 1))), (5, .int (iI k)), (4, .int (iI (X_at tb len k))), (3, .int (iI len)), (1, .int (iI n)), (0, .ref 530)]) (st' := [.int (iI 8), .int (iI ((k + 1) - k))]) rfl ?_
                    refine T_zicmp_le xr_170_162 (t := 167) (pc' := 165) rfl rfl (fun c1061 => ?_) (fun c1061 => ?_)
                    · skip
                      have c1061 : ((k + 1) - k) ≤ 8 := c1061
                      refine T_p xr_170_167 xn_170 (pc' := 168) (ls' := [(2, .int (iI (k + 1))), (5, .int (iI k)), (4, .int (iI (X_at tb len k))), (3, .int (iI len)), (1, .int (iI n)), (0, .ref 530)]) (st' := [.ref 530]) rfl ?_
                      refine T_get xr_170_168 h1053 rfl (v := .ref 549) rfl (pc' := 171) rfl ?_
                      refine T_p xr_170_171 xn_170 (pc' := 172) (ls' := [(2, .int (iI (k + 1))), (5, .int (iI k)), (4, .int (iI (X_at tb len k))), (3, .int (iI len)), (1, .int (iI n)), (0, .ref 530)]) (st' := [.int (iI n), .ref 549]) rfl ?_
                      refine T_p xr_170_172 xn_170 (pc' := 173) (ls' := [(2, .int (iI (k + 1))), (5, .int (iI k)), (4, .int (iI (X_at tb len k))), (3, .int (iI len)), (1, .int (iI n)), (0, .ref 530)]) (st' := [.long (iL 0), .int (iI n), .ref 549]) rfl ?_
                      refine T_zlast xr_170_173 hnna (pc' := 174) rfl (fun S1062 h1063 n1064 e1065 => ?_)
                      refine T_p xr_170_174 xn_170 (pc' := 175) (ls' := [(2, .int (iI (k + 1))), (5, .int (iI k)), (4, .int (iI (X_at tb len k))), (3, .int (iI len)), (1, .int (iI n)), (0, .ref 530)]) (st' := [.ref 530]) rfl ?_
                      have h1066 := (n1064 530 (by decide)).trans (h1053)
                      refine T_get xr_170_175 h1066 rfl (v := .ref 551) rfl (pc' := 178) rfl ?_
                      refine T_p xr_170_178 xn_170 (pc' := 179) (ls' := [(2, .int (iI (k + 1))), (5, .int (iI k)), (4, .int (iI (X_at tb len k))), (3, .int (iI len)), (1, .int (iI n)), (0, .ref 530)]) (st' := [.int (iI n), .ref 551]) rfl ?_
                      refine T_p xr_170_179 xn_170 (pc' := 180) (ls' := [(2, .int (iI (k + 1))), (5, .int (iI k)), (4, .int (iI (X_at tb len k))), (3, .int (iI len)), (1, .int (iI n)), (0, .ref 530)]) (st' := [.int (iI 0), .int (iI n), .ref 551]) rfl ?_
                      have h1067 := (n1064 551 (by decide)).trans (hnua)
                      refine T_ziast xr_170_180 h1067 (pc' := 181) rfl (fun S1068 h1069 n1070 e1071 => ?_)
                      refine T_p xr_170_181 xn_170 (pc' := 182) (ls' := [(2, .int (iI (k + 1))), (5, .int (iI k)), (4, .int (iI (X_at tb len k))), (3, .int (iI len)), (1, .int (iI n)), (0, .ref 530)]) (st' := [.int (iI 1)]) rfl ?_
                      refine T_p xr_170_182 xn_170 (pc' := 184) (ls' := [(6, .int (iI 1)), (2, .int (iI (k + 1))), (5, .int (iI k)), (4, .int (iI (X_at tb len k))), (3, .int (iI len)), (1, .int (iI n)), (0, .ref 530)]) (st' := []) rfl ?_
                      refine T_p xr_170_184 xn_170 (pc' := 186) (ls' := [(6, .int (iI 1)), (2, .int (iI (k + 1))), (5, .int (iI k)), (4, .int (iI (X_at tb len k))), (3, .int (iI len)), (1, .int (iI n)), (0, .ref 530)]) (st' := [.int (iI k)]) rfl ?_
                      refine T_p xr_170_186 xn_170 (pc' := 188) (ls' := [(7, .int (iI k)), (6, .int (iI 1)), (2, .int (iI (k + 1))), (5, .int (iI k)), (4, .int (iI (X_at tb len k))), (3, .int (iI len)), (1, .int (iI n)), (0, .ref 530)]) (st' := []) rfl ?_
                      have h1077 := (n1070 549 (by decide)).trans (h1063)
                      have L1072 : ∀ (m1074 : Nat) (S1078 : X_S) (i : Int) (kz : Int) (pl : Int) (nn3 : Int → Int64) (nu3 : Int → Int) (hnn3 : S1078.1 549 = .inl (.long, 30, .inr (.inl fun k : Nat => nn3 (k : Int)))) (hnu3 : S1078.1 551 = .inl (.int, 30, .inl fun k : Nat => iI (nu3 (k : Int)))) (hF1076 : X_Fr (fun q => q = 549 ∨ q = 551) S1068 S1078) (hi : k ≤ i ∧ i ≤ kz ∧ kz - k ≤ 8) (hkz : k + 1 ≤ kz ∧ kz ≤ len) (hscz : ∀ q, k < q → q < kz → X_ct (X_at tb len q)) (hez : (X_ct (X_at tb len k) → kz < len → ¬ X_ct (X_at tb len kz)) ∧ (¬ X_ct (X_at tb len k) → kz = k + 1)) (hnn : nn3 n = X_pk tb len k (i - k).toNat) (hnu : nu3 n = X_rv tb len k (i - k).toNat) (hpl : (pl = 1 ∧ ¬ X_rv tb len k (i - k).toNat = -1) ∨ (pl = 0 ∧ X_rv tb len k (i - k).toNat = -1)) (hold : ∀ v, 0 ≤ v → v < n → nn3 v = t v ∧ nu3 v = X_nv (t v)) (hm1075 : len - i < m1074), X_T sc 170 (188, [(7, .int (iI i)), (6, .int (iI pl)), (5, .int (iI k)), (3, .int (iI len)), (2, .int (iI kz)), (1, .int (iI n)), (0, .ref 530)], [], S1078) Q := by
                        intro m1074
                        induction m1074 with
                        | zero =>
                          intro S1078 i kz pl nn3 nu3 hnn3 hnu3 hF1076 hi hkz hscz hez hnn hnu hpl hold hm1075
                          exact (show False by omega).elim
                        | succ m1074 ih1073 =>
                          intro S1078 i kz pl nn3 nu3 hnn3 hnu3 hF1076 hi hkz hscz hez hnn hnu hpl hold hm1075
                          have hrr := X_rv_r (tb := tb) (len := len) (p := k) (i - k).toNat (fun u g1 g2 => by have := X_at_in (tb := tb) (len := len) (p := k + u) (by omega); omega)
                          have h10 : (10 : Nat) ^ (i - k).toNat ≤ 10 ^ 8 := Nat.pow_le_pow_right (by omega) (by omega)
                          have h108 : (10 : Nat) ^ 8 = 100000000 := by decide
                          refine T_p xr_170_188 xn_170 (pc' := 190) (ls' := [(7, .int (iI i)), (6, .int (iI pl)), (5, .int (iI k)), (3, .int (iI len)), (2, .int (iI kz)), (1, .int (iI n)), (0, .ref 530)]) (st' := [.int (iI i)]) rfl ?_
                          refine T_p xr_170_190 xn_170 (pc' := 191) (ls' := [(7, .int (iI i)), (6, .int (iI pl)), (5, .int (iI k)), (3, .int (iI len)), (2, .int (iI kz)), (1, .int (iI n)), (0, .ref 530)]) (st' := [.int (iI kz), .int (iI i)]) rfl ?_
                          refine T_zicmp_ge xr_170_191 (t := 284) (pc' := 194) rfl rfl (fun c1079 => ?_) (fun c1079 => ?_)
                          · skip
                            have c1079 : kz ≤ i := c1079
                            have hpn : ∃ T z', X_sn tb len kz.toNat = some (n + 1, z', T) ∧ 0 ≤ z' ∧ (0 < z' → kz < len → ¬ X_ct (X_at tb len kz)) ∧ T n = X_pk tb len k (kz - k).toNat ∧ ∀ i, ¬ i = n → T i = t i := by
                              by_cases hck : X_ct (X_at tb len k)
                              · have hz0 : z = 0 := by
                                  by_cases hz : 0 < z
                                  · exact absurd hck (hX2 hz (by omega))
                                  · omega
                                obtain ⟨T, a1, a2, a3⟩ := X_sn_m (by omega) hX1 (by omega) hck hz0 (kz - k).toNat (by omega) (by omega) (fun q h1 h2 => hscz q h1 (by omega))
                                rw [show k + (((kz - k).toNat : Nat) : Int) = kz by omega] at a1
                                exact ⟨T, _, a1, by omega, fun _ h1 => hez.1 hck h1, a2, a3⟩
                              · have a1 := X_sn_f (by omega) hX1 (by omega) ⟨by unfold X_isBl; omega, by omega⟩ (fun _ => hck)
                                have hbr : X_at tb len k = 40 ∨ X_at tb len k = 41 := by unfold X_ct at hck; omega
                                have hkz := hez.2 hck
                                rw [if_pos hbr] at a1
                                rw [hkz]
                                exact ⟨_, 0, a1, by omega, fun y => absurd y (by omega), by rw [X_ug_s, show (k + 1 - k).toNat = 1 by omega], fun i hi => X_ug_n _ _ hi⟩
                            obtain ⟨T, z', b1, b2, b3, b4, b5⟩ := hpn
                            have hnvk : X_nv (X_pk tb len k (kz - k).toNat) = X_rv tb len k (kz - k).toNat := X_nv_pk _ (by omega) (fun u h1 h2 => by
                              have h3 := X_at_in (tb := tb) (len := len) (p := k + u) (by omega)
                              by_cases hu : u = 0
                              · subst hu; rw [show k + 0 = k by omega]; omega
                              · have := hscz (k + u) (by omega) (by omega)
                                unfold X_ct at this; omega)
                            have hie : i = kz := by omega
                            have hnew : ∃ z t, X_sn tb len kz.toNat = some (n + 1, z, t) ∧ 0 ≤ z ∧ (0 < z → kz < len → ¬ X_ct (X_at tb len kz)) ∧ ∀ v, 0 ≤ v → v < n + 1 → nn3 v = t v ∧ nu3 v = X_nv (t v) := ⟨z', T, b1, b2, b3, fun v h1 h2 => by
                              by_cases hv : v = n
                              · rw [hv, b4, hnvk, ← hie]; exact ⟨hnn, hnu⟩
                              · rw [b5 v hv]; exact hold v h1 (by omega)⟩
                            refine T_ziinc xr_170_284 xn_170 (a := n) (z := n + 1) rfl (Nat.le_of_ble_eq_true rfl) (by omega) (ls' := [(1, .int (iI (n + 1))), (7, .int (iI i)), (6, .int (iI pl)), (5, .int (iI k)), (3, .int (iI len)), (2, .int (iI kz)), (0, .ref 530)]) rfl (pc' := 287) rfl ?_
                            refine T_p xr_170_287 xn_170 (pc' := 14) (ls' := [(1, .int (iI (n + 1))), (7, .int (iI i)), (6, .int (iI pl)), (5, .int (iI k)), (3, .int (iI len)), (2, .int (iI kz)), (0, .ref 530)]) (st' := []) rfl ?_
                            refine T_sub (ls := [(3, .int (iI len)), (2, .int (iI kz)), (1, .int (iI (n + 1))), (0, .ref 530)]) ⟨rfl, rfl, rfl, rfl, trivial⟩ rfl rfl ?_
                            exact ih971 S1078 (n + 1) kz nn3 nu3 hnn3 hnu3 (hF974.tr ((((X_Fr.rf).tr (X_Fr.of n1064 e1065 (by omega))).tr (X_Fr.of n1070 e1071 (by omega))).tr (X_Fr.mono ⟨hF1076.1, hF1076.2⟩ (fun q hq => (by omega))))) (by omega) (by omega) hnew (by omega)
                          · skip
                            have c1079 : ¬ (kz ≤ i) := c1079
                            refine T_p xr_170_194 xn_170 (pc' := 195) (ls' := [(7, .int (iI i)), (6, .int (iI pl)), (5, .int (iI k)), (3, .int (iI len)), (2, .int (iI kz)), (1, .int (iI n)), (0, .ref 530)]) (st' := [.ref 530]) rfl ?_
                            have h1080 := (hF1076.1 530 (by omega)).trans ((n1070 530 (by decide)).trans (h1066))
                            refine T_get xr_170_195 h1080 rfl (v := .ref 549) rfl (pc' := 198) rfl ?_
                            refine T_p xr_170_198 xn_170 (pc' := 199) (ls' := [(7, .int (iI i)), (6, .int (iI pl)), (5, .int (iI k)), (3, .int (iI len)), (2, .int (iI kz)), (1, .int (iI n)), (0, .ref 530)]) (st' := [.int (iI n), .ref 549]) rfl ?_
                            refine T_p xr_170_199 xn_170 (pc' := 200) (ls' := [(7, .int (iI i)), (6, .int (iI pl)), (5, .int (iI k)), (3, .int (iI len)), (2, .int (iI kz)), (1, .int (iI n)), (0, .ref 530)]) (st' := [.ref 530, .int (iI n), .ref 549]) rfl ?_
                            refine T_get xr_170_200 h1080 rfl (v := .ref 549) rfl (pc' := 203) rfl ?_
                            refine T_p xr_170_203 xn_170 (pc' := 204) (ls' := [(7, .int (iI i)), (6, .int (iI pl)), (5, .int (iI k)), (3, .int (iI len)), (2, .int (iI kz)), (1, .int (iI n)), (0, .ref 530)]) (st' := [.int (iI n), .ref 549, .int (iI n), .ref 549]) rfl ?_
                            refine T_zlald xr_170_204 hnn3 (pc' := 205) rfl ?_
                            refine T_p xr_170_205 xn_170 (pc' := 207) (ls' := [(7, .int (iI i)), (6, .int (iI pl)), (5, .int (iI k)), (3, .int (iI len)), (2, .int (iI kz)), (1, .int (iI n)), (0, .ref 530)]) (st' := [.int (iI 8), .long (nn3 n), .int (iI n), .ref 549]) rfl ?_
                            refine T_p xr_170_207 xn_170 (pc' := 208) (ls' := [(7, .int (iI i)), (6, .int (iI pl)), (5, .int (iI k)), (3, .int (iI len)), (2, .int (iI kz)), (1, .int (iI n)), (0, .ref 530)]) (st' := [.long ((nn3 n) <<< ((iI 8).toInt64 &&& 63)), .int (iI n), .ref 549]) rfl ?_
                            refine T_p xr_170_208 xn_170 (pc' := 209) (ls' := [(7, .int (iI i)), (6, .int (iI pl)), (5, .int (iI k)), (3, .int (iI len)), (2, .int (iI kz)), (1, .int (iI n)), (0, .ref 530)]) (st' := [.ref 530, .long ((nn3 n) <<< ((iI 8).toInt64 &&& 63)), .int (iI n), .ref 549]) rfl ?_
                            refine T_get xr_170_209 h1080 rfl (v := .ref 531) rfl (pc' := 212) rfl ?_
                            refine T_p xr_170_212 xn_170 (pc' := 214) (ls' := [(7, .int (iI i)), (6, .int (iI pl)), (5, .int (iI k)), (3, .int (iI len)), (2, .int (iI kz)), (1, .int (iI n)), (0, .ref 530)]) (st' := [.int (iI i), .ref 531, .long ((nn3 n) <<< ((iI 8).toInt64 &&& 63)), .int (iI n), .ref 549]) rfl ?_
                            have h1081 := (hF1076.1 531 (by omega)).trans ((n1070 531 (by decide)).trans ((n1064 531 (by decide)).trans (h1054)))
                            refine T_zbald xr_170_214 h1081 (pc' := 215) rfl ?_
                            have hti := htp i (by omega) (by omega)
                            have hai : X_at tb len i = tb i % 256 := X_at_in (by omega)
                            have hci : 33 ≤ X_at tb len i ∧ X_at tb len i ≤ 126 := by
                              by_cases hik : i = k
                              · rw [hik]; omega
                              · have hu := hscz i (by omega) (by omega)
                                unfold X_ct at hu; omega
                            refine T_ie (y := iI (X_at tb len i)) (by congr 1; omega) ?_
                            refine T_p xr_170_215 xn_170 (pc' := 216) (ls' := [(7, .int (iI i)), (6, .int (iI pl)), (5, .int (iI k)), (3, .int (iI len)), (2, .int (iI kz)), (1, .int (iI n)), (0, .ref 530)]) (st' := [.long ((iI (X_at tb len i)).toInt64), .long ((nn3 n) <<< ((iI 8).toInt64 &&& 63)), .int (iI n), .ref 549]) rfl ?_
                            refine T_p xr_170_216 xn_170 (pc' := 217) (ls' := [(7, .int (iI i)), (6, .int (iI pl)), (5, .int (iI k)), (3, .int (iI len)), (2, .int (iI kz)), (1, .int (iI n)), (0, .ref 530)]) (st' := [.long (((nn3 n) <<< ((iI 8).toInt64 &&& 63)) ||| ((iI (X_at tb len i)).toInt64)), .int (iI n), .ref 549]) rfl ?_
                            refine T_zlast xr_170_217 hnn3 (pc' := 218) rfl (fun S1082 h1083 n1084 e1085 => ?_)
                            refine T_p xr_170_218 xn_170 (pc' := 220) (ls' := [(7, .int (iI i)), (6, .int (iI pl)), (5, .int (iI k)), (3, .int (iI len)), (2, .int (iI kz)), (1, .int (iI n)), (0, .ref 530)]) (st' := [.int (iI pl)]) rfl ?_
                            refine T_zif_eq xr_170_220 (t := 240) (pc' := 223) rfl rfl (fun c1086 => ?_) (fun c1086 => ?_)
                            · skip
                              have c1086 : pl = 0 := c1086
                              refine T_p xr_170_240 xn_170 (pc' := 241) (ls' := [(7, .int (iI i)), (6, .int (iI pl)), (5, .int (iI k)), (3, .int (iI len)), (2, .int (iI kz)), (1, .int (iI n)), (0, .ref 530)]) (st' := [.int (iI 0)]) rfl ?_
                              refine T_p xr_170_241 xn_170 (pc' := 243) (ls' := [(6, .int (iI 0)), (7, .int (iI i)), (5, .int (iI k)), (3, .int (iI len)), (2, .int (iI kz)), (1, .int (iI n)), (0, .ref 530)]) (st' := []) rfl ?_
                              refine T_p xr_170_243 xn_170 (pc' := 244) (ls' := [(6, .int (iI 0)), (7, .int (iI i)), (5, .int (iI k)), (3, .int (iI len)), (2, .int (iI kz)), (1, .int (iI n)), (0, .ref 530)]) (st' := [.ref 530]) rfl ?_
                              have h1087 := (n1084 530 (by decide)).trans (h1080)
                              refine T_get xr_170_244 h1087 rfl (v := .ref 551) rfl (pc' := 247) rfl ?_
                              refine T_p xr_170_247 xn_170 (pc' := 248) (ls' := [(6, .int (iI 0)), (7, .int (iI i)), (5, .int (iI k)), (3, .int (iI len)), (2, .int (iI kz)), (1, .int (iI n)), (0, .ref 530)]) (st' := [.int (iI n), .ref 551]) rfl ?_
                              refine T_p xr_170_248 xn_170 (pc' := 250) (ls' := [(6, .int (iI 0)), (7, .int (iI i)), (5, .int (iI k)), (3, .int (iI len)), (2, .int (iI kz)), (1, .int (iI n)), (0, .ref 530)]) (st' := [.int (iI 0), .int (iI n), .ref 551]) rfl ?_
                              refine T_zif_eqt xr_170_250 (t := 276) rfl (by decide) ?_
                              refine T_p xr_170_276 xn_170 (pc' := 277) (ls' := [(6, .int (iI 0)), (7, .int (iI i)), (5, .int (iI k)), (3, .int (iI len)), (2, .int (iI kz)), (1, .int (iI n)), (0, .ref 530)]) (st' := [.int (iI (-1)), .int (iI n), .ref 551]) rfl ?_
                              have h1088 := (n1084 551 (by decide)).trans (hnu3)
                              refine T_ziast xr_170_277 h1088 (pc' := 278) rfl (fun S1089 h1090 n1091 e1092 => ?_)
                              refine T_ziinc xr_170_278 xn_170 (a := i) (z := i + 1) rfl (Nat.le_of_ble_eq_true rfl) (by omega) (ls' := [(7, .int (iI (i + 1))), (6, .int (iI 0)), (5, .int (iI k)), (3, .int (iI len)), (2, .int (iI kz)), (1, .int (iI n)), (0, .ref 530)]) rfl (pc' := 281) rfl ?_
                              refine T_p xr_170_281 xn_170 (pc' := 188) (ls' := [(7, .int (iI (i + 1))), (6, .int (iI 0)), (5, .int (iI k)), (3, .int (iI len)), (2, .int (iI kz)), (1, .int (iI n)), (0, .ref 530)]) (st' := []) rfl ?_
                              have h1093 := (n1091 549 (by decide)).trans (h1083)
                              exact ih1073 S1089 (i + 1) kz 0 (X_ug nn3 n (((nn3 n) <<< ((iI 8).toInt64 &&& 63)) ||| ((iI (X_at tb len i)).toInt64))) (X_ug nu3 n (-1)) h1093 h1090 (hF1076.tr (((X_Fr.rf).tr (X_Fr.of n1084 e1085 (by omega))).tr (X_Fr.of n1091 e1092 (by omega)))) (by omega) (by omega) hscz hez (by rw [X_ug_s, X_pk_s (by omega), ← hnn]; rfl) (by
                                    rw [X_ug_s, X_rv_s (by omega)]
                                    first
                                    | (have hd : X_isD (X_at tb len i) := by assumption
                                       unfold X_isD at hd
                                       (repeat' split) <;> omega)
                                    | (have hd : ¬ X_isD (X_at tb len i) := by assumption
                                       unfold X_isD at hd
                                       (repeat' split) <;> omega)
                                    | ((repeat' split) <;> omega)) (by
                                    rw [X_rv_s (by omega)]
                                    first
                                    | (have hd : X_isD (X_at tb len i) := by assumption
                                       unfold X_isD at hd
                                       (repeat' split) <;> omega)
                                    | (have hd : ¬ X_isD (X_at tb len i) := by assumption
                                       unfold X_isD at hd
                                       (repeat' split) <;> omega)
                                    | ((repeat' split) <;> omega)) (fun v h1 h2 => by rw [X_ug_n _ _ (by omega), X_ug_n _ _ (by omega)]; exact hold v h1 h2) (by omega)
                            · skip
                              have c1086 : ¬ (pl = 0) := c1086
                              refine T_p xr_170_223 xn_170 (pc' := 224) (ls' := [(7, .int (iI i)), (6, .int (iI pl)), (5, .int (iI k)), (3, .int (iI len)), (2, .int (iI kz)), (1, .int (iI n)), (0, .ref 530)]) (st' := [.ref 530]) rfl ?_
                              have h1094 := (n1084 530 (by decide)).trans (h1080)
                              refine T_get xr_170_224 h1094 rfl (v := .ref 531) rfl (pc' := 227) rfl ?_
                              refine T_p xr_170_227 xn_170 (pc' := 229) (ls' := [(7, .int (iI i)), (6, .int (iI pl)), (5, .int (iI k)), (3, .int (iI len)), (2, .int (iI kz)), (1, .int (iI n)), (0, .ref 530)]) (st' := [.int (iI i), .ref 531]) rfl ?_
                              have h1095 := (n1084 531 (by decide)).trans (h1081)
                              refine T_zbald xr_170_229 h1095 (pc' := 230) rfl ?_
                              refine T_ie (y := iI (X_at tb len i)) (by congr 1; omega) ?_
                              refine T_cs xr_170_230 (by decide) xf_138.1 xn_138 (as := [.int (iI (X_at tb len i))]) (r := []) rfl (Nat.le_of_ble_eq_true rfl) (Nat.le_of_ble_eq_true rfl) (pc' := 233) rfl (ls' := [(0, .int (iI (X_at tb len i)))]) rfl ?_
                              refine T_p xr_138_0 xn_138 (pc' := 1) (ls' := [(0, .int (iI (X_at tb len i)))]) (st' := [.int (iI (X_at tb len i))]) rfl ?_
                              refine T_p xr_138_1 xn_138 (pc' := 3) (ls' := [(0, .int (iI (X_at tb len i)))]) (st' := [.int (iI 48), .int (iI (X_at tb len i))]) rfl ?_
                              refine T_zicmp_lt xr_138_3 (t := 16) (pc' := 6) rfl rfl (fun c1096 => ?_) (fun c1096 => ?_)
                              · skip
                                have c1096 : (X_at tb len i) < 48 := c1096
                                refine T_p xr_138_16 xn_138 (pc' := 17) (ls' := [(0, .int (iI (X_at tb len i)))]) (st' := [.int (iI 0)]) rfl ?_
                                refine T_iret xr_138_17 xf_138.2.2 (by decide) ?_
                                show X_T sc 170 (233, [(7, .int (iI i)), (6, .int (iI pl)), (5, .int (iI k)), (3, .int (iI len)), (2, .int (iI kz)), (1, .int (iI n)), (0, .ref 530)], [.int (iI 0)], S1082) _
                                refine T_zif_eqt xr_170_233 (t := 240) rfl (by decide) ?_
                                refine T_p xr_170_240 xn_170 (pc' := 241) (ls' := [(7, .int (iI i)), (6, .int (iI pl)), (5, .int (iI k)), (3, .int (iI len)), (2, .int (iI kz)), (1, .int (iI n)), (0, .ref 530)]) (st' := [.int (iI 0)]) rfl ?_
                                refine T_p xr_170_241 xn_170 (pc' := 243) (ls' := [(6, .int (iI 0)), (7, .int (iI i)), (5, .int (iI k)), (3, .int (iI len)), (2, .int (iI kz)), (1, .int (iI n)), (0, .ref 530)]) (st' := []) rfl ?_
                                refine T_p xr_170_243 xn_170 (pc' := 244) (ls' := [(6, .int (iI 0)), (7, .int (iI i)), (5, .int (iI k)), (3, .int (iI len)), (2, .int (iI kz)), (1, .int (iI n)), (0, .ref 530)]) (st' := [.ref 530]) rfl ?_
                                refine T_get xr_170_244 h1094 rfl (v := .ref 551) rfl (pc' := 247) rfl ?_
                                refine T_p xr_170_247 xn_170 (pc' := 248) (ls' := [(6, .int (iI 0)), (7, .int (iI i)), (5, .int (iI k)), (3, .int (iI len)), (2, .int (iI kz)), (1, .int (iI n)), (0, .ref 530)]) (st' := [.int (iI n), .ref 551]) rfl ?_
                                refine T_p xr_170_248 xn_170 (pc' := 250) (ls' := [(6, .int (iI 0)), (7, .int (iI i)), (5, .int (iI k)), (3, .int (iI len)), (2, .int (iI kz)), (1, .int (iI n)), (0, .ref 530)]) (st' := [.int (iI 0), .int (iI n), .ref 551]) rfl ?_
                                refine T_zif_eqt xr_170_250 (t := 276) rfl (by decide) ?_
                                refine T_p xr_170_276 xn_170 (pc' := 277) (ls' := [(6, .int (iI 0)), (7, .int (iI i)), (5, .int (iI k)), (3, .int (iI len)), (2, .int (iI kz)), (1, .int (iI n)), (0, .ref 530)]) (st' := [.int (iI (-1)), .int (iI n), .ref 551]) rfl ?_
                                have h1097 := (n1084 551 (by decide)).trans (hnu3)
                                refine T_ziast xr_170_277 h1097 (pc' := 278) rfl (fun S1098 h1099 n1100 e1101 => ?_)
                                refine T_ziinc xr_170_278 xn_170 (a := i) (z := i + 1) rfl (Nat.le_of_ble_eq_true rfl) (by omega) (ls' := [(7, .int (iI (i + 1))), (6, .int (iI 0)), (5, .int (iI k)), (3, .int (iI len)), (2, .int (iI kz)), (1, .int (iI n)), (0, .ref 530)]) rfl (pc' := 281) rfl ?_
                                refine T_p xr_170_281 xn_170 (pc' := 188) (ls' := [(7, .int (iI (i + 1))), (6, .int (iI 0)), (5, .int (iI k)), (3, .int (iI len)), (2, .int (iI kz)), (1, .int (iI n)), (0, .ref 530)]) (st' := []) rfl ?_
                                have h1102 := (n1100 549 (by decide)).trans (h1083)
                                exact ih1073 S1098 (i + 1) kz 0 (X_ug nn3 n (((nn3 n) <<< ((iI 8).toInt64 &&& 63)) ||| ((iI (X_at tb len i)).toInt64))) (X_ug nu3 n (-1)) h1102 h1099 (hF1076.tr (((X_Fr.rf).tr (X_Fr.of n1084 e1085 (by omega))).tr (X_Fr.of n1100 e1101 (by omega)))) (by omega) (by omega) hscz hez (by rw [X_ug_s, X_pk_s (by omega), ← hnn]; rfl) (by
                                      rw [X_ug_s, X_rv_s (by omega)]
                                      first
                                      | (have hd : X_isD (X_at tb len i) := by assumption
                                         unfold X_isD at hd
                                         (repeat' split) <;> omega)
                                      | (have hd : ¬ X_isD (X_at tb len i) := by assumption
                                         unfold X_isD at hd
                                         (repeat' split) <;> omega)
                                      | ((repeat' split) <;> omega)) (by
                                      rw [X_rv_s (by omega)]
                                      first
                                      | (have hd : X_isD (X_at tb len i) := by assumption
                                         unfold X_isD at hd
                                         (repeat' split) <;> omega)
                                      | (have hd : ¬ X_isD (X_at tb len i) := by assumption
                                         unfold X_isD at hd
                                         (repeat' split) <;> omega)
                                      | ((repeat' split) <;> omega)) (fun v h1 h2 => by rw [X_ug_n _ _ (by omega), X_ug_n _ _ (by omega)]; exact hold v h1 h2) (by omega)
                              · skip
                                have c1096 : ¬ ((X_at tb len i) < 48) := c1096
                                refine T_p xr_138_6 xn_138 (pc' := 7) (ls' := [(0, .int (iI (X_at tb len i)))]) (st' := [.int (iI (X_at tb len i))]) rfl ?_
                                refine T_p xr_138_7 xn_138 (pc' := 9) (ls' := [(0, .int (iI (X_at tb len i)))]) (st' := [.int (iI 57), .int (iI (X_at tb len i))]) rfl ?_
                                refine T_zicmp_gt xr_138_9 (t := 16) (pc' := 12) rfl rfl (fun c1103 => ?_) (fun c1103 => ?_)
                                · skip
                                  have c1103 : 57 < (X_at tb len i) := c1103
                                  refine T_p xr_138_16 xn_138 (pc' := 17) (ls' := [(0, .int (iI (X_at tb len i)))]) (st' := [.int (iI 0)]) rfl ?_
                                  refine T_iret xr_138_17 xf_138.2.2 (by decide) ?_
                                  show X_T sc 170 (233, [(7, .int (iI i)), (6, .int (iI pl)), (5, .int (iI k)), (3, .int (iI len)), (2, .int (iI kz)), (1, .int (iI n)), (0, .ref 530)], [.int (iI 0)], S1082) _
                                  refine T_zif_eqt xr_170_233 (t := 240) rfl (by decide) ?_
                                  refine T_p xr_170_240 xn_170 (pc' := 241) (ls' := [(7, .int (iI i)), (6, .int (iI pl)), (5, .int (iI k)), (3, .int (iI len)), (2, .int (iI kz)), (1, .int (iI n)), (0, .ref 530)]) (st' := [.int (iI 0)]) rfl ?_
                                  refine T_p xr_170_241 xn_170 (pc' := 243) (ls' := [(6, .int (iI 0)), (7, .int (iI i)), (5, .int (iI k)), (3, .int (iI len)), (2, .int (iI kz)), (1, .int (iI n)), (0, .ref 530)]) (st' := []) rfl ?_
                                  refine T_p xr_170_243 xn_170 (pc' := 244) (ls' := [(6, .int (iI 0)), (7, .int (iI i)), (5, .int (iI k)), (3, .int (iI len)), (2, .int (iI kz)), (1, .int (iI n)), (0, .ref 530)]) (st' := [.ref 530]) rfl ?_
                                  refine T_get xr_170_244 h1094 rfl (v := .ref 551) rfl (pc' := 247) rfl ?_
                                  refine T_p xr_170_247 xn_170 (pc' := 248) (ls' := [(6, .int (iI 0)), (7, .int (iI i)), (5, .int (iI k)), (3, .int (iI len)), (2, .int (iI kz)), (1, .int (iI n)), (0, .ref 530)]) (st' := [.int (iI n), .ref 551]) rfl ?_
                                  refine T_p xr_170_248 xn_170 (pc' := 250) (ls' := [(6, .int (iI 0)), (7, .int (iI i)), (5, .int (iI k)), (3, .int (iI len)), (2, .int (iI kz)), (1, .int (iI n)), (0, .ref 530)]) (st' := [.int (iI 0), .int (iI n), .ref 551]) rfl ?_
                                  refine T_zif_eqt xr_170_250 (t := 276) rfl (by decide) ?_
                                  refine T_p xr_170_276 xn_170 (pc' := 277) (ls' := [(6, .int (iI 0)), (7, .int (iI i)), (5, .int (iI k)), (3, .int (iI len)), (2, .int (iI kz)), (1, .int (iI n)), (0, .ref 530)]) (st' := [.int (iI (-1)), .int (iI n), .ref 551]) rfl ?_
                                  have h1104 := (n1084 551 (by decide)).trans (hnu3)
                                  refine T_ziast xr_170_277 h1104 (pc' := 278) rfl (fun S1105 h1106 n1107 e1108 => ?_)
                                  refine T_ziinc xr_170_278 xn_170 (a := i) (z := i + 1) rfl (Nat.le_of_ble_eq_true rfl) (by omega) (ls' := [(7, .int (iI (i + 1))), (6, .int (iI 0)), (5, .int (iI k)), (3, .int (iI len)), (2, .int (iI kz)), (1, .int (iI n)), (0, .ref 530)]) rfl (pc' := 281) rfl ?_
                                  refine T_p xr_170_281 xn_170 (pc' := 188) (ls' := [(7, .int (iI (i + 1))), (6, .int (iI 0)), (5, .int (iI k)), (3, .int (iI len)), (2, .int (iI kz)), (1, .int (iI n)), (0, .ref 530)]) (st' := []) rfl ?_
                                  have h1109 := (n1107 549 (by decide)).trans (h1083)
                                  exact ih1073 S1105 (i + 1) kz 0 (X_ug nn3 n (((nn3 n) <<< ((iI 8).toInt64 &&& 63)) ||| ((iI (X_at tb len i)).toInt64))) (X_ug nu3 n (-1)) h1109 h1106 (hF1076.tr (((X_Fr.rf).tr (X_Fr.of n1084 e1085 (by omega))).tr (X_Fr.of n1107 e1108 (by omega)))) (by omega) (by omega) hscz hez (by rw [X_ug_s, X_pk_s (by omega), ← hnn]; rfl) (by
                                        rw [X_ug_s, X_rv_s (by omega)]
                                        first
                                        | (have hd : X_isD (X_at tb len i) := by assumption
                                           unfold X_isD at hd
                                           (repeat' split) <;> omega)
                                        | (have hd : ¬ X_isD (X_at tb len i) := by assumption
                                           unfold X_isD at hd
                                           (repeat' split) <;> omega)
                                        | ((repeat' split) <;> omega)) (by
                                        rw [X_rv_s (by omega)]
                                        first
                                        | (have hd : X_isD (X_at tb len i) := by assumption
                                           unfold X_isD at hd
                                           (repeat' split) <;> omega)
                                        | (have hd : ¬ X_isD (X_at tb len i) := by assumption
                                           unfold X_isD at hd
                                           (repeat' split) <;> omega)
                                        | ((repeat' split) <;> omega)) (fun v h1 h2 => by rw [X_ug_n _ _ (by omega), X_ug_n _ _ (by omega)]; exact hold v h1 h2) (by omega)
                                · skip
                                  have c1103 : ¬ (57 < (X_at tb len i)) := c1103
                                  refine T_p xr_138_12 xn_138 (pc' := 13) (ls' := [(0, .int (iI (X_at tb len i)))]) (st' := [.int (iI 1)]) rfl ?_
                                  refine T_p xr_138_13 xn_138 (pc' := 17) (ls' := [(0, .int (iI (X_at tb len i)))]) (st' := [.int (iI 1)]) rfl ?_
                                  refine T_iret xr_138_17 xf_138.2.2 (by decide) ?_
                                  show X_T sc 170 (233, [(7, .int (iI i)), (6, .int (iI pl)), (5, .int (iI k)), (3, .int (iI len)), (2, .int (iI kz)), (1, .int (iI n)), (0, .ref 530)], [.int (iI 1)], S1082) _
                                  refine T_zif_eqf xr_170_233 (t := 240) (pc' := 236) rfl rfl (by decide) ?_
                                  refine T_p xr_170_236 xn_170 (pc' := 237) (ls' := [(7, .int (iI i)), (6, .int (iI pl)), (5, .int (iI k)), (3, .int (iI len)), (2, .int (iI kz)), (1, .int (iI n)), (0, .ref 530)]) (st' := [.int (iI 1)]) rfl ?_
                                  refine T_p xr_170_237 xn_170 (pc' := 241) (ls' := [(7, .int (iI i)), (6, .int (iI pl)), (5, .int (iI k)), (3, .int (iI len)), (2, .int (iI kz)), (1, .int (iI n)), (0, .ref 530)]) (st' := [.int (iI 1)]) rfl ?_
                                  refine T_p xr_170_241 xn_170 (pc' := 243) (ls' := [(6, .int (iI 1)), (7, .int (iI i)), (5, .int (iI k)), (3, .int (iI len)), (2, .int (iI kz)), (1, .int (iI n)), (0, .ref 530)]) (st' := []) rfl ?_
                                  refine T_p xr_170_243 xn_170 (pc' := 244) (ls' := [(6, .int (iI 1)), (7, .int (iI i)), (5, .int (iI k)), (3, .int (iI len)), (2, .int (iI kz)), (1, .int (iI n)), (0, .ref 530)]) (st' := [.ref 530]) rfl ?_
                                  refine T_get xr_170_244 h1094 rfl (v := .ref 551) rfl (pc' := 247) rfl ?_
                                  refine T_p xr_170_247 xn_170 (pc' := 248) (ls' := [(6, .int (iI 1)), (7, .int (iI i)), (5, .int (iI k)), (3, .int (iI len)), (2, .int (iI kz)), (1, .int (iI n)), (0, .ref 530)]) (st' := [.int (iI n), .ref 551]) rfl ?_
                                  refine T_p xr_170_248 xn_170 (pc' := 250) (ls' := [(6, .int (iI 1)), (7, .int (iI i)), (5, .int (iI k)), (3, .int (iI len)), (2, .int (iI kz)), (1, .int (iI n)), (0, .ref 530)]) (st' := [.int (iI 1), .int (iI n), .ref 551]) rfl ?_
                                  refine T_zif_eqf xr_170_250 (t := 276) (pc' := 253) rfl rfl (by decide) ?_
                                  refine T_p xr_170_253 xn_170 (pc' := 255) (ls' := [(6, .int (iI 1)), (7, .int (iI i)), (5, .int (iI k)), (3, .int (iI len)), (2, .int (iI kz)), (1, .int (iI n)), (0, .ref 530)]) (st' := [.int (iI 10), .int (iI n), .ref 551]) rfl ?_
                                  refine T_p xr_170_255 xn_170 (pc' := 256) (ls' := [(6, .int (iI 1)), (7, .int (iI i)), (5, .int (iI k)), (3, .int (iI len)), (2, .int (iI kz)), (1, .int (iI n)), (0, .ref 530)]) (st' := [.ref 530, .int (iI 10), .int (iI n), .ref 551]) rfl ?_
                                  refine T_get xr_170_256 h1094 rfl (v := .ref 551) rfl (pc' := 259) rfl ?_
                                  refine T_p xr_170_259 xn_170 (pc' := 260) (ls' := [(6, .int (iI 1)), (7, .int (iI i)), (5, .int (iI k)), (3, .int (iI len)), (2, .int (iI kz)), (1, .int (iI n)), (0, .ref 530)]) (st' := [.int (iI n), .ref 551, .int (iI 10), .int (iI n), .ref 551]) rfl ?_
                                  have h1110 := (n1084 551 (by decide)).trans (hnu3)
                                  refine T_ziald xr_170_260 h1110 (pc' := 261) rfl ?_
                                  refine T_zimul xr_170_261 (z := 10 * (nu3 n)) rfl (pc' := 262) rfl ?_
                                  refine T_p xr_170_262 xn_170 (pc' := 263) (ls' := [(6, .int (iI 1)), (7, .int (iI i)), (5, .int (iI k)), (3, .int (iI len)), (2, .int (iI kz)), (1, .int (iI n)), (0, .ref 530)]) (st' := [.ref 530, .int (iI (10 * (nu3 n))), .int (iI n), .ref 551]) rfl ?_
                                  refine T_get xr_170_263 h1094 rfl (v := .ref 531) rfl (pc' := 266) rfl ?_
                                  refine T_p xr_170_266 xn_170 (pc' := 268) (ls' := [(6, .int (iI 1)), (7, .int (iI i)), (5, .int (iI k)), (3, .int (iI len)), (2, .int (iI kz)), (1, .int (iI n)), (0, .ref 530)]) (st' := [.int (iI i), .ref 531, .int (iI (10 * (nu3 n))), .int (iI n), .ref 551]) rfl ?_
                                  refine T_zbald xr_170_268 h1095 (pc' := 269) rfl ?_
                                  refine T_ie (y := iI (X_at tb len i)) (by congr 1; omega) ?_
                                  refine T_ziadd xr_170_269 (z := (10 * (nu3 n)) + (X_at tb len i)) rfl (pc' := 270) rfl ?_
                                  refine T_p xr_170_270 xn_170 (pc' := 272) (ls' := [(6, .int (iI 1)), (7, .int (iI i)), (5, .int (iI k)), (3, .int (iI len)), (2, .int (iI kz)), (1, .int (iI n)), (0, .ref 530)]) (st' := [.int (iI 48), .int (iI ((10 * (nu3 n)) + (X_at tb len i))), .int (iI n), .ref 551]) rfl ?_
                                  refine T_zisub xr_170_272 (z := ((10 * (nu3 n)) + (X_at tb len i)) - 48) rfl (pc' := 273) rfl ?_
                                  refine T_p xr_170_273 xn_170 (pc' := 277) (ls' := [(6, .int (iI 1)), (7, .int (iI i)), (5, .int (iI k)), (3, .int (iI len)), (2, .int (iI kz)), (1, .int (iI n)), (0, .ref 530)]) (st' := [.int (iI (((10 * (nu3 n)) + (X_at tb len i)) - 48)), .int (iI n), .ref 551]) rfl ?_
                                  refine T_ziast xr_170_277 h1110 (pc' := 278) rfl (fun S1111 h1112 n1113 e1114 => ?_)
                                  refine T_ziinc xr_170_278 xn_170 (a := i) (z := i + 1) rfl (Nat.le_of_ble_eq_true rfl) (by omega) (ls' := [(7, .int (iI (i + 1))), (6, .int (iI 1)), (5, .int (iI k)), (3, .int (iI len)), (2, .int (iI kz)), (1, .int (iI n)), (0, .ref 530)]) rfl (pc' := 281) rfl ?_
                                  refine T_p xr_170_281 xn_170 (pc' := 188) (ls' := [(7, .int (iI (i + 1))), (6, .int (iI 1)), (5, .int (iI k)), (3, .int (iI len)), (2, .int (iI kz)), (1, .int (iI n)), (0, .ref 530)]) (st' := []) rfl ?_
                                  have h1115 := (n1113 549 (by decide)).trans (h1083)
                                  exact ih1073 S1111 (i + 1) kz 1 (X_ug nn3 n (((nn3 n) <<< ((iI 8).toInt64 &&& 63)) ||| ((iI (X_at tb len i)).toInt64))) (X_ug nu3 n (((10 * (nu3 n)) + (X_at tb len i)) - 48)) h1115 h1112 (hF1076.tr (((X_Fr.rf).tr (X_Fr.of n1084 e1085 (by omega))).tr (X_Fr.of n1113 e1114 (by omega)))) (by omega) (by omega) hscz hez (by rw [X_ug_s, X_pk_s (by omega), ← hnn]; rfl) (by
                                        rw [X_ug_s, X_rv_s (by omega)]
                                        first
                                        | (have hd : X_isD (X_at tb len i) := by assumption
                                           unfold X_isD at hd
                                           (repeat' split) <;> omega)
                                        | (have hd : ¬ X_isD (X_at tb len i) := by assumption
                                           unfold X_isD at hd
                                           (repeat' split) <;> omega)
                                        | ((repeat' split) <;> omega)) (by
                                        rw [X_rv_s (by omega)]
                                        first
                                        | (have hd : X_isD (X_at tb len i) := by assumption
                                           unfold X_isD at hd
                                           (repeat' split) <;> omega)
                                        | (have hd : ¬ X_isD (X_at tb len i) := by assumption
                                           unfold X_isD at hd
                                           (repeat' split) <;> omega)
                                        | ((repeat' split) <;> omega)) (fun v h1 h2 => by rw [X_ug_n _ _ (by omega), X_ug_n _ _ (by omega)]; exact hold v h1 h2) (by omega)
                      refine T_sub (ls := [(7, .int (iI k)), (6, .int (iI 1)), (5, .int (iI k)), (3, .int (iI len)), (2, .int (iI (k + 1))), (1, .int (iI n)), (0, .ref 530)]) ⟨rfl, rfl, rfl, rfl, rfl, rfl, rfl, trivial⟩ rfl rfl ?_
                      exact L1072 (len + 1).toNat S1068 k (k + 1) 1 (X_ug nna n (iL 0)) (X_ug nua n 0) h1077 h1069 ((X_Fr.rf)) (by omega) (by omega) (fun q h1 h2 => by first | exact hscan q h1 h2 | exact absurd h2 (by omega)) ⟨fun h1 h2 => by unfold X_ct at *; omega, fun h1 => by unfold X_ct at h1; omega⟩ (by rw [X_ug_s, show (k - k).toNat = 0 by omega]; rfl) (by rw [X_ug_s, show (k - k).toNat = 0 by omega]; rfl) (Or.inl ⟨rfl, by rw [show (k - k).toNat = 0 by omega]; exact (show ¬ (0 : Int) = -1 by omega)⟩) (fun v h1 h2 => by rw [X_ug_n _ _ (by omega), X_ug_n _ _ (by omega)]; exact hX3 v h1 h2) (by omega)
                    · skip
                      have c1061 : ¬ (((k + 1) - k) ≤ 8) := c1061
                      have hnone : X_sn tb len len.toNat = none := by
                        first
                        | (exfalso; omega)
                        | (have hck : X_ct (X_at tb len k) := by unfold X_ct; omega
                           refine X_sn_9 (f := k) (by omega) hX1 (by omega) hck ?_ (fun q h1 h2 => hscan q h1 (by omega)) (by omega)
                           by_cases hz : 0 < z
                           · exact absurd hck (hX2 hz (by omega))
                           · omega)
                      refine T_p xr_170_165 xn_170 (pc' := 166) (ls' := [(2, .int (iI (k + 1))), (5, .int (iI k)), (4, .int (iI (X_at tb len k))), (3, .int (iI len)), (1, .int (iI n)), (0, .ref 530)]) (st' := [.int (iI (-1))]) rfl ?_
                      refine T_iret xr_170_166 xf_170.2.2 rfl ?_
                      refine hQ _ _ ?_
                      exact Or.inl ⟨nna, nua, rfl, hnone, h1053, hnna, hnua, ((X_Fr.rf).tr (X_Fr.of n968 e969 (by omega))).tr (X_Fr.mono ⟨hF974.1, hF974.2⟩ (fun q hq => (by omega)))⟩
                  · skip
                    have c1060 : ¬ ((X_at tb len k) = 40) := c1060
                    refine T_p xr_170_86 xn_170 (pc' := 88) (ls' := [(2, .int (iI (k + 1))), (5, .int (iI k)), (4, .int (iI (X_at tb len k))), (3, .int (iI len)), (1, .int (iI n)), (0, .ref 530)]) (st' := [.int (iI (X_at tb len k))]) rfl ?_
                    refine T_p xr_170_88 xn_170 (pc' := 90) (ls' := [(2, .int (iI (k + 1))), (5, .int (iI k)), (4, .int (iI (X_at tb len k))), (3, .int (iI len)), (1, .int (iI n)), (0, .ref 530)]) (st' := [.int (iI 41), .int (iI (X_at tb len k))]) rfl ?_
                    refine T_zicmp_eq xr_170_90 (t := 156) (pc' := 93) rfl rfl (fun c1116 => ?_) (fun c1116 => ?_)
                    · skip
                      have c1116 : (X_at tb len k) = 41 := c1116
                      refine T_p xr_170_156 xn_170 (pc' := 157) (ls' := [(2, .int (iI (k + 1))), (5, .int (iI k)), (4, .int (iI (X_at tb len k))), (3, .int (iI len)), (1, .int (iI n)), (0, .ref 530)]) (st' := [.int (iI (k + 1))]) rfl ?_
                      refine T_p xr_170_157 xn_170 (pc' := 159) (ls' := [(2, .int (iI (k + 1))), (5, .int (iI k)), (4, .int (iI (X_at tb len k))), (3, .int (iI len)), (1, .int (iI n)), (0, .ref 530)]) (st' := [.int (iI k), .int (iI (k + 1))]) rfl ?_
                      refine T_zisub xr_170_159 (z := (k + 1) - k) rfl (pc' := 160) rfl ?_
                      refine T_p xr_170_160 xn_170 (pc' := 162) (ls' := [(2, .int (iI (k + 1))), (5, .int (iI k)), (4, .int (iI (X_at tb len k))), (3, .int (iI len)), (1, .int (iI n)), (0, .ref 530)]) (st' := [.int (iI 8), .int (iI ((k + 1) - k))]) rfl ?_
                      refine T_zicmp_le xr_170_162 (t := 167) (pc' := 165) rfl rfl (fun c1117 => ?_) (fun c1117 => ?_)
                      · skip
                        have c1117 : ((k + 1) - k) ≤ 8 := c1117
                        refine T_p xr_170_167 xn_170 (pc' := 168) (ls' := [(2, .int (iI (k + 1))), (5, .int (iI k)), (4, .int (iI (X_at tb len k))), (3, .int (iI len)), (1, .int (iI n)), (0, .ref 530)]) (st' := [.ref 530]) rfl ?_
                        refine T_get xr_170_168 h1053 rfl (v := .ref 549) rfl (pc' := 171) rfl ?_
                        refine T_p xr_170_171 xn_170 (pc' := 172) (ls' := [(2, .int (iI (k + 1))), (5, .int (iI k)), (4, .int (iI (X_at tb len k))), (3, .int (iI len)), (1, .int (iI n)), (0, .ref 530)]) (st' := [.int (iI n), .ref 549]) rfl ?_
                        refine T_p xr_170_172 xn_170 (pc' := 173) (ls' := [(2, .int (iI (k + 1))), (5, .int (iI k)), (4, .int (iI (X_at tb len k))), (3, .int (iI len)), (1, .int (iI n)), (0, .ref 530)]) (st' := [.long (iL 0), .int (iI n), .ref 549]) rfl ?_
                        refine T_zlast xr_170_173 hnna (pc' := 174) rfl (fun S1118 h1119 n1120 e1121 => ?_)
                        refine T_p xr_170_174 xn_170 (pc' := 175) (ls' := [(2, .int (iI (k + 1))), (5, .int (iI k)), (4, .int (iI (X_at tb len k))), (3, .int (iI len)), (1, .int (iI n)), (0, .ref 530)]) (st' := [.ref 530]) rfl ?_
                        have h1122 := (n1120 530 (by decide)).trans (h1053)
                        refine T_get xr_170_175 h1122 rfl (v := .ref 551) rfl (pc' := 178) rfl ?_
                        refine T_p xr_170_178 xn_170 (pc' := 179) (ls' := [(2, .int (iI (k + 1))), (5, .int (iI k)), (4, .int (iI (X_at tb len k))), (3, .int (iI len)), (1, .int (iI n)), (0, .ref 530)]) (st' := [.int (iI n), .ref 551]) rfl ?_
                        refine T_p xr_170_179 xn_170 (pc' := 180) (ls' := [(2, .int (iI (k + 1))), (5, .int (iI k)), (4, .int (iI (X_at tb len k))), (3, .int (iI len)), (1, .int (iI n)), (0, .ref 530)]) (st' := [.int (iI 0), .int (iI n), .ref 551]) rfl ?_
                        have h1123 := (n1120 551 (by decide)).trans (hnua)
                        refine T_ziast xr_170_180 h1123 (pc' := 181) rfl (fun S1124 h1125 n1126 e1127 => ?_)
                        refine T_p xr_170_181 xn_170 (pc' := 182) (ls' := [(2, .int (iI (k + 1))), (5, .int (iI k)), (4, .int (iI (X_at tb len k))), (3, .int (iI len)), (1, .int (iI n)), (0, .ref 530)]) (st' := [.int (iI 1)]) rfl ?_
                        refine T_p xr_170_182 xn_170 (pc' := 184) (ls' := [(6, .int (iI 1)), (2, .int (iI (k + 1))), (5, .int (iI k)), (4, .int (iI (X_at tb len k))), (3, .int (iI len)), (1, .int (iI n)), (0, .ref 530)]) (st' := []) rfl ?_
                        refine T_p xr_170_184 xn_170 (pc' := 186) (ls' := [(6, .int (iI 1)), (2, .int (iI (k + 1))), (5, .int (iI k)), (4, .int (iI (X_at tb len k))), (3, .int (iI len)), (1, .int (iI n)), (0, .ref 530)]) (st' := [.int (iI k)]) rfl ?_
                        refine T_p xr_170_186 xn_170 (pc' := 188) (ls' := [(7, .int (iI k)), (6, .int (iI 1)), (2, .int (iI (k + 1))), (5, .int (iI k)), (4, .int (iI (X_at tb len k))), (3, .int (iI len)), (1, .int (iI n)), (0, .ref 530)]) (st' := []) rfl ?_
                        have h1133 := (n1126 549 (by decide)).trans (h1119)
                        have L1128 : ∀ (m1130 : Nat) (S1134 : X_S) (i : Int) (kz : Int) (pl : Int) (nn3 : Int → Int64) (nu3 : Int → Int) (hnn3 : S1134.1 549 = .inl (.long, 30, .inr (.inl fun k : Nat => nn3 (k : Int)))) (hnu3 : S1134.1 551 = .inl (.int, 30, .inl fun k : Nat => iI (nu3 (k : Int)))) (hF1132 : X_Fr (fun q => q = 549 ∨ q = 551) S1124 S1134) (hi : k ≤ i ∧ i ≤ kz ∧ kz - k ≤ 8) (hkz : k + 1 ≤ kz ∧ kz ≤ len) (hscz : ∀ q, k < q → q < kz → X_ct (X_at tb len q)) (hez : (X_ct (X_at tb len k) → kz < len → ¬ X_ct (X_at tb len kz)) ∧ (¬ X_ct (X_at tb len k) → kz = k + 1)) (hnn : nn3 n = X_pk tb len k (i - k).toNat) (hnu : nu3 n = X_rv tb len k (i - k).toNat) (hpl : (pl = 1 ∧ ¬ X_rv tb len k (i - k).toNat = -1) ∨ (pl = 0 ∧ X_rv tb len k (i - k).toNat = -1)) (hold : ∀ v, 0 ≤ v → v < n → nn3 v = t v ∧ nu3 v = X_nv (t v)) (hm1131 : len - i < m1130), X_T sc 170 (188, [(7, .int (iI i)), (6, .int (iI pl)), (5, .int (iI k)), (3, .int (iI len)), (2, .int (iI kz)), (1, .int (iI n)), (0, .ref 530)], [], S1134) Q := by
                          intro m1130
                          induction m1130 with
                          | zero =>
                            intro S1134 i kz pl nn3 nu3 hnn3 hnu3 hF1132 hi hkz hscz hez hnn hnu hpl hold hm1131
                            exact (show False by omega).elim
                          | succ m1130 ih1129 =>
                            intro S1134 i kz pl nn3 nu3 hnn3 hnu3 hF1132 hi hkz hscz hez hnn hnu hpl hold hm1131
                            have hrr := X_rv_r (tb := tb) (len := len) (p := k) (i - k).toNat (fun u g1 g2 => by have := X_at_in (tb := tb) (len := len) (p := k + u) (by omega); omega)
                            have h10 : (10 : Nat) ^ (i - k).toNat ≤ 10 ^ 8 := Nat.pow_le_pow_right (by omega) (by omega)
                            have h108 : (10 : Nat) ^ 8 = 100000000 := by decide
                            refine T_p xr_170_188 xn_170 (pc' := 190) (ls' := [(7, .int (iI i)), (6, .int (iI pl)), (5, .int (iI k)), (3, .int (iI len)), (2, .int (iI kz)), (1, .int (iI n)), (0, .ref 530)]) (st' := [.int (iI i)]) rfl ?_
                            refine T_p xr_170_190 xn_170 (pc' := 191) (ls' := [(7, .int (iI i)), (6, .int (iI pl)), (5, .int (iI k)), (3, .int (iI len)), (2, .int (iI kz)), (1, .int (iI n)), (0, .ref 530)]) (st' := [.int (iI kz), .int (iI i)]) rfl ?_
                            refine T_zicmp_ge xr_170_191 (t := 284) (pc' := 194) rfl rfl (fun c1135 => ?_) (fun c1135 => ?_)
                            · skip
                              have c1135 : kz ≤ i := c1135
                              have hpn : ∃ T z', X_sn tb len kz.toNat = some (n + 1, z', T) ∧ 0 ≤ z' ∧ (0 < z' → kz < len → ¬ X_ct (X_at tb len kz)) ∧ T n = X_pk tb len k (kz - k).toNat ∧ ∀ i, ¬ i = n → T i = t i := by
                                by_cases hck : X_ct (X_at tb len k)
                                · have hz0 : z = 0 := by
                                    by_cases hz : 0 < z
                                    · exact absurd hck (hX2 hz (by omega))
                                    · omega
                                  obtain ⟨T, a1, a2, a3⟩ := X_sn_m (by omega) hX1 (by omega) hck hz0 (kz - k).toNat (by omega) (by omega) (fun q h1 h2 => hscz q h1 (by omega))
                                  rw [show k + (((kz - k).toNat : Nat) : Int) = kz by omega] at a1
                                  exact ⟨T, _, a1, by omega, fun _ h1 => hez.1 hck h1, a2, a3⟩
                                · have a1 := X_sn_f (by omega) hX1 (by omega) ⟨by unfold X_isBl; omega, by omega⟩ (fun _ => hck)
                                  have hbr : X_at tb len k = 40 ∨ X_at tb len k = 41 := by unfold X_ct at hck; omega
                                  have hkz := hez.2 hck
                                  rw [if_pos hbr] at a1
                                  rw [hkz]
                                  exact ⟨_, 0, a1, by omega, fun y => absurd y (by omega), by rw [X_ug_s, show (k + 1 - k).toNat = 1 by omega], fun i hi => X_ug_n _ _ hi⟩
                              obtain ⟨T, z', b1, b2, b3, b4, b5⟩ := hpn
                              have hnvk : X_nv (X_pk tb len k (kz - k).toNat) = X_rv tb len k (kz - k).toNat := X_nv_pk _ (by omega) (fun u h1 h2 => by
                                have h3 := X_at_in (tb := tb) (len := len) (p := k + u) (by omega)
                                by_cases hu : u = 0
                                · subst hu; rw [show k + 0 = k by omega]; omega
                                · have := hscz (k + u) (by omega) (by omega)
                                  unfold X_ct at this; omega)
                              have hie : i = kz := by omega
                              have hnew : ∃ z t, X_sn tb len kz.toNat = some (n + 1, z, t) ∧ 0 ≤ z ∧ (0 < z → kz < len → ¬ X_ct (X_at tb len kz)) ∧ ∀ v, 0 ≤ v → v < n + 1 → nn3 v = t v ∧ nu3 v = X_nv (t v) := ⟨z', T, b1, b2, b3, fun v h1 h2 => by
                                by_cases hv : v = n
                                · rw [hv, b4, hnvk, ← hie]; exact ⟨hnn, hnu⟩
                                · rw [b5 v hv]; exact hold v h1 (by omega)⟩
                              refine T_ziinc xr_170_284 xn_170 (a := n) (z := n + 1) rfl (Nat.le_of_ble_eq_true rfl) (by omega) (ls' := [(1, .int (iI (n + 1))), (7, .int (iI i)), (6, .int (iI pl)), (5, .int (iI k)), (3, .int (iI len)), (2, .int (iI kz)), (0, .ref 530)]) rfl (pc' := 287) rfl ?_
                              refine T_p xr_170_287 xn_170 (pc' := 14) (ls' := [(1, .int (iI (n + 1))), (7, .int (iI i)), (6, .int (iI pl)), (5, .int (iI k)), (3, .int (iI len)), (2, .int (iI kz)), (0, .ref 530)]) (st' := []) rfl ?_
                              refine T_sub (ls := [(3, .int (iI len)), (2, .int (iI kz)), (1, .int (iI (n + 1))), (0, .ref 530)]) ⟨rfl, rfl, rfl, rfl, trivial⟩ rfl rfl ?_
                              exact ih971 S1134 (n + 1) kz nn3 nu3 hnn3 hnu3 (hF974.tr ((((X_Fr.rf).tr (X_Fr.of n1120 e1121 (by omega))).tr (X_Fr.of n1126 e1127 (by omega))).tr (X_Fr.mono ⟨hF1132.1, hF1132.2⟩ (fun q hq => (by omega))))) (by omega) (by omega) hnew (by omega)
                            · skip
                              have c1135 : ¬ (kz ≤ i) := c1135
                              refine T_p xr_170_194 xn_170 (pc' := 195) (ls' := [(7, .int (iI i)), (6, .int (iI pl)), (5, .int (iI k)), (3, .int (iI len)), (2, .int (iI kz)), (1, .int (iI n)), (0, .ref 530)]) (st' := [.ref 530]) rfl ?_
                              have h1136 := (hF1132.1 530 (by omega)).trans ((n1126 530 (by decide)).trans (h1122))
                              refine T_get xr_170_195 h1136 rfl (v := .ref 549) rfl (pc' := 198) rfl ?_
                              refine T_p xr_170_198 xn_170 (pc' := 199) (ls' := [(7, .int (iI i)), (6, .int (iI pl)), (5, .int (iI k)), (3, .int (iI len)), (2, .int (iI kz)), (1, .int (iI n)), (0, .ref 530)]) (st' := [.int (iI n), .ref 549]) rfl ?_
                              refine T_p xr_170_199 xn_170 (pc' := 200) (ls' := [(7, .int (iI i)), (6, .int (iI pl)), (5, .int (iI k)), (3, .int (iI len)), (2, .int (iI kz)), (1, .int (iI n)), (0, .ref 530)]) (st' := [.ref 530, .int (iI n), .ref 549]) rfl ?_
                              refine T_get xr_170_200 h1136 rfl (v := .ref 549) rfl (pc' := 203) rfl ?_
                              refine T_p xr_170_203 xn_170 (pc' := 204) (ls' := [(7, .int (iI i)), (6, .int (iI pl)), (5, .int (iI k)), (3, .int (iI len)), (2, .int (iI kz)), (1, .int (iI n)), (0, .ref 530)]) (st' := [.int (iI n), .ref 549, .int (iI n), .ref 549]) rfl ?_
                              refine T_zlald xr_170_204 hnn3 (pc' := 205) rfl ?_
                              refine T_p xr_170_205 xn_170 (pc' := 207) (ls' := [(7, .int (iI i)), (6, .int (iI pl)), (5, .int (iI k)), (3, .int (iI len)), (2, .int (iI kz)), (1, .int (iI n)), (0, .ref 530)]) (st' := [.int (iI 8), .long (nn3 n), .int (iI n), .ref 549]) rfl ?_
                              refine T_p xr_170_207 xn_170 (pc' := 208) (ls' := [(7, .int (iI i)), (6, .int (iI pl)), (5, .int (iI k)), (3, .int (iI len)), (2, .int (iI kz)), (1, .int (iI n)), (0, .ref 530)]) (st' := [.long ((nn3 n) <<< ((iI 8).toInt64 &&& 63)), .int (iI n), .ref 549]) rfl ?_
                              refine T_p xr_170_208 xn_170 (pc' := 209) (ls' := [(7, .int (iI i)), (6, .int (iI pl)), (5, .int (iI k)), (3, .int (iI len)), (2, .int (iI kz)), (1, .int (iI n)), (0, .ref 530)]) (st' := [.ref 530, .long ((nn3 n) <<< ((iI 8).toInt64 &&& 63)), .int (iI n), .ref 549]) rfl ?_
                              refine T_get xr_170_209 h1136 rfl (v := .ref 531) rfl (pc' := 212) rfl ?_
                              refine T_p xr_170_212 xn_170 (pc' := 214) (ls' := [(7, .int (iI i)), (6, .int (iI pl)), (5, .int (iI k)), (3, .int (iI len)), (2, .int (iI kz)), (1, .int (iI n)), (0, .ref 530)]) (st' := [.int (iI i), .ref 531, .long ((nn3 n) <<< ((iI 8).toInt64 &&& 63)), .int (iI n), .ref 549]) rfl ?_
                              have h1137 := (hF1132.1 531 (by omega)).trans ((n1126 531 (by decide)).trans ((n1120 531 (by decide)).trans (h1054)))
                              refine T_zbald xr_170_214 h1137 (pc' := 215) rfl ?_
                              have hti := htp i (by omega) (by omega)
                              have hai : X_at tb len i = tb i % 256 := X_at_in (by omega)
                              have hci : 33 ≤ X_at tb len i ∧ X_at tb len i ≤ 126 := by
                                by_cases hik : i = k
                                · rw [hik]; omega
                                · have hu := hscz i (by omega) (by omega)
                                  unfold X_ct at hu; omega
                              refine T_ie (y := iI (X_at tb len i)) (by congr 1; omega) ?_
                              refine T_p xr_170_215 xn_170 (pc' := 216) (ls' := [(7, .int (iI i)), (6, .int (iI pl)), (5, .int (iI k)), (3, .int (iI len)), (2, .int (iI kz)), (1, .int (iI n)), (0, .ref 530)]) (st' := [.long ((iI (X_at tb len i)).toInt64), .long ((nn3 n) <<< ((iI 8).toInt64 &&& 63)), .int (iI n), .ref 549]) rfl ?_
                              refine T_p xr_170_216 xn_170 (pc' := 217) (ls' := [(7, .int (iI i)), (6, .int (iI pl)), (5, .int (iI k)), (3, .int (iI len)), (2, .int (iI kz)), (1, .int (iI n)), (0, .ref 530)]) (st' := [.long (((nn3 n) <<< ((iI 8).toInt64 &&& 63)) ||| ((iI (X_at tb len i)).toInt64)), .int (iI n), .ref 549]) rfl ?_
                              refine T_zlast xr_170_217 hnn3 (pc' := 218) rfl (fun S1138 h1139 n1140 e1141 => ?_)
                              refine T_p xr_170_218 xn_170 (pc' := 220) (ls' := [(7, .int (iI i)), (6, .int (iI pl)), (5, .int (iI k)), (3, .int (iI len)), (2, .int (iI kz)), (1, .int (iI n)), (0, .ref 530)]) (st' := [.int (iI pl)]) rfl ?_
                              refine T_zif_eq xr_170_220 (t := 240) (pc' := 223) rfl rfl (fun c1142 => ?_) (fun c1142 => ?_)
                              · skip
                                have c1142 : pl = 0 := c1142
                                refine T_p xr_170_240 xn_170 (pc' := 241) (ls' := [(7, .int (iI i)), (6, .int (iI pl)), (5, .int (iI k)), (3, .int (iI len)), (2, .int (iI kz)), (1, .int (iI n)), (0, .ref 530)]) (st' := [.int (iI 0)]) rfl ?_
                                refine T_p xr_170_241 xn_170 (pc' := 243) (ls' := [(6, .int (iI 0)), (7, .int (iI i)), (5, .int (iI k)), (3, .int (iI len)), (2, .int (iI kz)), (1, .int (iI n)), (0, .ref 530)]) (st' := []) rfl ?_
                                refine T_p xr_170_243 xn_170 (pc' := 244) (ls' := [(6, .int (iI 0)), (7, .int (iI i)), (5, .int (iI k)), (3, .int (iI len)), (2, .int (iI kz)), (1, .int (iI n)), (0, .ref 530)]) (st' := [.ref 530]) rfl ?_
                                have h1143 := (n1140 530 (by decide)).trans (h1136)
                                refine T_get xr_170_244 h1143 rfl (v := .ref 551) rfl (pc' := 247) rfl ?_
                                refine T_p xr_170_247 xn_170 (pc' := 248) (ls' := [(6, .int (iI 0)), (7, .int (iI i)), (5, .int (iI k)), (3, .int (iI len)), (2, .int (iI kz)), (1, .int (iI n)), (0, .ref 530)]) (st' := [.int (iI n), .ref 551]) rfl ?_
                                refine T_p xr_170_248 xn_170 (pc' := 250) (ls' := [(6, .int (iI 0)), (7, .int (iI i)), (5, .int (iI k)), (3, .int (iI len)), (2, .int (iI kz)), (1, .int (iI n)), (0, .ref 530)]) (st' := [.int (iI 0), .int (iI n), .ref 551]) rfl ?_
                                refine T_zif_eqt xr_170_250 (t := 276) rfl (by decide) ?_
                                refine T_p xr_170_276 xn_170 (pc' := 277) (ls' := [(6, .int (iI 0)), (7, .int (iI i)), (5, .int (iI k)), (3, .int (iI len)), (2, .int (iI kz)), (1, .int (iI n)), (0, .ref 530)]) (st' := [.int (iI (-1)), .int (iI n), .ref 551]) rfl ?_
                                have h1144 := (n1140 551 (by decide)).trans (hnu3)
                                refine T_ziast xr_170_277 h1144 (pc' := 278) rfl (fun S1145 h1146 n1147 e1148 => ?_)
                                refine T_ziinc xr_170_278 xn_170 (a := i) (z := i + 1) rfl (Nat.le_of_ble_eq_true rfl) (by omega) (ls' := [(7, .int (iI (i + 1))), (6, .int (iI 0)), (5, .int (iI k)), (3, .int (iI len)), (2, .int (iI kz)), (1, .int (iI n)), (0, .ref 530)]) rfl (pc' := 281) rfl ?_
                                refine T_p xr_170_281 xn_170 (pc' := 188) (ls' := [(7, .int (iI (i + 1))), (6, .int (iI 0)), (5, .int (iI k)), (3, .int (iI len)), (2, .int (iI kz)), (1, .int (iI n)), (0, .ref 530)]) (st' := []) rfl ?_
                                have h1149 := (n1147 549 (by decide)).trans (h1139)
                                exact ih1129 S1145 (i + 1) kz 0 (X_ug nn3 n (((nn3 n) <<< ((iI 8).toInt64 &&& 63)) ||| ((iI (X_at tb len i)).toInt64))) (X_ug nu3 n (-1)) h1149 h1146 (hF1132.tr (((X_Fr.rf).tr (X_Fr.of n1140 e1141 (by omega))).tr (X_Fr.of n1147 e1148 (by omega)))) (by omega) (by omega) hscz hez (by rw [X_ug_s, X_pk_s (by omega), ← hnn]; rfl) (by
                                      rw [X_ug_s, X_rv_s (by omega)]
                                      first
                                      | (have hd : X_isD (X_at tb len i) := by assumption
                                         unfold X_isD at hd
                                         (repeat' split) <;> omega)
                                      | (have hd : ¬ X_isD (X_at tb len i) := by assumption
                                         unfold X_isD at hd
                                         (repeat' split) <;> omega)
                                      | ((repeat' split) <;> omega)) (by
                                      rw [X_rv_s (by omega)]
                                      first
                                      | (have hd : X_isD (X_at tb len i) := by assumption
                                         unfold X_isD at hd
                                         (repeat' split) <;> omega)
                                      | (have hd : ¬ X_isD (X_at tb len i) := by assumption
                                         unfold X_isD at hd
                                         (repeat' split) <;> omega)
                                      | ((repeat' split) <;> omega)) (fun v h1 h2 => by rw [X_ug_n _ _ (by omega), X_ug_n _ _ (by omega)]; exact hold v h1 h2) (by omega)
                              · skip
                                have c1142 : ¬ (pl = 0) := c1142
                                refine T_p xr_170_223 xn_170 (pc' := 224) (ls' := [(7, .int (iI i)), (6, .int (iI pl)), (5, .int (iI k)), (3, .int (iI len)), (2, .int (iI kz)), (1, .int (iI n)), (0, .ref 530)]) (st' := [.ref 530]) rfl ?_
                                have h1150 := (n1140 530 (by decide)).trans (h1136)
                                refine T_get xr_170_224 h1150 rfl (v := .ref 531) rfl (pc' := 227) rfl ?_
                                refine T_p xr_170_227 xn_170 (pc' := 229) (ls' := [(7, .int (iI i)), (6, .int (iI pl)), (5, .int (iI k)), (3, .int (iI len)), (2, .int (iI kz)), (1, .int (iI n)), (0, .ref 530)]) (st' := [.int (iI i), .ref 531]) rfl ?_
                                have h1151 := (n1140 531 (by decide)).trans (h1137)
                                refine T_zbald xr_170_229 h1151 (pc' := 230) rfl ?_
                                refine T_ie (y := iI (X_at tb len i)) (by congr 1; omega) ?_
                                refine T_cs xr_170_230 (by decide) xf_138.1 xn_138 (as := [.int (iI (X_at tb len i))]) (r := []) rfl (Nat.le_of_ble_eq_true rfl) (Nat.le_of_ble_eq_true rfl) (pc' := 233) rfl (ls' := [(0, .int (iI (X_at tb len i)))]) rfl ?_
                                refine T_p xr_138_0 xn_138 (pc' := 1) (ls' := [(0, .int (iI (X_at tb len i)))]) (st' := [.int (iI (X_at tb len i))]) rfl ?_
                                refine T_p xr_138_1 xn_138 (pc' := 3) (ls' := [(0, .int (iI (X_at tb len i)))]) (st' := [.int (iI 48), .int (iI (X_at tb len i))]) rfl ?_
                                refine T_zicmp_lt xr_138_3 (t := 16) (pc' := 6) rfl rfl (fun c1152 => ?_) (fun c1152 => ?_)
                                · skip
                                  have c1152 : (X_at tb len i) < 48 := c1152
                                  refine T_p xr_138_16 xn_138 (pc' := 17) (ls' := [(0, .int (iI (X_at tb len i)))]) (st' := [.int (iI 0)]) rfl ?_
                                  refine T_iret xr_138_17 xf_138.2.2 (by decide) ?_
                                  show X_T sc 170 (233, [(7, .int (iI i)), (6, .int (iI pl)), (5, .int (iI k)), (3, .int (iI len)), (2, .int (iI kz)), (1, .int (iI n)), (0, .ref 530)], [.int (iI 0)], S1138) _
                                  refine T_zif_eqt xr_170_233 (t := 240) rfl (by decide) ?_
                                  refine T_p xr_170_240 xn_170 (pc' := 241) (ls' := [(7, .int (iI i)), (6, .int (iI pl)), (5, .int (iI k)), (3, .int (iI len)), (2, .int (iI kz)), (1, .int (iI n)), (0, .ref 530)]) (st' := [.int (iI 0)]) rfl ?_
                                  refine T_p xr_170_241 xn_170 (pc' := 243) (ls' := [(6, .int (iI 0)), (7, .int (iI i)), (5, .int (iI k)), (3, .int (iI len)), (2, .int (iI kz)), (1, .int (iI n)), (0, .ref 530)]) (st' := []) rfl ?_
                                  refine T_p xr_170_243 xn_170 (pc' := 244) (ls' := [(6, .int (iI 0)), (7, .int (iI i)), (5, .int (iI k)), (3, .int (iI len)), (2, .int (iI kz)), (1, .int (iI n)), (0, .ref 530)]) (st' := [.ref 530]) rfl ?_
                                  refine T_get xr_170_244 h1150 rfl (v := .ref 551) rfl (pc' := 247) rfl ?_
                                  refine T_p xr_170_247 xn_170 (pc' := 248) (ls' := [(6, .int (iI 0)), (7, .int (iI i)), (5, .int (iI k)), (3, .int (iI len)), (2, .int (iI kz)), (1, .int (iI n)), (0, .ref 530)]) (st' := [.int (iI n), .ref 551]) rfl ?_
                                  refine T_p xr_170_248 xn_170 (pc' := 250) (ls' := [(6, .int (iI 0)), (7, .int (iI i)), (5, .int (iI k)), (3, .int (iI len)), (2, .int (iI kz)), (1, .int (iI n)), (0, .ref 530)]) (st' := [.int (iI 0), .int (iI n), .ref 551]) rfl ?_
                                  refine T_zif_eqt xr_170_250 (t := 276) rfl (by decide) ?_
                                  refine T_p xr_170_276 xn_170 (pc' := 277) (ls' := [(6, .int (iI 0)), (7, .int (iI i)), (5, .int (iI k)), (3, .int (iI len)), (2, .int (iI kz)), (1, .int (iI n)), (0, .ref 530)]) (st' := [.int (iI (-1)), .int (iI n), .ref 551]) rfl ?_
                                  have h1153 := (n1140 551 (by decide)).trans (hnu3)
                                  refine T_ziast xr_170_277 h1153 (pc' := 278) rfl (fun S1154 h1155 n1156 e1157 => ?_)
                                  refine T_ziinc xr_170_278 xn_170 (a := i) (z := i + 1) rfl (Nat.le_of_ble_eq_true rfl) (by omega) (ls' := [(7, .int (iI (i + 1))), (6, .int (iI 0)), (5, .int (iI k)), (3, .int (iI len)), (2, .int (iI kz)), (1, .int (iI n)), (0, .ref 530)]) rfl (pc' := 281) rfl ?_
                                  refine T_p xr_170_281 xn_170 (pc' := 188) (ls' := [(7, .int (iI (i + 1))), (6, .int (iI 0)), (5, .int (iI k)), (3, .int (iI len)), (2, .int (iI kz)), (1, .int (iI n)), (0, .ref 530)]) (st' := []) rfl ?_
                                  have h1158 := (n1156 549 (by decide)).trans (h1139)
                                  exact ih1129 S1154 (i + 1) kz 0 (X_ug nn3 n (((nn3 n) <<< ((iI 8).toInt64 &&& 63)) ||| ((iI (X_at tb len i)).toInt64))) (X_ug nu3 n (-1)) h1158 h1155 (hF1132.tr (((X_Fr.rf).tr (X_Fr.of n1140 e1141 (by omega))).tr (X_Fr.of n1156 e1157 (by omega)))) (by omega) (by omega) hscz hez (by rw [X_ug_s, X_pk_s (by omega), ← hnn]; rfl) (by
                                        rw [X_ug_s, X_rv_s (by omega)]
                                        first
                                        | (have hd : X_isD (X_at tb len i) := by assumption
                                           unfold X_isD at hd
                                           (repeat' split) <;> omega)
                                        | (have hd : ¬ X_isD (X_at tb len i) := by assumption
                                           unfold X_isD at hd
                                           (repeat' split) <;> omega)
                                        | ((repeat' split) <;> omega)) (by
                                        rw [X_rv_s (by omega)]
                                        first
                                        | (have hd : X_isD (X_at tb len i) := by assumption
                                           unfold X_isD at hd
                                           (repeat' split) <;> omega)
                                        | (have hd : ¬ X_isD (X_at tb len i) := by assumption
                                           unfold X_isD at hd
                                           (repeat' split) <;> omega)
                                        | ((repeat' split) <;> omega)) (fun v h1 h2 => by rw [X_ug_n _ _ (by omega), X_ug_n _ _ (by omega)]; exact hold v h1 h2) (by omega)
                                · skip
                                  have c1152 : ¬ ((X_at tb len i) < 48) := c1152
                                  refine T_p xr_138_6 xn_138 (pc' := 7) (ls' := [(0, .int (iI (X_at tb len i)))]) (st' := [.int (iI (X_at tb len i))]) rfl ?_
                                  refine T_p xr_138_7 xn_138 (pc' := 9) (ls' := [(0, .int (iI (X_at tb len i)))]) (st' := [.int (iI 57), .int (iI (X_at tb len i))]) rfl ?_
                                  refine T_zicmp_gt xr_138_9 (t := 16) (pc' := 12) rfl rfl (fun c1159 => ?_) (fun c1159 => ?_)
                                  · skip
                                    have c1159 : 57 < (X_at tb len i) := c1159
                                    refine T_p xr_138_16 xn_138 (pc' := 17) (ls' := [(0, .int (iI (X_at tb len i)))]) (st' := [.int (iI 0)]) rfl ?_
                                    refine T_iret xr_138_17 xf_138.2.2 (by decide) ?_
                                    show X_T sc 170 (233, [(7, .int (iI i)), (6, .int (iI pl)), (5, .int (iI k)), (3, .int (iI len)), (2, .int (iI kz)), (1, .int (iI n)), (0, .ref 530)], [.int (iI 0)], S1138) _
                                    refine T_zif_eqt xr_170_233 (t := 240) rfl (by decide) ?_
                                    refine T_p xr_170_240 xn_170 (pc' := 241) (ls' := [(7, .int (iI i)), (6, .int (iI pl)), (5, .int (iI k)), (3, .int (iI len)), (2, .int (iI kz)), (1, .int (iI n)), (0, .ref 530)]) (st' := [.int (iI 0)]) rfl ?_
                                    refine T_p xr_170_241 xn_170 (pc' := 243) (ls' := [(6, .int (iI 0)), (7, .int (iI i)), (5, .int (iI k)), (3, .int (iI len)), (2, .int (iI kz)), (1, .int (iI n)), (0, .ref 530)]) (st' := []) rfl ?_
                                    refine T_p xr_170_243 xn_170 (pc' := 244) (ls' := [(6, .int (iI 0)), (7, .int (iI i)), (5, .int (iI k)), (3, .int (iI len)), (2, .int (iI kz)), (1, .int (iI n)), (0, .ref 530)]) (st' := [.ref 530]) rfl ?_
                                    refine T_get xr_170_244 h1150 rfl (v := .ref 551) rfl (pc' := 247) rfl ?_
                                    refine T_p xr_170_247 xn_170 (pc' := 248) (ls' := [(6, .int (iI 0)), (7, .int (iI i)), (5, .int (iI k)), (3, .int (iI len)), (2, .int (iI kz)), (1, .int (iI n)), (0, .ref 530)]) (st' := [.int (iI n), .ref 551]) rfl ?_
                                    refine T_p xr_170_248 xn_170 (pc' := 250) (ls' := [(6, .int (iI 0)), (7, .int (iI i)), (5, .int (iI k)), (3, .int (iI len)), (2, .int (iI kz)), (1, .int (iI n)), (0, .ref 530)]) (st' := [.int (iI 0), .int (iI n), .ref 551]) rfl ?_
                                    refine T_zif_eqt xr_170_250 (t := 276) rfl (by decide) ?_
                                    refine T_p xr_170_276 xn_170 (pc' := 277) (ls' := [(6, .int (iI 0)), (7, .int (iI i)), (5, .int (iI k)), (3, .int (iI len)), (2, .int (iI kz)), (1, .int (iI n)), (0, .ref 530)]) (st' := [.int (iI (-1)), .int (iI n), .ref 551]) rfl ?_
                                    have h1160 := (n1140 551 (by decide)).trans (hnu3)
                                    refine T_ziast xr_170_277 h1160 (pc' := 278) rfl (fun S1161 h1162 n1163 e1164 => ?_)
                                    refine T_ziinc xr_170_278 xn_170 (a := i) (z := i + 1) rfl (Nat.le_of_ble_eq_true rfl) (by omega) (ls' := [(7, .int (iI (i + 1))), (6, .int (iI 0)), (5, .int (iI k)), (3, .int (iI len)), (2, .int (iI kz)), (1, .int (iI n)), (0, .ref 530)]) rfl (pc' := 281) rfl ?_
                                    refine T_p xr_170_281 xn_170 (pc' := 188) (ls' := [(7, .int (iI (i + 1))), (6, .int (iI 0)), (5, .int (iI k)), (3, .int (iI len)), (2, .int (iI kz)), (1, .int (iI n)), (0, .ref 530)]) (st' := []) rfl ?_
                                    have h1165 := (n1163 549 (by decide)).trans (h1139)
                                    exact ih1129 S1161 (i + 1) kz 0 (X_ug nn3 n (((nn3 n) <<< ((iI 8).toInt64 &&& 63)) ||| ((iI (X_at tb len i)).toInt64))) (X_ug nu3 n (-1)) h1165 h1162 (hF1132.tr (((X_Fr.rf).tr (X_Fr.of n1140 e1141 (by omega))).tr (X_Fr.of n1163 e1164 (by omega)))) (by omega) (by omega) hscz hez (by rw [X_ug_s, X_pk_s (by omega), ← hnn]; rfl) (by
                                          rw [X_ug_s, X_rv_s (by omega)]
                                          first
                                          | (have hd : X_isD (X_at tb len i) := by assumption
                                             unfold X_isD at hd
                                             (repeat' split) <;> omega)
                                          | (have hd : ¬ X_isD (X_at tb len i) := by assumption
                                             unfold X_isD at hd
                                             (repeat' split) <;> omega)
                                          | ((repeat' split) <;> omega)) (by
                                          rw [X_rv_s (by omega)]
                                          first
                                          | (have hd : X_isD (X_at tb len i) := by assumption
                                             unfold X_isD at hd
                                             (repeat' split) <;> omega)
                                          | (have hd : ¬ X_isD (X_at tb len i) := by assumption
                                             unfold X_isD at hd
                                             (repeat' split) <;> omega)
                                          | ((repeat' split) <;> omega)) (fun v h1 h2 => by rw [X_ug_n _ _ (by omega), X_ug_n _ _ (by omega)]; exact hold v h1 h2) (by omega)
                                  · skip
                                    have c1159 : ¬ (57 < (X_at tb len i)) := c1159
                                    refine T_p xr_138_12 xn_138 (pc' := 13) (ls' := [(0, .int (iI (X_at tb len i)))]) (st' := [.int (iI 1)]) rfl ?_
                                    refine T_p xr_138_13 xn_138 (pc' := 17) (ls' := [(0, .int (iI (X_at tb len i)))]) (st' := [.int (iI 1)]) rfl ?_
                                    refine T_iret xr_138_17 xf_138.2.2 (by decide) ?_
                                    show X_T sc 170 (233, [(7, .int (iI i)), (6, .int (iI pl)), (5, .int (iI k)), (3, .int (iI len)), (2, .int (iI kz)), (1, .int (iI n)), (0, .ref 530)], [.int (iI 1)], S1138) _
                                    refine T_zif_eqf xr_170_233 (t := 240) (pc' := 236) rfl rfl (by decide) ?_
                                    refine T_p xr_170_236 xn_170 (pc' := 237) (ls' := [(7, .int (iI i)), (6, .int (iI pl)), (5, .int (iI k)), (3, .int (iI len)), (2, .int (iI kz)), (1, .int (iI n)), (0, .ref 530)]) (st' := [.int (iI 1)]) rfl ?_
                                    refine T_p xr_170_237 xn_170 (pc' := 241) (ls' := [(7, .int (iI i)), (6, .int (iI pl)), (5, .int (iI k)), (3, .int (iI len)), (2, .int (iI kz)), (1, .int (iI n)), (0, .ref 530)]) (st' := [.int (iI 1)]) rfl ?_
                                    refine T_p xr_170_241 xn_170 (pc' := 243) (ls' := [(6, .int (iI 1)), (7, .int (iI i)), (5, .int (iI k)), (3, .int (iI len)), (2, .int (iI kz)), (1, .int (iI n)), (0, .ref 530)]) (st' := []) rfl ?_
                                    refine T_p xr_170_243 xn_170 (pc' := 244) (ls' := [(6, .int (iI 1)), (7, .int (iI i)), (5, .int (iI k)), (3, .int (iI len)), (2, .int (iI kz)), (1, .int (iI n)), (0, .ref 530)]) (st' := [.ref 530]) rfl ?_
                                    refine T_get xr_170_244 h1150 rfl (v := .ref 551) rfl (pc' := 247) rfl ?_
                                    refine T_p xr_170_247 xn_170 (pc' := 248) (ls' := [(6, .int (iI 1)), (7, .int (iI i)), (5, .int (iI k)), (3, .int (iI len)), (2, .int (iI kz)), (1, .int (iI n)), (0, .ref 530)]) (st' := [.int (iI n), .ref 551]) rfl ?_
                                    refine T_p xr_170_248 xn_170 (pc' := 250) (ls' := [(6, .int (iI 1)), (7, .int (iI i)), (5, .int (iI k)), (3, .int (iI len)), (2, .int (iI kz)), (1, .int (iI n)), (0, .ref 530)]) (st' := [.int (iI 1), .int (iI n), .ref 551]) rfl ?_
                                    refine T_zif_eqf xr_170_250 (t := 276) (pc' := 253) rfl rfl (by decide) ?_
                                    refine T_p xr_170_253 xn_170 (pc' := 255) (ls' := [(6, .int (iI 1)), (7, .int (iI i)), (5, .int (iI k)), (3, .int (iI len)), (2, .int (iI kz)), (1, .int (iI n)), (0, .ref 530)]) (st' := [.int (iI 10), .int (iI n), .ref 551]) rfl ?_
                                    refine T_p xr_170_255 xn_170 (pc' := 256) (ls' := [(6, .int (iI 1)), (7, .int (iI i)), (5, .int (iI k)), (3, .int (iI len)), (2, .int (iI kz)), (1, .int (iI n)), (0, .ref 530)]) (st' := [.ref 530, .int (iI 10), .int (iI n), .ref 551]) rfl ?_
                                    refine T_get xr_170_256 h1150 rfl (v := .ref 551) rfl (pc' := 259) rfl ?_
                                    refine T_p xr_170_259 xn_170 (pc' := 260) (ls' := [(6, .int (iI 1)), (7, .int (iI i)), (5, .int (iI k)), (3, .int (iI len)), (2, .int (iI kz)), (1, .int (iI n)), (0, .ref 530)]) (st' := [.int (iI n), .ref 551, .int (iI 10), .int (iI n), .ref 551]) rfl ?_
                                    have h1166 := (n1140 551 (by decide)).trans (hnu3)
                                    refine T_ziald xr_170_260 h1166 (pc' := 261) rfl ?_
                                    refine T_zimul xr_170_261 (z := 10 * (nu3 n)) rfl (pc' := 262) rfl ?_
                                    refine T_p xr_170_262 xn_170 (pc' := 263) (ls' := [(6, .int (iI 1)), (7, .int (iI i)), (5, .int (iI k)), (3, .int (iI len)), (2, .int (iI kz)), (1, .int (iI n)), (0, .ref 530)]) (st' := [.ref 530, .int (iI (10 * (nu3 n))), .int (iI n), .ref 551]) rfl ?_
                                    refine T_get xr_170_263 h1150 rfl (v := .ref 531) rfl (pc' := 266) rfl ?_
                                    refine T_p xr_170_266 xn_170 (pc' := 268) (ls' := [(6, .int (iI 1)), (7, .int (iI i)), (5, .int (iI k)), (3, .int (iI len)), (2, .int (iI kz)), (1, .int (iI n)), (0, .ref 530)]) (st' := [.int (iI i), .ref 531, .int (iI (10 * (nu3 n))), .int (iI n), .ref 551]) rfl ?_
                                    refine T_zbald xr_170_268 h1151 (pc' := 269) rfl ?_
                                    refine T_ie (y := iI (X_at tb len i)) (by congr 1; omega) ?_
                                    refine T_ziadd xr_170_269 (z := (10 * (nu3 n)) + (X_at tb len i)) rfl (pc' := 270) rfl ?_
                                    refine T_p xr_170_270 xn_170 (pc' := 272) (ls' := [(6, .int (iI 1)), (7, .int (iI i)), (5, .int (iI k)), (3, .int (iI len)), (2, .int (iI kz)), (1, .int (iI n)), (0, .ref 530)]) (st' := [.int (iI 48), .int (iI ((10 * (nu3 n)) + (X_at tb len i))), .int (iI n), .ref 551]) rfl ?_
                                    refine T_zisub xr_170_272 (z := ((10 * (nu3 n)) + (X_at tb len i)) - 48) rfl (pc' := 273) rfl ?_
                                    refine T_p xr_170_273 xn_170 (pc' := 277) (ls' := [(6, .int (iI 1)), (7, .int (iI i)), (5, .int (iI k)), (3, .int (iI len)), (2, .int (iI kz)), (1, .int (iI n)), (0, .ref 530)]) (st' := [.int (iI (((10 * (nu3 n)) + (X_at tb len i)) - 48)), .int (iI n), .ref 551]) rfl ?_
                                    refine T_ziast xr_170_277 h1166 (pc' := 278) rfl (fun S1167 h1168 n1169 e1170 => ?_)
                                    refine T_ziinc xr_170_278 xn_170 (a := i) (z := i + 1) rfl (Nat.le_of_ble_eq_true rfl) (by omega) (ls' := [(7, .int (iI (i + 1))), (6, .int (iI 1)), (5, .int (iI k)), (3, .int (iI len)), (2, .int (iI kz)), (1, .int (iI n)), (0, .ref 530)]) rfl (pc' := 281) rfl ?_
                                    refine T_p xr_170_281 xn_170 (pc' := 188) (ls' := [(7, .int (iI (i + 1))), (6, .int (iI 1)), (5, .int (iI k)), (3, .int (iI len)), (2, .int (iI kz)), (1, .int (iI n)), (0, .ref 530)]) (st' := []) rfl ?_
                                    have h1171 := (n1169 549 (by decide)).trans (h1139)
                                    exact ih1129 S1167 (i + 1) kz 1 (X_ug nn3 n (((nn3 n) <<< ((iI 8).toInt64 &&& 63)) ||| ((iI (X_at tb len i)).toInt64))) (X_ug nu3 n (((10 * (nu3 n)) + (X_at tb len i)) - 48)) h1171 h1168 (hF1132.tr (((X_Fr.rf).tr (X_Fr.of n1140 e1141 (by omega))).tr (X_Fr.of n1169 e1170 (by omega)))) (by omega) (by omega) hscz hez (by rw [X_ug_s, X_pk_s (by omega), ← hnn]; rfl) (by
                                          rw [X_ug_s, X_rv_s (by omega)]
                                          first
                                          | (have hd : X_isD (X_at tb len i) := by assumption
                                             unfold X_isD at hd
                                             (repeat' split) <;> omega)
                                          | (have hd : ¬ X_isD (X_at tb len i) := by assumption
                                             unfold X_isD at hd
                                             (repeat' split) <;> omega)
                                          | ((repeat' split) <;> omega)) (by
                                          rw [X_rv_s (by omega)]
                                          first
                                          | (have hd : X_isD (X_at tb len i) := by assumption
                                             unfold X_isD at hd
                                             (repeat' split) <;> omega)
                                          | (have hd : ¬ X_isD (X_at tb len i) := by assumption
                                             unfold X_isD at hd
                                             (repeat' split) <;> omega)
                                          | ((repeat' split) <;> omega)) (fun v h1 h2 => by rw [X_ug_n _ _ (by omega), X_ug_n _ _ (by omega)]; exact hold v h1 h2) (by omega)
                        refine T_sub (ls := [(7, .int (iI k)), (6, .int (iI 1)), (5, .int (iI k)), (3, .int (iI len)), (2, .int (iI (k + 1))), (1, .int (iI n)), (0, .ref 530)]) ⟨rfl, rfl, rfl, rfl, rfl, rfl, rfl, trivial⟩ rfl rfl ?_
                        exact L1128 (len + 1).toNat S1124 k (k + 1) 1 (X_ug nna n (iL 0)) (X_ug nua n 0) h1133 h1125 ((X_Fr.rf)) (by omega) (by omega) (fun q h1 h2 => by first | exact hscan q h1 h2 | exact absurd h2 (by omega)) ⟨fun h1 h2 => by unfold X_ct at *; omega, fun h1 => by unfold X_ct at h1; omega⟩ (by rw [X_ug_s, show (k - k).toNat = 0 by omega]; rfl) (by rw [X_ug_s, show (k - k).toNat = 0 by omega]; rfl) (Or.inl ⟨rfl, by rw [show (k - k).toNat = 0 by omega]; exact (show ¬ (0 : Int) = -1 by omega)⟩) (fun v h1 h2 => by rw [X_ug_n _ _ (by omega), X_ug_n _ _ (by omega)]; exact hX3 v h1 h2) (by omega)
                      · skip
                        have c1117 : ¬ (((k + 1) - k) ≤ 8) := c1117
                        have hnone : X_sn tb len len.toNat = none := by
                          first
                          | (exfalso; omega)
                          | (have hck : X_ct (X_at tb len k) := by unfold X_ct; omega
                             refine X_sn_9 (f := k) (by omega) hX1 (by omega) hck ?_ (fun q h1 h2 => hscan q h1 (by omega)) (by omega)
                             by_cases hz : 0 < z
                             · exact absurd hck (hX2 hz (by omega))
                             · omega)
                        refine T_p xr_170_165 xn_170 (pc' := 166) (ls' := [(2, .int (iI (k + 1))), (5, .int (iI k)), (4, .int (iI (X_at tb len k))), (3, .int (iI len)), (1, .int (iI n)), (0, .ref 530)]) (st' := [.int (iI (-1))]) rfl ?_
                        refine T_iret xr_170_166 xf_170.2.2 rfl ?_
                        refine hQ _ _ ?_
                        exact Or.inl ⟨nna, nua, rfl, hnone, h1053, hnna, hnua, ((X_Fr.rf).tr (X_Fr.of n968 e969 (by omega))).tr (X_Fr.mono ⟨hF974.1, hF974.2⟩ (fun q hq => (by omega)))⟩
                    · skip
                      have c1116 : ¬ ((X_at tb len k) = 41) := c1116
                      have L1172 : ∀ (m1174 : Nat) (k2 : Int) (hk2 : k + 1 ≤ k2 ∧ k2 ≤ len) (hscan : ∀ q, k < q → q < k2 → X_ct (X_at tb len q)) (hm1175 : len - k2 < m1174), X_T sc 170 (93, [(5, .int (iI k)), (4, .int (iI (X_at tb len k))), (3, .int (iI len)), (2, .int (iI k2)), (1, .int (iI n)), (0, .ref 530)], [], S977) Q := by
                        intro m1174
                        induction m1174 with
                        | zero =>
                          intro k2 hk2 hscan hm1175
                          exact (show False by omega).elim
                        | succ m1174 ih1173 =>
                          intro k2 hk2 hscan hm1175
                          refine T_p xr_170_93 xn_170 (pc' := 94) (ls' := [(5, .int (iI k)), (4, .int (iI (X_at tb len k))), (3, .int (iI len)), (2, .int (iI k2)), (1, .int (iI n)), (0, .ref 530)]) (st' := [.int (iI k2)]) rfl ?_
                          refine T_p xr_170_94 xn_170 (pc' := 95) (ls' := [(5, .int (iI k)), (4, .int (iI (X_at tb len k))), (3, .int (iI len)), (2, .int (iI k2)), (1, .int (iI n)), (0, .ref 530)]) (st' := [.int (iI len), .int (iI k2)]) rfl ?_
                          refine T_zicmp_ge xr_170_95 (t := 156) (pc' := 98) rfl rfl (fun c1177 => ?_) (fun c1177 => ?_)
                          · skip
                            have c1177 : len ≤ k2 := c1177
                            refine T_p xr_170_156 xn_170 (pc' := 157) (ls' := [(5, .int (iI k)), (4, .int (iI (X_at tb len k))), (3, .int (iI len)), (2, .int (iI k2)), (1, .int (iI n)), (0, .ref 530)]) (st' := [.int (iI k2)]) rfl ?_
                            refine T_p xr_170_157 xn_170 (pc' := 159) (ls' := [(5, .int (iI k)), (4, .int (iI (X_at tb len k))), (3, .int (iI len)), (2, .int (iI k2)), (1, .int (iI n)), (0, .ref 530)]) (st' := [.int (iI k), .int (iI k2)]) rfl ?_
                            refine T_zisub xr_170_159 (z := k2 - k) rfl (pc' := 160) rfl ?_
                            refine T_p xr_170_160 xn_170 (pc' := 162) (ls' := [(5, .int (iI k)), (4, .int (iI (X_at tb len k))), (3, .int (iI len)), (2, .int (iI k2)), (1, .int (iI n)), (0, .ref 530)]) (st' := [.int (iI 8), .int (iI (k2 - k))]) rfl ?_
                            refine T_zicmp_le xr_170_162 (t := 167) (pc' := 165) rfl rfl (fun c1178 => ?_) (fun c1178 => ?_)
                            · skip
                              have c1178 : (k2 - k) ≤ 8 := c1178
                              refine T_p xr_170_167 xn_170 (pc' := 168) (ls' := [(5, .int (iI k)), (4, .int (iI (X_at tb len k))), (3, .int (iI len)), (2, .int (iI k2)), (1, .int (iI n)), (0, .ref 530)]) (st' := [.ref 530]) rfl ?_
                              refine T_get xr_170_168 h1053 rfl (v := .ref 549) rfl (pc' := 171) rfl ?_
                              refine T_p xr_170_171 xn_170 (pc' := 172) (ls' := [(5, .int (iI k)), (4, .int (iI (X_at tb len k))), (3, .int (iI len)), (2, .int (iI k2)), (1, .int (iI n)), (0, .ref 530)]) (st' := [.int (iI n), .ref 549]) rfl ?_
                              refine T_p xr_170_172 xn_170 (pc' := 173) (ls' := [(5, .int (iI k)), (4, .int (iI (X_at tb len k))), (3, .int (iI len)), (2, .int (iI k2)), (1, .int (iI n)), (0, .ref 530)]) (st' := [.long (iL 0), .int (iI n), .ref 549]) rfl ?_
                              refine T_zlast xr_170_173 hnna (pc' := 174) rfl (fun S1179 h1180 n1181 e1182 => ?_)
                              refine T_p xr_170_174 xn_170 (pc' := 175) (ls' := [(5, .int (iI k)), (4, .int (iI (X_at tb len k))), (3, .int (iI len)), (2, .int (iI k2)), (1, .int (iI n)), (0, .ref 530)]) (st' := [.ref 530]) rfl ?_
                              have h1183 := (n1181 530 (by decide)).trans (h1053)
                              refine T_get xr_170_175 h1183 rfl (v := .ref 551) rfl (pc' := 178) rfl ?_
                              refine T_p xr_170_178 xn_170 (pc' := 179) (ls' := [(5, .int (iI k)), (4, .int (iI (X_at tb len k))), (3, .int (iI len)), (2, .int (iI k2)), (1, .int (iI n)), (0, .ref 530)]) (st' := [.int (iI n), .ref 551]) rfl ?_
                              refine T_p xr_170_179 xn_170 (pc' := 180) (ls' := [(5, .int (iI k)), (4, .int (iI (X_at tb len k))), (3, .int (iI len)), (2, .int (iI k2)), (1, .int (iI n)), (0, .ref 530)]) (st' := [.int (iI 0), .int (iI n), .ref 551]) rfl ?_
                              have h1184 := (n1181 551 (by decide)).trans (hnua)
                              refine T_ziast xr_170_180 h1184 (pc' := 181) rfl (fun S1185 h1186 n1187 e1188 => ?_)
                              refine T_p xr_170_181 xn_170 (pc' := 182) (ls' := [(5, .int (iI k)), (4, .int (iI (X_at tb len k))), (3, .int (iI len)), (2, .int (iI k2)), (1, .int (iI n)), (0, .ref 530)]) (st' := [.int (iI 1)]) rfl ?_
                              refine T_p xr_170_182 xn_170 (pc' := 184) (ls' := [(6, .int (iI 1)), (5, .int (iI k)), (4, .int (iI (X_at tb len k))), (3, .int (iI len)), (2, .int (iI k2)), (1, .int (iI n)), (0, .ref 530)]) (st' := []) rfl ?_
                              refine T_p xr_170_184 xn_170 (pc' := 186) (ls' := [(6, .int (iI 1)), (5, .int (iI k)), (4, .int (iI (X_at tb len k))), (3, .int (iI len)), (2, .int (iI k2)), (1, .int (iI n)), (0, .ref 530)]) (st' := [.int (iI k)]) rfl ?_
                              refine T_p xr_170_186 xn_170 (pc' := 188) (ls' := [(7, .int (iI k)), (6, .int (iI 1)), (5, .int (iI k)), (4, .int (iI (X_at tb len k))), (3, .int (iI len)), (2, .int (iI k2)), (1, .int (iI n)), (0, .ref 530)]) (st' := []) rfl ?_
                              have h1194 := (n1187 549 (by decide)).trans (h1180)
                              have L1189 : ∀ (m1191 : Nat) (S1195 : X_S) (i : Int) (kz : Int) (pl : Int) (nn3 : Int → Int64) (nu3 : Int → Int) (hnn3 : S1195.1 549 = .inl (.long, 30, .inr (.inl fun k : Nat => nn3 (k : Int)))) (hnu3 : S1195.1 551 = .inl (.int, 30, .inl fun k : Nat => iI (nu3 (k : Int)))) (hF1193 : X_Fr (fun q => q = 549 ∨ q = 551) S1185 S1195) (hi : k ≤ i ∧ i ≤ kz ∧ kz - k ≤ 8) (hkz : k + 1 ≤ kz ∧ kz ≤ len) (hscz : ∀ q, k < q → q < kz → X_ct (X_at tb len q)) (hez : (X_ct (X_at tb len k) → kz < len → ¬ X_ct (X_at tb len kz)) ∧ (¬ X_ct (X_at tb len k) → kz = k + 1)) (hnn : nn3 n = X_pk tb len k (i - k).toNat) (hnu : nu3 n = X_rv tb len k (i - k).toNat) (hpl : (pl = 1 ∧ ¬ X_rv tb len k (i - k).toNat = -1) ∨ (pl = 0 ∧ X_rv tb len k (i - k).toNat = -1)) (hold : ∀ v, 0 ≤ v → v < n → nn3 v = t v ∧ nu3 v = X_nv (t v)) (hm1192 : len - i < m1191), X_T sc 170 (188, [(7, .int (iI i)), (6, .int (iI pl)), (5, .int (iI k)), (3, .int (iI len)), (2, .int (iI kz)), (1, .int (iI n)), (0, .ref 530)], [], S1195) Q := by
                                intro m1191
                                induction m1191 with
                                | zero =>
                                  intro S1195 i kz pl nn3 nu3 hnn3 hnu3 hF1193 hi hkz hscz hez hnn hnu hpl hold hm1192
                                  exact (show False by omega).elim
                                | succ m1191 ih1190 =>
                                  intro S1195 i kz pl nn3 nu3 hnn3 hnu3 hF1193 hi hkz hscz hez hnn hnu hpl hold hm1192
                                  have hrr := X_rv_r (tb := tb) (len := len) (p := k) (i - k).toNat (fun u g1 g2 => by have := X_at_in (tb := tb) (len := len) (p := k + u) (by omega); omega)
                                  have h10 : (10 : Nat) ^ (i - k).toNat ≤ 10 ^ 8 := Nat.pow_le_pow_right (by omega) (by omega)
                                  have h108 : (10 : Nat) ^ 8 = 100000000 := by decide
                                  refine T_p xr_170_188 xn_170 (pc' := 190) (ls' := [(7, .int (iI i)), (6, .int (iI pl)), (5, .int (iI k)), (3, .int (iI len)), (2, .int (iI kz)), (1, .int (iI n)), (0, .ref 530)]) (st' := [.int (iI i)]) rfl ?_
                                  refine T_p xr_170_190 xn_170 (pc' := 191) (ls' := [(7, .int (iI i)), (6, .int (iI pl)), (5, .int (iI k)), (3, .int (iI len)), (2, .int (iI kz)), (1, .int (iI n)), (0, .ref 530)]) (st' := [.int (iI kz), .int (iI i)]) rfl ?_
                                  refine T_zicmp_ge xr_170_191 (t := 284) (pc' := 194) rfl rfl (fun c1196 => ?_) (fun c1196 => ?_)
                                  · skip
                                    have c1196 : kz ≤ i := c1196
                                    have hpn : ∃ T z', X_sn tb len kz.toNat = some (n + 1, z', T) ∧ 0 ≤ z' ∧ (0 < z' → kz < len → ¬ X_ct (X_at tb len kz)) ∧ T n = X_pk tb len k (kz - k).toNat ∧ ∀ i, ¬ i = n → T i = t i := by
                                      by_cases hck : X_ct (X_at tb len k)
                                      · have hz0 : z = 0 := by
                                          by_cases hz : 0 < z
                                          · exact absurd hck (hX2 hz (by omega))
                                          · omega
                                        obtain ⟨T, a1, a2, a3⟩ := X_sn_m (by omega) hX1 (by omega) hck hz0 (kz - k).toNat (by omega) (by omega) (fun q h1 h2 => hscz q h1 (by omega))
                                        rw [show k + (((kz - k).toNat : Nat) : Int) = kz by omega] at a1
                                        exact ⟨T, _, a1, by omega, fun _ h1 => hez.1 hck h1, a2, a3⟩
                                      · have a1 := X_sn_f (by omega) hX1 (by omega) ⟨by unfold X_isBl; omega, by omega⟩ (fun _ => hck)
                                        have hbr : X_at tb len k = 40 ∨ X_at tb len k = 41 := by unfold X_ct at hck; omega
                                        have hkz := hez.2 hck
                                        rw [if_pos hbr] at a1
                                        rw [hkz]
                                        exact ⟨_, 0, a1, by omega, fun y => absurd y (by omega), by rw [X_ug_s, show (k + 1 - k).toNat = 1 by omega], fun i hi => X_ug_n _ _ hi⟩
                                    obtain ⟨T, z', b1, b2, b3, b4, b5⟩ := hpn
                                    have hnvk : X_nv (X_pk tb len k (kz - k).toNat) = X_rv tb len k (kz - k).toNat := X_nv_pk _ (by omega) (fun u h1 h2 => by
                                      have h3 := X_at_in (tb := tb) (len := len) (p := k + u) (by omega)
                                      by_cases hu : u = 0
                                      · subst hu; rw [show k + 0 = k by omega]; omega
                                      · have := hscz (k + u) (by omega) (by omega)
                                        unfold X_ct at this; omega)
                                    have hie : i = kz := by omega
                                    have hnew : ∃ z t, X_sn tb len kz.toNat = some (n + 1, z, t) ∧ 0 ≤ z ∧ (0 < z → kz < len → ¬ X_ct (X_at tb len kz)) ∧ ∀ v, 0 ≤ v → v < n + 1 → nn3 v = t v ∧ nu3 v = X_nv (t v) := ⟨z', T, b1, b2, b3, fun v h1 h2 => by
                                      by_cases hv : v = n
                                      · rw [hv, b4, hnvk, ← hie]; exact ⟨hnn, hnu⟩
                                      · rw [b5 v hv]; exact hold v h1 (by omega)⟩
                                    refine T_ziinc xr_170_284 xn_170 (a := n) (z := n + 1) rfl (Nat.le_of_ble_eq_true rfl) (by omega) (ls' := [(1, .int (iI (n + 1))), (7, .int (iI i)), (6, .int (iI pl)), (5, .int (iI k)), (3, .int (iI len)), (2, .int (iI kz)), (0, .ref 530)]) rfl (pc' := 287) rfl ?_
                                    refine T_p xr_170_287 xn_170 (pc' := 14) (ls' := [(1, .int (iI (n + 1))), (7, .int (iI i)), (6, .int (iI pl)), (5, .int (iI k)), (3, .int (iI len)), (2, .int (iI kz)), (0, .ref 530)]) (st' := []) rfl ?_
                                    refine T_sub (ls := [(3, .int (iI len)), (2, .int (iI kz)), (1, .int (iI (n + 1))), (0, .ref 530)]) ⟨rfl, rfl, rfl, rfl, trivial⟩ rfl rfl ?_
                                    exact ih971 S1195 (n + 1) kz nn3 nu3 hnn3 hnu3 (hF974.tr ((((X_Fr.rf).tr (X_Fr.of n1181 e1182 (by omega))).tr (X_Fr.of n1187 e1188 (by omega))).tr (X_Fr.mono ⟨hF1193.1, hF1193.2⟩ (fun q hq => (by omega))))) (by omega) (by omega) hnew (by omega)
                                  · skip
                                    have c1196 : ¬ (kz ≤ i) := c1196
                                    refine T_p xr_170_194 xn_170 (pc' := 195) (ls' := [(7, .int (iI i)), (6, .int (iI pl)), (5, .int (iI k)), (3, .int (iI len)), (2, .int (iI kz)), (1, .int (iI n)), (0, .ref 530)]) (st' := [.ref 530]) rfl ?_
                                    have h1197 := (hF1193.1 530 (by omega)).trans ((n1187 530 (by decide)).trans (h1183))
                                    refine T_get xr_170_195 h1197 rfl (v := .ref 549) rfl (pc' := 198) rfl ?_
                                    refine T_p xr_170_198 xn_170 (pc' := 199) (ls' := [(7, .int (iI i)), (6, .int (iI pl)), (5, .int (iI k)), (3, .int (iI len)), (2, .int (iI kz)), (1, .int (iI n)), (0, .ref 530)]) (st' := [.int (iI n), .ref 549]) rfl ?_
                                    refine T_p xr_170_199 xn_170 (pc' := 200) (ls' := [(7, .int (iI i)), (6, .int (iI pl)), (5, .int (iI k)), (3, .int (iI len)), (2, .int (iI kz)), (1, .int (iI n)), (0, .ref 530)]) (st' := [.ref 530, .int (iI n), .ref 549]) rfl ?_
                                    refine T_get xr_170_200 h1197 rfl (v := .ref 549) rfl (pc' := 203) rfl ?_
                                    refine T_p xr_170_203 xn_170 (pc' := 204) (ls' := [(7, .int (iI i)), (6, .int (iI pl)), (5, .int (iI k)), (3, .int (iI len)), (2, .int (iI kz)), (1, .int (iI n)), (0, .ref 530)]) (st' := [.int (iI n), .ref 549, .int (iI n), .ref 549]) rfl ?_
                                    refine T_zlald xr_170_204 hnn3 (pc' := 205) rfl ?_
                                    refine T_p xr_170_205 xn_170 (pc' := 207) (ls' := [(7, .int (iI i)), (6, .int (iI pl)), (5, .int (iI k)), (3, .int (iI len)), (2, .int (iI kz)), (1, .int (iI n)), (0, .ref 530)]) (st' := [.int (iI 8), .long (nn3 n), .int (iI n), .ref 549]) rfl ?_
                                    refine T_p xr_170_207 xn_170 (pc' := 208) (ls' := [(7, .int (iI i)), (6, .int (iI pl)), (5, .int (iI k)), (3, .int (iI len)), (2, .int (iI kz)), (1, .int (iI n)), (0, .ref 530)]) (st' := [.long ((nn3 n) <<< ((iI 8).toInt64 &&& 63)), .int (iI n), .ref 549]) rfl ?_
                                    refine T_p xr_170_208 xn_170 (pc' := 209) (ls' := [(7, .int (iI i)), (6, .int (iI pl)), (5, .int (iI k)), (3, .int (iI len)), (2, .int (iI kz)), (1, .int (iI n)), (0, .ref 530)]) (st' := [.ref 530, .long ((nn3 n) <<< ((iI 8).toInt64 &&& 63)), .int (iI n), .ref 549]) rfl ?_
                                    refine T_get xr_170_209 h1197 rfl (v := .ref 531) rfl (pc' := 212) rfl ?_
                                    refine T_p xr_170_212 xn_170 (pc' := 214) (ls' := [(7, .int (iI i)), (6, .int (iI pl)), (5, .int (iI k)), (3, .int (iI len)), (2, .int (iI kz)), (1, .int (iI n)), (0, .ref 530)]) (st' := [.int (iI i), .ref 531, .long ((nn3 n) <<< ((iI 8).toInt64 &&& 63)), .int (iI n), .ref 549]) rfl ?_
                                    have h1198 := (hF1193.1 531 (by omega)).trans ((n1187 531 (by decide)).trans ((n1181 531 (by decide)).trans (h1054)))
                                    refine T_zbald xr_170_214 h1198 (pc' := 215) rfl ?_
                                    have hti := htp i (by omega) (by omega)
                                    have hai : X_at tb len i = tb i % 256 := X_at_in (by omega)
                                    have hci : 33 ≤ X_at tb len i ∧ X_at tb len i ≤ 126 := by
                                      by_cases hik : i = k
                                      · rw [hik]; omega
                                      · have hu := hscz i (by omega) (by omega)
                                        unfold X_ct at hu; omega
                                    refine T_ie (y := iI (X_at tb len i)) (by congr 1; omega) ?_
                                    refine T_p xr_170_215 xn_170 (pc' := 216) (ls' := [(7, .int (iI i)), (6, .int (iI pl)), (5, .int (iI k)), (3, .int (iI len)), (2, .int (iI kz)), (1, .int (iI n)), (0, .ref 530)]) (st' := [.long ((iI (X_at tb len i)).toInt64), .long ((nn3 n) <<< ((iI 8).toInt64 &&& 63)), .int (iI n), .ref 549]) rfl ?_
                                    refine T_p xr_170_216 xn_170 (pc' := 217) (ls' := [(7, .int (iI i)), (6, .int (iI pl)), (5, .int (iI k)), (3, .int (iI len)), (2, .int (iI kz)), (1, .int (iI n)), (0, .ref 530)]) (st' := [.long (((nn3 n) <<< ((iI 8).toInt64 &&& 63)) ||| ((iI (X_at tb len i)).toInt64)), .int (iI n), .ref 549]) rfl ?_
                                    refine T_zlast xr_170_217 hnn3 (pc' := 218) rfl (fun S1199 h1200 n1201 e1202 => ?_)
                                    refine T_p xr_170_218 xn_170 (pc' := 220) (ls' := [(7, .int (iI i)), (6, .int (iI pl)), (5, .int (iI k)), (3, .int (iI len)), (2, .int (iI kz)), (1, .int (iI n)), (0, .ref 530)]) (st' := [.int (iI pl)]) rfl ?_
                                    refine T_zif_eq xr_170_220 (t := 240) (pc' := 223) rfl rfl (fun c1203 => ?_) (fun c1203 => ?_)
                                    · skip
                                      have c1203 : pl = 0 := c1203
                                      refine T_p xr_170_240 xn_170 (pc' := 241) (ls' := [(7, .int (iI i)), (6, .int (iI pl)), (5, .int (iI k)), (3, .int (iI len)), (2, .int (iI kz)), (1, .int (iI n)), (0, .ref 530)]) (st' := [.int (iI 0)]) rfl ?_
                                      refine T_p xr_170_241 xn_170 (pc' := 243) (ls' := [(6, .int (iI 0)), (7, .int (iI i)), (5, .int (iI k)), (3, .int (iI len)), (2, .int (iI kz)), (1, .int (iI n)), (0, .ref 530)]) (st' := []) rfl ?_
                                      refine T_p xr_170_243 xn_170 (pc' := 244) (ls' := [(6, .int (iI 0)), (7, .int (iI i)), (5, .int (iI k)), (3, .int (iI len)), (2, .int (iI kz)), (1, .int (iI n)), (0, .ref 530)]) (st' := [.ref 530]) rfl ?_
                                      have h1204 := (n1201 530 (by decide)).trans (h1197)
                                      refine T_get xr_170_244 h1204 rfl (v := .ref 551) rfl (pc' := 247) rfl ?_
                                      refine T_p xr_170_247 xn_170 (pc' := 248) (ls' := [(6, .int (iI 0)), (7, .int (iI i)), (5, .int (iI k)), (3, .int (iI len)), (2, .int (iI kz)), (1, .int (iI n)), (0, .ref 530)]) (st' := [.int (iI n), .ref 551]) rfl ?_
                                      refine T_p xr_170_248 xn_170 (pc' := 250) (ls' := [(6, .int (iI 0)), (7, .int (iI i)), (5, .int (iI k)), (3, .int (iI len)), (2, .int (iI kz)), (1, .int (iI n)), (0, .ref 530)]) (st' := [.int (iI 0), .int (iI n), .ref 551]) rfl ?_
                                      refine T_zif_eqt xr_170_250 (t := 276) rfl (by decide) ?_
                                      refine T_p xr_170_276 xn_170 (pc' := 277) (ls' := [(6, .int (iI 0)), (7, .int (iI i)), (5, .int (iI k)), (3, .int (iI len)), (2, .int (iI kz)), (1, .int (iI n)), (0, .ref 530)]) (st' := [.int (iI (-1)), .int (iI n), .ref 551]) rfl ?_
                                      have h1205 := (n1201 551 (by decide)).trans (hnu3)
                                      refine T_ziast xr_170_277 h1205 (pc' := 278) rfl (fun S1206 h1207 n1208 e1209 => ?_)
                                      refine T_ziinc xr_170_278 xn_170 (a := i) (z := i + 1) rfl (Nat.le_of_ble_eq_true rfl) (by omega) (ls' := [(7, .int (iI (i + 1))), (6, .int (iI 0)), (5, .int (iI k)), (3, .int (iI len)), (2, .int (iI kz)), (1, .int (iI n)), (0, .ref 530)]) rfl (pc' := 281) rfl ?_
                                      refine T_p xr_170_281 xn_170 (pc' := 188) (ls' := [(7, .int (iI (i + 1))), (6, .int (iI 0)), (5, .int (iI k)), (3, .int (iI len)), (2, .int (iI kz)), (1, .int (iI n)), (0, .ref 530)]) (st' := []) rfl ?_
                                      have h1210 := (n1208 549 (by decide)).trans (h1200)
                                      exact ih1190 S1206 (i + 1) kz 0 (X_ug nn3 n (((nn3 n) <<< ((iI 8).toInt64 &&& 63)) ||| ((iI (X_at tb len i)).toInt64))) (X_ug nu3 n (-1)) h1210 h1207 (hF1193.tr (((X_Fr.rf).tr (X_Fr.of n1201 e1202 (by omega))).tr (X_Fr.of n1208 e1209 (by omega)))) (by omega) (by omega) hscz hez (by rw [X_ug_s, X_pk_s (by omega), ← hnn]; rfl) (by
                                            rw [X_ug_s, X_rv_s (by omega)]
                                            first
                                            | (have hd : X_isD (X_at tb len i) := by assumption
                                               unfold X_isD at hd
                                               (repeat' split) <;> omega)
                                            | (have hd : ¬ X_isD (X_at tb len i) := by assumption
                                               unfold X_isD at hd
                                               (repeat' split) <;> omega)
                                            | ((repeat' split) <;> omega)) (by
                                            rw [X_rv_s (by omega)]
                                            first
                                            | (have hd : X_isD (X_at tb len i) := by assumption
                                               unfold X_isD at hd
                                               (repeat' split) <;> omega)
                                            | (have hd : ¬ X_isD (X_at tb len i) := by assumption
                                               unfold X_isD at hd
                                               (repeat' split) <;> omega)
                                            | ((repeat' split) <;> omega)) (fun v h1 h2 => by rw [X_ug_n _ _ (by omega), X_ug_n _ _ (by omega)]; exact hold v h1 h2) (by omega)
                                    · skip
                                      have c1203 : ¬ (pl = 0) := c1203
                                      refine T_p xr_170_223 xn_170 (pc' := 224) (ls' := [(7, .int (iI i)), (6, .int (iI pl)), (5, .int (iI k)), (3, .int (iI len)), (2, .int (iI kz)), (1, .int (iI n)), (0, .ref 530)]) (st' := [.ref 530]) rfl ?_
                                      have h1211 := (n1201 530 (by decide)).trans (h1197)
                                      refine T_get xr_170_224 h1211 rfl (v := .ref 531) rfl (pc' := 227) rfl ?_
                                      refine T_p xr_170_227 xn_170 (pc' := 229) (ls' := [(7, .int (iI i)), (6, .int (iI pl)), (5, .int (iI k)), (3, .int (iI len)), (2, .int (iI kz)), (1, .int (iI n)), (0, .ref 530)]) (st' := [.int (iI i), .ref 531]) rfl ?_
                                      have h1212 := (n1201 531 (by decide)).trans (h1198)
                                      refine T_zbald xr_170_229 h1212 (pc' := 230) rfl ?_
                                      refine T_ie (y := iI (X_at tb len i)) (by congr 1; omega) ?_
                                      refine T_cs xr_170_230 (by decide) xf_138.1 xn_138 (as := [.int (iI (X_at tb len i))]) (r := []) rfl (Nat.le_of_ble_eq_true rfl) (Nat.le_of_ble_eq_true rfl) (pc' := 233) rfl (ls' := [(0, .int (iI (X_at tb len i)))]) rfl ?_
                                      refine T_p xr_138_0 xn_138 (pc' := 1) (ls' := [(0, .int (iI (X_at tb len i)))]) (st' := [.int (iI (X_at tb len i))]) rfl ?_
                                      refine T_p xr_138_1 xn_138 (pc' := 3) (ls' := [(0, .int (iI (X_at tb len i)))]) (st' := [.int (iI 48), .int (iI (X_at tb len i))]) rfl ?_
                                      refine T_zicmp_lt xr_138_3 (t := 16) (pc' := 6) rfl rfl (fun c1213 => ?_) (fun c1213 => ?_)
                                      · skip
                                        have c1213 : (X_at tb len i) < 48 := c1213
                                        refine T_p xr_138_16 xn_138 (pc' := 17) (ls' := [(0, .int (iI (X_at tb len i)))]) (st' := [.int (iI 0)]) rfl ?_
                                        refine T_iret xr_138_17 xf_138.2.2 (by decide) ?_
                                        show X_T sc 170 (233, [(7, .int (iI i)), (6, .int (iI pl)), (5, .int (iI k)), (3, .int (iI len)), (2, .int (iI kz)), (1, .int (iI n)), (0, .ref 530)], [.int (iI 0)], S1199) _
                                        refine T_zif_eqt xr_170_233 (t := 240) rfl (by decide) ?_
                                        refine T_p xr_170_240 xn_170 (pc' := 241) (ls' := [(7, .int (iI i)), (6, .int (iI pl)), (5, .int (iI k)), (3, .int (iI len)), (2, .int (iI kz)), (1, .int (iI n)), (0, .ref 530)]) (st' := [.int (iI 0)]) rfl ?_
                                        refine T_p xr_170_241 xn_170 (pc' := 243) (ls' := [(6, .int (iI 0)), (7, .int (iI i)), (5, .int (iI k)), (3, .int (iI len)), (2, .int (iI kz)), (1, .int (iI n)), (0, .ref 530)]) (st' := []) rfl ?_
                                        refine T_p xr_170_243 xn_170 (pc' := 244) (ls' := [(6, .int (iI 0)), (7, .int (iI i)), (5, .int (iI k)), (3, .int (iI len)), (2, .int (iI kz)), (1, .int (iI n)), (0, .ref 530)]) (st' := [.ref 530]) rfl ?_
                                        refine T_get xr_170_244 h1211 rfl (v := .ref 551) rfl (pc' := 247) rfl ?_
                                        refine T_p xr_170_247 xn_170 (pc' := 248) (ls' := [(6, .int (iI 0)), (7, .int (iI i)), (5, .int (iI k)), (3, .int (iI len)), (2, .int (iI kz)), (1, .int (iI n)), (0, .ref 530)]) (st' := [.int (iI n), .ref 551]) rfl ?_
                                        refine T_p xr_170_248 xn_170 (pc' := 250) (ls' := [(6, .int (iI 0)), (7, .int (iI i)), (5, .int (iI k)), (3, .int (iI len)), (2, .int (iI kz)), (1, .int (iI n)), (0, .ref 530)]) (st' := [.int (iI 0), .int (iI n), .ref 551]) rfl ?_
                                        refine T_zif_eqt xr_170_250 (t := 276) rfl (by decide) ?_
                                        refine T_p xr_170_276 xn_170 (pc' := 277) (ls' := [(6, .int (iI 0)), (7, .int (iI i)), (5, .int (iI k)), (3, .int (iI len)), (2, .int (iI kz)), (1, .int (iI n)), (0, .ref 530)]) (st' := [.int (iI (-1)), .int (iI n), .ref 551]) rfl ?_
                                        have h1214 := (n1201 551 (by decide)).trans (hnu3)
                                        refine T_ziast xr_170_277 h1214 (pc' := 278) rfl (fun S1215 h1216 n1217 e1218 => ?_)
                                        refine T_ziinc xr_170_278 xn_170 (a := i) (z := i + 1) rfl (Nat.le_of_ble_eq_true rfl) (by omega) (ls' := [(7, .int (iI (i + 1))), (6, .int (iI 0)), (5, .int (iI k)), (3, .int (iI len)), (2, .int (iI kz)), (1, .int (iI n)), (0, .ref 530)]) rfl (pc' := 281) rfl ?_
                                        refine T_p xr_170_281 xn_170 (pc' := 188) (ls' := [(7, .int (iI (i + 1))), (6, .int (iI 0)), (5, .int (iI k)), (3, .int (iI len)), (2, .int (iI kz)), (1, .int (iI n)), (0, .ref 530)]) (st' := []) rfl ?_
                                        have h1219 := (n1217 549 (by decide)).trans (h1200)
                                        exact ih1190 S1215 (i + 1) kz 0 (X_ug nn3 n (((nn3 n) <<< ((iI 8).toInt64 &&& 63)) ||| ((iI (X_at tb len i)).toInt64))) (X_ug nu3 n (-1)) h1219 h1216 (hF1193.tr (((X_Fr.rf).tr (X_Fr.of n1201 e1202 (by omega))).tr (X_Fr.of n1217 e1218 (by omega)))) (by omega) (by omega) hscz hez (by rw [X_ug_s, X_pk_s (by omega), ← hnn]; rfl) (by
                                              rw [X_ug_s, X_rv_s (by omega)]
                                              first
                                              | (have hd : X_isD (X_at tb len i) := by assumption
                                                 unfold X_isD at hd
                                                 (repeat' split) <;> omega)
                                              | (have hd : ¬ X_isD (X_at tb len i) := by assumption
                                                 unfold X_isD at hd
                                                 (repeat' split) <;> omega)
                                              | ((repeat' split) <;> omega)) (by
                                              rw [X_rv_s (by omega)]
                                              first
                                              | (have hd : X_isD (X_at tb len i) := by assumption
                                                 unfold X_isD at hd
                                                 (repeat' split) <;> omega)
                                              | (have hd : ¬ X_isD (X_at tb len i) := by assumption
                                                 unfold X_isD at hd
                                                 (repeat' split) <;> omega)
                                              | ((repeat' split) <;> omega)) (fun v h1 h2 => by rw [X_ug_n _ _ (by omega), X_ug_n _ _ (by omega)]; exact hold v h1 h2) (by omega)
                                      · skip
                                        have c1213 : ¬ ((X_at tb len i) < 48) := c1213
                                        refine T_p xr_138_6 xn_138 (pc' := 7) (ls' := [(0, .int (iI (X_at tb len i)))]) (st' := [.int (iI (X_at tb len i))]) rfl ?_
                                        refine T_p xr_138_7 xn_138 (pc' := 9) (ls' := [(0, .int (iI (X_at tb len i)))]) (st' := [.int (iI 57), .int (iI (X_at tb len i))]) rfl ?_
                                        refine T_zicmp_gt xr_138_9 (t := 16) (pc' := 12) rfl rfl (fun c1220 => ?_) (fun c1220 => ?_)
                                        · skip
                                          have c1220 : 57 < (X_at tb len i) := c1220
                                          refine T_p xr_138_16 xn_138 (pc' := 17) (ls' := [(0, .int (iI (X_at tb len i)))]) (st' := [.int (iI 0)]) rfl ?_
                                          refine T_iret xr_138_17 xf_138.2.2 (by decide) ?_
                                          show X_T sc 170 (233, [(7, .int (iI i)), (6, .int (iI pl)), (5, .int (iI k)), (3, .int (iI len)), (2, .int (iI kz)), (1, .int (iI n)), (0, .ref 530)], [.int (iI 0)], S1199) _
                                          refine T_zif_eqt xr_170_233 (t := 240) rfl (by decide) ?_
                                          refine T_p xr_170_240 xn_170 (pc' := 241) (ls' := [(7, .int (iI i)), (6, .int (iI pl)), (5, .int (iI k)), (3, .int (iI len)), (2, .int (iI kz)), (1, .int (iI n)), (0, .ref 530)]) (st' := [.int (iI 0)]) rfl ?_
                                          refine T_p xr_170_241 xn_170 (pc' := 243) (ls' := [(6, .int (iI 0)), (7, .int (iI i)), (5, .int (iI k)), (3, .int (iI len)), (2, .int (iI kz)), (1, .int (iI n)), (0, .ref 530)]) (st' := []) rfl ?_
                                          refine T_p xr_170_243 xn_170 (pc' := 244) (ls' := [(6, .int (iI 0)), (7, .int (iI i)), (5, .int (iI k)), (3, .int (iI len)), (2, .int (iI kz)), (1, .int (iI n)), (0, .ref 530)]) (st' := [.ref 530]) rfl ?_
                                          refine T_get xr_170_244 h1211 rfl (v := .ref 551) rfl (pc' := 247) rfl ?_
                                          refine T_p xr_170_247 xn_170 (pc' := 248) (ls' := [(6, .int (iI 0)), (7, .int (iI i)), (5, .int (iI k)), (3, .int (iI len)), (2, .int (iI kz)), (1, .int (iI n)), (0, .ref 530)]) (st' := [.int (iI n), .ref 551]) rfl ?_
                                          refine T_p xr_170_248 xn_170 (pc' := 250) (ls' := [(6, .int (iI 0)), (7, .int (iI i)), (5, .int (iI k)), (3, .int (iI len)), (2, .int (iI kz)), (1, .int (iI n)), (0, .ref 530)]) (st' := [.int (iI 0), .int (iI n), .ref 551]) rfl ?_
                                          refine T_zif_eqt xr_170_250 (t := 276) rfl (by decide) ?_
                                          refine T_p xr_170_276 xn_170 (pc' := 277) (ls' := [(6, .int (iI 0)), (7, .int (iI i)), (5, .int (iI k)), (3, .int (iI len)), (2, .int (iI kz)), (1, .int (iI n)), (0, .ref 530)]) (st' := [.int (iI (-1)), .int (iI n), .ref 551]) rfl ?_
                                          have h1221 := (n1201 551 (by decide)).trans (hnu3)
                                          refine T_ziast xr_170_277 h1221 (pc' := 278) rfl (fun S1222 h1223 n1224 e1225 => ?_)
                                          refine T_ziinc xr_170_278 xn_170 (a := i) (z := i + 1) rfl (Nat.le_of_ble_eq_true rfl) (by omega) (ls' := [(7, .int (iI (i + 1))), (6, .int (iI 0)), (5, .int (iI k)), (3, .int (iI len)), (2, .int (iI kz)), (1, .int (iI n)), (0, .ref 530)]) rfl (pc' := 281) rfl ?_
                                          refine T_p xr_170_281 xn_170 (pc' := 188) (ls' := [(7, .int (iI (i + 1))), (6, .int (iI 0)), (5, .int (iI k)), (3, .int (iI len)), (2, .int (iI kz)), (1, .int (iI n)), (0, .ref 530)]) (st' := []) rfl ?_
                                          have h1226 := (n1224 549 (by decide)).trans (h1200)
                                          exact ih1190 S1222 (i + 1) kz 0 (X_ug nn3 n (((nn3 n) <<< ((iI 8).toInt64 &&& 63)) ||| ((iI (X_at tb len i)).toInt64))) (X_ug nu3 n (-1)) h1226 h1223 (hF1193.tr (((X_Fr.rf).tr (X_Fr.of n1201 e1202 (by omega))).tr (X_Fr.of n1224 e1225 (by omega)))) (by omega) (by omega) hscz hez (by rw [X_ug_s, X_pk_s (by omega), ← hnn]; rfl) (by
                                                rw [X_ug_s, X_rv_s (by omega)]
                                                first
                                                | (have hd : X_isD (X_at tb len i) := by assumption
                                                   unfold X_isD at hd
                                                   (repeat' split) <;> omega)
                                                | (have hd : ¬ X_isD (X_at tb len i) := by assumption
                                                   unfold X_isD at hd
                                                   (repeat' split) <;> omega)
                                                | ((repeat' split) <;> omega)) (by
                                                rw [X_rv_s (by omega)]
                                                first
                                                | (have hd : X_isD (X_at tb len i) := by assumption
                                                   unfold X_isD at hd
                                                   (repeat' split) <;> omega)
                                                | (have hd : ¬ X_isD (X_at tb len i) := by assumption
                                                   unfold X_isD at hd
                                                   (repeat' split) <;> omega)
                                                | ((repeat' split) <;> omega)) (fun v h1 h2 => by rw [X_ug_n _ _ (by omega), X_ug_n _ _ (by omega)]; exact hold v h1 h2) (by omega)
                                        · skip
                                          have c1220 : ¬ (57 < (X_at tb len i)) := c1220
                                          refine T_p xr_138_12 xn_138 (pc' := 13) (ls' := [(0, .int (iI (X_at tb len i)))]) (st' := [.int (iI 1)]) rfl ?_
                                          refine T_p xr_138_13 xn_138 (pc' := 17) (ls' := [(0, .int (iI (X_at tb len i)))]) (st' := [.int (iI 1)]) rfl ?_
                                          refine T_iret xr_138_17 xf_138.2.2 (by decide) ?_
                                          show X_T sc 170 (233, [(7, .int (iI i)), (6, .int (iI pl)), (5, .int (iI k)), (3, .int (iI len)), (2, .int (iI kz)), (1, .int (iI n)), (0, .ref 530)], [.int (iI 1)], S1199) _
                                          refine T_zif_eqf xr_170_233 (t := 240) (pc' := 236) rfl rfl (by decide) ?_
                                          refine T_p xr_170_236 xn_170 (pc' := 237) (ls' := [(7, .int (iI i)), (6, .int (iI pl)), (5, .int (iI k)), (3, .int (iI len)), (2, .int (iI kz)), (1, .int (iI n)), (0, .ref 530)]) (st' := [.int (iI 1)]) rfl ?_
                                          refine T_p xr_170_237 xn_170 (pc' := 241) (ls' := [(7, .int (iI i)), (6, .int (iI pl)), (5, .int (iI k)), (3, .int (iI len)), (2, .int (iI kz)), (1, .int (iI n)), (0, .ref 530)]) (st' := [.int (iI 1)]) rfl ?_
                                          refine T_p xr_170_241 xn_170 (pc' := 243) (ls' := [(6, .int (iI 1)), (7, .int (iI i)), (5, .int (iI k)), (3, .int (iI len)), (2, .int (iI kz)), (1, .int (iI n)), (0, .ref 530)]) (st' := []) rfl ?_
                                          refine T_p xr_170_243 xn_170 (pc' := 244) (ls' := [(6, .int (iI 1)), (7, .int (iI i)), (5, .int (iI k)), (3, .int (iI len)), (2, .int (iI kz)), (1, .int (iI n)), (0, .ref 530)]) (st' := [.ref 530]) rfl ?_
                                          refine T_get xr_170_244 h1211 rfl (v := .ref 551) rfl (pc' := 247) rfl ?_
                                          refine T_p xr_170_247 xn_170 (pc' := 248) (ls' := [(6, .int (iI 1)), (7, .int (iI i)), (5, .int (iI k)), (3, .int (iI len)), (2, .int (iI kz)), (1, .int (iI n)), (0, .ref 530)]) (st' := [.int (iI n), .ref 551]) rfl ?_
                                          refine T_p xr_170_248 xn_170 (pc' := 250) (ls' := [(6, .int (iI 1)), (7, .int (iI i)), (5, .int (iI k)), (3, .int (iI len)), (2, .int (iI kz)), (1, .int (iI n)), (0, .ref 530)]) (st' := [.int (iI 1), .int (iI n), .ref 551]) rfl ?_
                                          refine T_zif_eqf xr_170_250 (t := 276) (pc' := 253) rfl rfl (by decide) ?_
                                          refine T_p xr_170_253 xn_170 (pc' := 255) (ls' := [(6, .int (iI 1)), (7, .int (iI i)), (5, .int (iI k)), (3, .int (iI len)), (2, .int (iI kz)), (1, .int (iI n)), (0, .ref 530)]) (st' := [.int (iI 10), .int (iI n), .ref 551]) rfl ?_
                                          refine T_p xr_170_255 xn_170 (pc' := 256) (ls' := [(6, .int (iI 1)), (7, .int (iI i)), (5, .int (iI k)), (3, .int (iI len)), (2, .int (iI kz)), (1, .int (iI n)), (0, .ref 530)]) (st' := [.ref 530, .int (iI 10), .int (iI n), .ref 551]) rfl ?_
                                          refine T_get xr_170_256 h1211 rfl (v := .ref 551) rfl (pc' := 259) rfl ?_
                                          refine T_p xr_170_259 xn_170 (pc' := 260) (ls' := [(6, .int (iI 1)), (7, .int (iI i)), (5, .int (iI k)), (3, .int (iI len)), (2, .int (iI kz)), (1, .int (iI n)), (0, .ref 530)]) (st' := [.int (iI n), .ref 551, .int (iI 10), .int (iI n), .ref 551]) rfl ?_
                                          have h1227 := (n1201 551 (by decide)).trans (hnu3)
                                          refine T_ziald xr_170_260 h1227 (pc' := 261) rfl ?_
                                          refine T_zimul xr_170_261 (z := 10 * (nu3 n)) rfl (pc' := 262) rfl ?_
                                          refine T_p xr_170_262 xn_170 (pc' := 263) (ls' := [(6, .int (iI 1)), (7, .int (iI i)), (5, .int (iI k)), (3, .int (iI len)), (2, .int (iI kz)), (1, .int (iI n)), (0, .ref 530)]) (st' := [.ref 530, .int (iI (10 * (nu3 n))), .int (iI n), .ref 551]) rfl ?_
                                          refine T_get xr_170_263 h1211 rfl (v := .ref 531) rfl (pc' := 266) rfl ?_
                                          refine T_p xr_170_266 xn_170 (pc' := 268) (ls' := [(6, .int (iI 1)), (7, .int (iI i)), (5, .int (iI k)), (3, .int (iI len)), (2, .int (iI kz)), (1, .int (iI n)), (0, .ref 530)]) (st' := [.int (iI i), .ref 531, .int (iI (10 * (nu3 n))), .int (iI n), .ref 551]) rfl ?_
                                          refine T_zbald xr_170_268 h1212 (pc' := 269) rfl ?_
                                          refine T_ie (y := iI (X_at tb len i)) (by congr 1; omega) ?_
                                          refine T_ziadd xr_170_269 (z := (10 * (nu3 n)) + (X_at tb len i)) rfl (pc' := 270) rfl ?_
                                          refine T_p xr_170_270 xn_170 (pc' := 272) (ls' := [(6, .int (iI 1)), (7, .int (iI i)), (5, .int (iI k)), (3, .int (iI len)), (2, .int (iI kz)), (1, .int (iI n)), (0, .ref 530)]) (st' := [.int (iI 48), .int (iI ((10 * (nu3 n)) + (X_at tb len i))), .int (iI n), .ref 551]) rfl ?_
                                          refine T_zisub xr_170_272 (z := ((10 * (nu3 n)) + (X_at tb len i)) - 48) rfl (pc' := 273) rfl ?_
                                          refine T_p xr_170_273 xn_170 (pc' := 277) (ls' := [(6, .int (iI 1)), (7, .int (iI i)), (5, .int (iI k)), (3, .int (iI len)), (2, .int (iI kz)), (1, .int (iI n)), (0, .ref 530)]) (st' := [.int (iI (((10 * (nu3 n)) + (X_at tb len i)) - 48)), .int (iI n), .ref 551]) rfl ?_
                                          refine T_ziast xr_170_277 h1227 (pc' := 278) rfl (fun S1228 h1229 n1230 e1231 => ?_)
                                          refine T_ziinc xr_170_278 xn_170 (a := i) (z := i + 1) rfl (Nat.le_of_ble_eq_true rfl) (by omega) (ls' := [(7, .int (iI (i + 1))), (6, .int (iI 1)), (5, .int (iI k)), (3, .int (iI len)), (2, .int (iI kz)), (1, .int (iI n)), (0, .ref 530)]) rfl (pc' := 281) rfl ?_
                                          refine T_p xr_170_281 xn_170 (pc' := 188) (ls' := [(7, .int (iI (i + 1))), (6, .int (iI 1)), (5, .int (iI k)), (3, .int (iI len)), (2, .int (iI kz)), (1, .int (iI n)), (0, .ref 530)]) (st' := []) rfl ?_
                                          have h1232 := (n1230 549 (by decide)).trans (h1200)
                                          exact ih1190 S1228 (i + 1) kz 1 (X_ug nn3 n (((nn3 n) <<< ((iI 8).toInt64 &&& 63)) ||| ((iI (X_at tb len i)).toInt64))) (X_ug nu3 n (((10 * (nu3 n)) + (X_at tb len i)) - 48)) h1232 h1229 (hF1193.tr (((X_Fr.rf).tr (X_Fr.of n1201 e1202 (by omega))).tr (X_Fr.of n1230 e1231 (by omega)))) (by omega) (by omega) hscz hez (by rw [X_ug_s, X_pk_s (by omega), ← hnn]; rfl) (by
                                                rw [X_ug_s, X_rv_s (by omega)]
                                                first
                                                | (have hd : X_isD (X_at tb len i) := by assumption
                                                   unfold X_isD at hd
                                                   (repeat' split) <;> omega)
                                                | (have hd : ¬ X_isD (X_at tb len i) := by assumption
                                                   unfold X_isD at hd
                                                   (repeat' split) <;> omega)
                                                | ((repeat' split) <;> omega)) (by
                                                rw [X_rv_s (by omega)]
                                                first
                                                | (have hd : X_isD (X_at tb len i) := by assumption
                                                   unfold X_isD at hd
                                                   (repeat' split) <;> omega)
                                                | (have hd : ¬ X_isD (X_at tb len i) := by assumption
                                                   unfold X_isD at hd
                                                   (repeat' split) <;> omega)
                                                | ((repeat' split) <;> omega)) (fun v h1 h2 => by rw [X_ug_n _ _ (by omega), X_ug_n _ _ (by omega)]; exact hold v h1 h2) (by omega)
                              refine T_sub (ls := [(7, .int (iI k)), (6, .int (iI 1)), (5, .int (iI k)), (3, .int (iI len)), (2, .int (iI k2)), (1, .int (iI n)), (0, .ref 530)]) ⟨rfl, rfl, rfl, rfl, rfl, rfl, rfl, trivial⟩ rfl rfl ?_
                              exact L1189 (len + 1).toNat S1185 k k2 1 (X_ug nna n (iL 0)) (X_ug nua n 0) h1194 h1186 ((X_Fr.rf)) (by omega) (by omega) (fun q h1 h2 => by first | exact hscan q h1 h2 | exact absurd h2 (by omega)) ⟨fun h1 h2 => by unfold X_ct at *; omega, fun h1 => by unfold X_ct at h1; omega⟩ (by rw [X_ug_s, show (k - k).toNat = 0 by omega]; rfl) (by rw [X_ug_s, show (k - k).toNat = 0 by omega]; rfl) (Or.inl ⟨rfl, by rw [show (k - k).toNat = 0 by omega]; exact (show ¬ (0 : Int) = -1 by omega)⟩) (fun v h1 h2 => by rw [X_ug_n _ _ (by omega), X_ug_n _ _ (by omega)]; exact hX3 v h1 h2) (by omega)
                            · skip
                              have c1178 : ¬ ((k2 - k) ≤ 8) := c1178
                              have hnone : X_sn tb len len.toNat = none := by
                                first
                                | (exfalso; omega)
                                | (have hck : X_ct (X_at tb len k) := by unfold X_ct; omega
                                   refine X_sn_9 (f := k) (by omega) hX1 (by omega) hck ?_ (fun q h1 h2 => hscan q h1 (by omega)) (by omega)
                                   by_cases hz : 0 < z
                                   · exact absurd hck (hX2 hz (by omega))
                                   · omega)
                              refine T_p xr_170_165 xn_170 (pc' := 166) (ls' := [(5, .int (iI k)), (4, .int (iI (X_at tb len k))), (3, .int (iI len)), (2, .int (iI k2)), (1, .int (iI n)), (0, .ref 530)]) (st' := [.int (iI (-1))]) rfl ?_
                              refine T_iret xr_170_166 xf_170.2.2 rfl ?_
                              refine hQ _ _ ?_
                              exact Or.inl ⟨nna, nua, rfl, hnone, h1053, hnna, hnua, ((X_Fr.rf).tr (X_Fr.of n968 e969 (by omega))).tr (X_Fr.mono ⟨hF974.1, hF974.2⟩ (fun q hq => (by omega)))⟩
                          · skip
                            have c1177 : ¬ (len ≤ k2) := c1177
                            refine T_p xr_170_98 xn_170 (pc' := 99) (ls' := [(5, .int (iI k)), (4, .int (iI (X_at tb len k))), (3, .int (iI len)), (2, .int (iI k2)), (1, .int (iI n)), (0, .ref 530)]) (st' := [.ref 530]) rfl ?_
                            refine T_get xr_170_99 h1053 rfl (v := .ref 531) rfl (pc' := 102) rfl ?_
                            refine T_p xr_170_102 xn_170 (pc' := 103) (ls' := [(5, .int (iI k)), (4, .int (iI (X_at tb len k))), (3, .int (iI len)), (2, .int (iI k2)), (1, .int (iI n)), (0, .ref 530)]) (st' := [.int (iI k2), .ref 531]) rfl ?_
                            refine T_zbald xr_170_103 h1054 (pc' := 104) rfl ?_
                            refine T_p xr_170_104 xn_170 (pc' := 107) (ls' := [(5, .int (iI k)), (4, .int (iI (X_at tb len k))), (3, .int (iI len)), (2, .int (iI k2)), (1, .int (iI n)), (0, .ref 530)]) (st' := [.int (iI 255), .int (iI (tp k2))]) rfl ?_
                            refine T_zop xr_170_107 (pc' := 108) rfl (z := (tp k2) % 256) (iI_m255 _) ?_
                            have ht2 := htp k2 (by omega) (by omega)
                            have ha2 : X_at tb len k2 = tb k2 % 256 := X_at_in (by omega)
                            refine T_ie (y := iI (X_at tb len k2)) (by rw [ha2, ht2.1]) ?_
                            refine T_p xr_170_108 xn_170 (pc' := 110) (ls' := [(5, .int (iI k)), (4, .int (iI (X_at tb len k))), (3, .int (iI len)), (2, .int (iI k2)), (1, .int (iI n)), (0, .ref 530)]) (st' := [.int (iI 33), .int (iI (X_at tb len k2))]) rfl ?_
                            refine T_zicmp_lt xr_170_110 (t := 156) (pc' := 113) rfl rfl (fun c1233 => ?_) (fun c1233 => ?_)
                            · skip
                              have c1233 : (X_at tb len k2) < 33 := c1233
                              refine T_p xr_170_156 xn_170 (pc' := 157) (ls' := [(5, .int (iI k)), (4, .int (iI (X_at tb len k))), (3, .int (iI len)), (2, .int (iI k2)), (1, .int (iI n)), (0, .ref 530)]) (st' := [.int (iI k2)]) rfl ?_
                              refine T_p xr_170_157 xn_170 (pc' := 159) (ls' := [(5, .int (iI k)), (4, .int (iI (X_at tb len k))), (3, .int (iI len)), (2, .int (iI k2)), (1, .int (iI n)), (0, .ref 530)]) (st' := [.int (iI k), .int (iI k2)]) rfl ?_
                              refine T_zisub xr_170_159 (z := k2 - k) rfl (pc' := 160) rfl ?_
                              refine T_p xr_170_160 xn_170 (pc' := 162) (ls' := [(5, .int (iI k)), (4, .int (iI (X_at tb len k))), (3, .int (iI len)), (2, .int (iI k2)), (1, .int (iI n)), (0, .ref 530)]) (st' := [.int (iI 8), .int (iI (k2 - k))]) rfl ?_
                              refine T_zicmp_le xr_170_162 (t := 167) (pc' := 165) rfl rfl (fun c1234 => ?_) (fun c1234 => ?_)
                              · skip
                                have c1234 : (k2 - k) ≤ 8 := c1234
                                refine T_p xr_170_167 xn_170 (pc' := 168) (ls' := [(5, .int (iI k)), (4, .int (iI (X_at tb len k))), (3, .int (iI len)), (2, .int (iI k2)), (1, .int (iI n)), (0, .ref 530)]) (st' := [.ref 530]) rfl ?_
                                refine T_get xr_170_168 h1053 rfl (v := .ref 549) rfl (pc' := 171) rfl ?_
                                refine T_p xr_170_171 xn_170 (pc' := 172) (ls' := [(5, .int (iI k)), (4, .int (iI (X_at tb len k))), (3, .int (iI len)), (2, .int (iI k2)), (1, .int (iI n)), (0, .ref 530)]) (st' := [.int (iI n), .ref 549]) rfl ?_
                                refine T_p xr_170_172 xn_170 (pc' := 173) (ls' := [(5, .int (iI k)), (4, .int (iI (X_at tb len k))), (3, .int (iI len)), (2, .int (iI k2)), (1, .int (iI n)), (0, .ref 530)]) (st' := [.long (iL 0), .int (iI n), .ref 549]) rfl ?_
                                refine T_zlast xr_170_173 hnna (pc' := 174) rfl (fun S1235 h1236 n1237 e1238 => ?_)
                                refine T_p xr_170_174 xn_170 (pc' := 175) (ls' := [(5, .int (iI k)), (4, .int (iI (X_at tb len k))), (3, .int (iI len)), (2, .int (iI k2)), (1, .int (iI n)), (0, .ref 530)]) (st' := [.ref 530]) rfl ?_
                                have h1239 := (n1237 530 (by decide)).trans (h1053)
                                refine T_get xr_170_175 h1239 rfl (v := .ref 551) rfl (pc' := 178) rfl ?_
                                refine T_p xr_170_178 xn_170 (pc' := 179) (ls' := [(5, .int (iI k)), (4, .int (iI (X_at tb len k))), (3, .int (iI len)), (2, .int (iI k2)), (1, .int (iI n)), (0, .ref 530)]) (st' := [.int (iI n), .ref 551]) rfl ?_
                                refine T_p xr_170_179 xn_170 (pc' := 180) (ls' := [(5, .int (iI k)), (4, .int (iI (X_at tb len k))), (3, .int (iI len)), (2, .int (iI k2)), (1, .int (iI n)), (0, .ref 530)]) (st' := [.int (iI 0), .int (iI n), .ref 551]) rfl ?_
                                have h1240 := (n1237 551 (by decide)).trans (hnua)
                                refine T_ziast xr_170_180 h1240 (pc' := 181) rfl (fun S1241 h1242 n1243 e1244 => ?_)
                                refine T_p xr_170_181 xn_170 (pc' := 182) (ls' := [(5, .int (iI k)), (4, .int (iI (X_at tb len k))), (3, .int (iI len)), (2, .int (iI k2)), (1, .int (iI n)), (0, .ref 530)]) (st' := [.int (iI 1)]) rfl ?_
                                refine T_p xr_170_182 xn_170 (pc' := 184) (ls' := [(6, .int (iI 1)), (5, .int (iI k)), (4, .int (iI (X_at tb len k))), (3, .int (iI len)), (2, .int (iI k2)), (1, .int (iI n)), (0, .ref 530)]) (st' := []) rfl ?_
                                refine T_p xr_170_184 xn_170 (pc' := 186) (ls' := [(6, .int (iI 1)), (5, .int (iI k)), (4, .int (iI (X_at tb len k))), (3, .int (iI len)), (2, .int (iI k2)), (1, .int (iI n)), (0, .ref 530)]) (st' := [.int (iI k)]) rfl ?_
                                refine T_p xr_170_186 xn_170 (pc' := 188) (ls' := [(7, .int (iI k)), (6, .int (iI 1)), (5, .int (iI k)), (4, .int (iI (X_at tb len k))), (3, .int (iI len)), (2, .int (iI k2)), (1, .int (iI n)), (0, .ref 530)]) (st' := []) rfl ?_
                                have h1250 := (n1243 549 (by decide)).trans (h1236)
                                have L1245 : ∀ (m1247 : Nat) (S1251 : X_S) (i : Int) (kz : Int) (pl : Int) (nn3 : Int → Int64) (nu3 : Int → Int) (hnn3 : S1251.1 549 = .inl (.long, 30, .inr (.inl fun k : Nat => nn3 (k : Int)))) (hnu3 : S1251.1 551 = .inl (.int, 30, .inl fun k : Nat => iI (nu3 (k : Int)))) (hF1249 : X_Fr (fun q => q = 549 ∨ q = 551) S1241 S1251) (hi : k ≤ i ∧ i ≤ kz ∧ kz - k ≤ 8) (hkz : k + 1 ≤ kz ∧ kz ≤ len) (hscz : ∀ q, k < q → q < kz → X_ct (X_at tb len q)) (hez : (X_ct (X_at tb len k) → kz < len → ¬ X_ct (X_at tb len kz)) ∧ (¬ X_ct (X_at tb len k) → kz = k + 1)) (hnn : nn3 n = X_pk tb len k (i - k).toNat) (hnu : nu3 n = X_rv tb len k (i - k).toNat) (hpl : (pl = 1 ∧ ¬ X_rv tb len k (i - k).toNat = -1) ∨ (pl = 0 ∧ X_rv tb len k (i - k).toNat = -1)) (hold : ∀ v, 0 ≤ v → v < n → nn3 v = t v ∧ nu3 v = X_nv (t v)) (hm1248 : len - i < m1247), X_T sc 170 (188, [(7, .int (iI i)), (6, .int (iI pl)), (5, .int (iI k)), (3, .int (iI len)), (2, .int (iI kz)), (1, .int (iI n)), (0, .ref 530)], [], S1251) Q := by
                                  intro m1247
                                  induction m1247 with
                                  | zero =>
                                    intro S1251 i kz pl nn3 nu3 hnn3 hnu3 hF1249 hi hkz hscz hez hnn hnu hpl hold hm1248
                                    exact (show False by omega).elim
                                  | succ m1247 ih1246 =>
                                    intro S1251 i kz pl nn3 nu3 hnn3 hnu3 hF1249 hi hkz hscz hez hnn hnu hpl hold hm1248
                                    have hrr := X_rv_r (tb := tb) (len := len) (p := k) (i - k).toNat (fun u g1 g2 => by have := X_at_in (tb := tb) (len := len) (p := k + u) (by omega); omega)
                                    have h10 : (10 : Nat) ^ (i - k).toNat ≤ 10 ^ 8 := Nat.pow_le_pow_right (by omega) (by omega)
                                    have h108 : (10 : Nat) ^ 8 = 100000000 := by decide
                                    refine T_p xr_170_188 xn_170 (pc' := 190) (ls' := [(7, .int (iI i)), (6, .int (iI pl)), (5, .int (iI k)), (3, .int (iI len)), (2, .int (iI kz)), (1, .int (iI n)), (0, .ref 530)]) (st' := [.int (iI i)]) rfl ?_
                                    refine T_p xr_170_190 xn_170 (pc' := 191) (ls' := [(7, .int (iI i)), (6, .int (iI pl)), (5, .int (iI k)), (3, .int (iI len)), (2, .int (iI kz)), (1, .int (iI n)), (0, .ref 530)]) (st' := [.int (iI kz), .int (iI i)]) rfl ?_
                                    refine T_zicmp_ge xr_170_191 (t := 284) (pc' := 194) rfl rfl (fun c1252 => ?_) (fun c1252 => ?_)
                                    · skip
                                      have c1252 : kz ≤ i := c1252
                                      have hpn : ∃ T z', X_sn tb len kz.toNat = some (n + 1, z', T) ∧ 0 ≤ z' ∧ (0 < z' → kz < len → ¬ X_ct (X_at tb len kz)) ∧ T n = X_pk tb len k (kz - k).toNat ∧ ∀ i, ¬ i = n → T i = t i := by
                                        by_cases hck : X_ct (X_at tb len k)
                                        · have hz0 : z = 0 := by
                                            by_cases hz : 0 < z
                                            · exact absurd hck (hX2 hz (by omega))
                                            · omega
                                          obtain ⟨T, a1, a2, a3⟩ := X_sn_m (by omega) hX1 (by omega) hck hz0 (kz - k).toNat (by omega) (by omega) (fun q h1 h2 => hscz q h1 (by omega))
                                          rw [show k + (((kz - k).toNat : Nat) : Int) = kz by omega] at a1
                                          exact ⟨T, _, a1, by omega, fun _ h1 => hez.1 hck h1, a2, a3⟩
                                        · have a1 := X_sn_f (by omega) hX1 (by omega) ⟨by unfold X_isBl; omega, by omega⟩ (fun _ => hck)
                                          have hbr : X_at tb len k = 40 ∨ X_at tb len k = 41 := by unfold X_ct at hck; omega
                                          have hkz := hez.2 hck
                                          rw [if_pos hbr] at a1
                                          rw [hkz]
                                          exact ⟨_, 0, a1, by omega, fun y => absurd y (by omega), by rw [X_ug_s, show (k + 1 - k).toNat = 1 by omega], fun i hi => X_ug_n _ _ hi⟩
                                      obtain ⟨T, z', b1, b2, b3, b4, b5⟩ := hpn
                                      have hnvk : X_nv (X_pk tb len k (kz - k).toNat) = X_rv tb len k (kz - k).toNat := X_nv_pk _ (by omega) (fun u h1 h2 => by
                                        have h3 := X_at_in (tb := tb) (len := len) (p := k + u) (by omega)
                                        by_cases hu : u = 0
                                        · subst hu; rw [show k + 0 = k by omega]; omega
                                        · have := hscz (k + u) (by omega) (by omega)
                                          unfold X_ct at this; omega)
                                      have hie : i = kz := by omega
                                      have hnew : ∃ z t, X_sn tb len kz.toNat = some (n + 1, z, t) ∧ 0 ≤ z ∧ (0 < z → kz < len → ¬ X_ct (X_at tb len kz)) ∧ ∀ v, 0 ≤ v → v < n + 1 → nn3 v = t v ∧ nu3 v = X_nv (t v) := ⟨z', T, b1, b2, b3, fun v h1 h2 => by
                                        by_cases hv : v = n
                                        · rw [hv, b4, hnvk, ← hie]; exact ⟨hnn, hnu⟩
                                        · rw [b5 v hv]; exact hold v h1 (by omega)⟩
                                      refine T_ziinc xr_170_284 xn_170 (a := n) (z := n + 1) rfl (Nat.le_of_ble_eq_true rfl) (by omega) (ls' := [(1, .int (iI (n + 1))), (7, .int (iI i)), (6, .int (iI pl)), (5, .int (iI k)), (3, .int (iI len)), (2, .int (iI kz)), (0, .ref 530)]) rfl (pc' := 287) rfl ?_
                                      refine T_p xr_170_287 xn_170 (pc' := 14) (ls' := [(1, .int (iI (n + 1))), (7, .int (iI i)), (6, .int (iI pl)), (5, .int (iI k)), (3, .int (iI len)), (2, .int (iI kz)), (0, .ref 530)]) (st' := []) rfl ?_
                                      refine T_sub (ls := [(3, .int (iI len)), (2, .int (iI kz)), (1, .int (iI (n + 1))), (0, .ref 530)]) ⟨rfl, rfl, rfl, rfl, trivial⟩ rfl rfl ?_
                                      exact ih971 S1251 (n + 1) kz nn3 nu3 hnn3 hnu3 (hF974.tr ((((X_Fr.rf).tr (X_Fr.of n1237 e1238 (by omega))).tr (X_Fr.of n1243 e1244 (by omega))).tr (X_Fr.mono ⟨hF1249.1, hF1249.2⟩ (fun q hq => (by omega))))) (by omega) (by omega) hnew (by omega)
                                    · skip
                                      have c1252 : ¬ (kz ≤ i) := c1252
                                      refine T_p xr_170_194 xn_170 (pc' := 195) (ls' := [(7, .int (iI i)), (6, .int (iI pl)), (5, .int (iI k)), (3, .int (iI len)), (2, .int (iI kz)), (1, .int (iI n)), (0, .ref 530)]) (st' := [.ref 530]) rfl ?_
                                      have h1253 := (hF1249.1 530 (by omega)).trans ((n1243 530 (by decide)).trans (h1239))
                                      refine T_get xr_170_195 h1253 rfl (v := .ref 549) rfl (pc' := 198) rfl ?_
                                      refine T_p xr_170_198 xn_170 (pc' := 199) (ls' := [(7, .int (iI i)), (6, .int (iI pl)), (5, .int (iI k)), (3, .int (iI len)), (2, .int (iI kz)), (1, .int (iI n)), (0, .ref 530)]) (st' := [.int (iI n), .ref 549]) rfl ?_
                                      refine T_p xr_170_199 xn_170 (pc' := 200) (ls' := [(7, .int (iI i)), (6, .int (iI pl)), (5, .int (iI k)), (3, .int (iI len)), (2, .int (iI kz)), (1, .int (iI n)), (0, .ref 530)]) (st' := [.ref 530, .int (iI n), .ref 549]) rfl ?_
                                      refine T_get xr_170_200 h1253 rfl (v := .ref 549) rfl (pc' := 203) rfl ?_
                                      refine T_p xr_170_203 xn_170 (pc' := 204) (ls' := [(7, .int (iI i)), (6, .int (iI pl)), (5, .int (iI k)), (3, .int (iI len)), (2, .int (iI kz)), (1, .int (iI n)), (0, .ref 530)]) (st' := [.int (iI n), .ref 549, .int (iI n), .ref 549]) rfl ?_
                                      refine T_zlald xr_170_204 hnn3 (pc' := 205) rfl ?_
                                      refine T_p xr_170_205 xn_170 (pc' := 207) (ls' := [(7, .int (iI i)), (6, .int (iI pl)), (5, .int (iI k)), (3, .int (iI len)), (2, .int (iI kz)), (1, .int (iI n)), (0, .ref 530)]) (st' := [.int (iI 8), .long (nn3 n), .int (iI n), .ref 549]) rfl ?_
                                      refine T_p xr_170_207 xn_170 (pc' := 208) (ls' := [(7, .int (iI i)), (6, .int (iI pl)), (5, .int (iI k)), (3, .int (iI len)), (2, .int (iI kz)), (1, .int (iI n)), (0, .ref 530)]) (st' := [.long ((nn3 n) <<< ((iI 8).toInt64 &&& 63)), .int (iI n), .ref 549]) rfl ?_
                                      refine T_p xr_170_208 xn_170 (pc' := 209) (ls' := [(7, .int (iI i)), (6, .int (iI pl)), (5, .int (iI k)), (3, .int (iI len)), (2, .int (iI kz)), (1, .int (iI n)), (0, .ref 530)]) (st' := [.ref 530, .long ((nn3 n) <<< ((iI 8).toInt64 &&& 63)), .int (iI n), .ref 549]) rfl ?_
                                      refine T_get xr_170_209 h1253 rfl (v := .ref 531) rfl (pc' := 212) rfl ?_
                                      refine T_p xr_170_212 xn_170 (pc' := 214) (ls' := [(7, .int (iI i)), (6, .int (iI pl)), (5, .int (iI k)), (3, .int (iI len)), (2, .int (iI kz)), (1, .int (iI n)), (0, .ref 530)]) (st' := [.int (iI i), .ref 531, .long ((nn3 n) <<< ((iI 8).toInt64 &&& 63)), .int (iI n), .ref 549]) rfl ?_
                                      have h1254 := (hF1249.1 531 (by omega)).trans ((n1243 531 (by decide)).trans ((n1237 531 (by decide)).trans (h1054)))
                                      refine T_zbald xr_170_214 h1254 (pc' := 215) rfl ?_
                                      have hti := htp i (by omega) (by omega)
                                      have hai : X_at tb len i = tb i % 256 := X_at_in (by omega)
                                      have hci : 33 ≤ X_at tb len i ∧ X_at tb len i ≤ 126 := by
                                        by_cases hik : i = k
                                        · rw [hik]; omega
                                        · have hu := hscz i (by omega) (by omega)
                                          unfold X_ct at hu; omega
                                      refine T_ie (y := iI (X_at tb len i)) (by congr 1; omega) ?_
                                      refine T_p xr_170_215 xn_170 (pc' := 216) (ls' := [(7, .int (iI i)), (6, .int (iI pl)), (5, .int (iI k)), (3, .int (iI len)), (2, .int (iI kz)), (1, .int (iI n)), (0, .ref 530)]) (st' := [.long ((iI (X_at tb len i)).toInt64), .long ((nn3 n) <<< ((iI 8).toInt64 &&& 63)), .int (iI n), .ref 549]) rfl ?_
                                      refine T_p xr_170_216 xn_170 (pc' := 217) (ls' := [(7, .int (iI i)), (6, .int (iI pl)), (5, .int (iI k)), (3, .int (iI len)), (2, .int (iI kz)), (1, .int (iI n)), (0, .ref 530)]) (st' := [.long (((nn3 n) <<< ((iI 8).toInt64 &&& 63)) ||| ((iI (X_at tb len i)).toInt64)), .int (iI n), .ref 549]) rfl ?_
                                      refine T_zlast xr_170_217 hnn3 (pc' := 218) rfl (fun S1255 h1256 n1257 e1258 => ?_)
                                      refine T_p xr_170_218 xn_170 (pc' := 220) (ls' := [(7, .int (iI i)), (6, .int (iI pl)), (5, .int (iI k)), (3, .int (iI len)), (2, .int (iI kz)), (1, .int (iI n)), (0, .ref 530)]) (st' := [.int (iI pl)]) rfl ?_
                                      refine T_zif_eq xr_170_220 (t := 240) (pc' := 223) rfl rfl (fun c1259 => ?_) (fun c1259 => ?_)
                                      · skip
                                        have c1259 : pl = 0 := c1259
                                        refine T_p xr_170_240 xn_170 (pc' := 241) (ls' := [(7, .int (iI i)), (6, .int (iI pl)), (5, .int (iI k)), (3, .int (iI len)), (2, .int (iI kz)), (1, .int (iI n)), (0, .ref 530)]) (st' := [.int (iI 0)]) rfl ?_
                                        refine T_p xr_170_241 xn_170 (pc' := 243) (ls' := [(6, .int (iI 0)), (7, .int (iI i)), (5, .int (iI k)), (3, .int (iI len)), (2, .int (iI kz)), (1, .int (iI n)), (0, .ref 530)]) (st' := []) rfl ?_
                                        refine T_p xr_170_243 xn_170 (pc' := 244) (ls' := [(6, .int (iI 0)), (7, .int (iI i)), (5, .int (iI k)), (3, .int (iI len)), (2, .int (iI kz)), (1, .int (iI n)), (0, .ref 530)]) (st' := [.ref 530]) rfl ?_
                                        have h1260 := (n1257 530 (by decide)).trans (h1253)
                                        refine T_get xr_170_244 h1260 rfl (v := .ref 551) rfl (pc' := 247) rfl ?_
                                        refine T_p xr_170_247 xn_170 (pc' := 248) (ls' := [(6, .int (iI 0)), (7, .int (iI i)), (5, .int (iI k)), (3, .int (iI len)), (2, .int (iI kz)), (1, .int (iI n)), (0, .ref 530)]) (st' := [.int (iI n), .ref 551]) rfl ?_
                                        refine T_p xr_170_248 xn_170 (pc' := 250) (ls' := [(6, .int (iI 0)), (7, .int (iI i)), (5, .int (iI k)), (3, .int (iI len)), (2, .int (iI kz)), (1, .int (iI n)), (0, .ref 530)]) (st' := [.int (iI 0), .int (iI n), .ref 551]) rfl ?_
                                        refine T_zif_eqt xr_170_250 (t := 276) rfl (by decide) ?_
                                        refine T_p xr_170_276 xn_170 (pc' := 277) (ls' := [(6, .int (iI 0)), (7, .int (iI i)), (5, .int (iI k)), (3, .int (iI len)), (2, .int (iI kz)), (1, .int (iI n)), (0, .ref 530)]) (st' := [.int (iI (-1)), .int (iI n), .ref 551]) rfl ?_
                                        have h1261 := (n1257 551 (by decide)).trans (hnu3)
                                        refine T_ziast xr_170_277 h1261 (pc' := 278) rfl (fun S1262 h1263 n1264 e1265 => ?_)
                                        refine T_ziinc xr_170_278 xn_170 (a := i) (z := i + 1) rfl (Nat.le_of_ble_eq_true rfl) (by omega) (ls' := [(7, .int (iI (i + 1))), (6, .int (iI 0)), (5, .int (iI k)), (3, .int (iI len)), (2, .int (iI kz)), (1, .int (iI n)), (0, .ref 530)]) rfl (pc' := 281) rfl ?_
                                        refine T_p xr_170_281 xn_170 (pc' := 188) (ls' := [(7, .int (iI (i + 1))), (6, .int (iI 0)), (5, .int (iI k)), (3, .int (iI len)), (2, .int (iI kz)), (1, .int (iI n)), (0, .ref 530)]) (st' := []) rfl ?_
                                        have h1266 := (n1264 549 (by decide)).trans (h1256)
                                        exact ih1246 S1262 (i + 1) kz 0 (X_ug nn3 n (((nn3 n) <<< ((iI 8).toInt64 &&& 63)) ||| ((iI (X_at tb len i)).toInt64))) (X_ug nu3 n (-1)) h1266 h1263 (hF1249.tr (((X_Fr.rf).tr (X_Fr.of n1257 e1258 (by omega))).tr (X_Fr.of n1264 e1265 (by omega)))) (by omega) (by omega) hscz hez (by rw [X_ug_s, X_pk_s (by omega), ← hnn]; rfl) (by
                                              rw [X_ug_s, X_rv_s (by omega)]
                                              first
                                              | (have hd : X_isD (X_at tb len i) := by assumption
                                                 unfold X_isD at hd
                                                 (repeat' split) <;> omega)
                                              | (have hd : ¬ X_isD (X_at tb len i) := by assumption
                                                 unfold X_isD at hd
                                                 (repeat' split) <;> omega)
                                              | ((repeat' split) <;> omega)) (by
                                              rw [X_rv_s (by omega)]
                                              first
                                              | (have hd : X_isD (X_at tb len i) := by assumption
                                                 unfold X_isD at hd
                                                 (repeat' split) <;> omega)
                                              | (have hd : ¬ X_isD (X_at tb len i) := by assumption
                                                 unfold X_isD at hd
                                                 (repeat' split) <;> omega)
                                              | ((repeat' split) <;> omega)) (fun v h1 h2 => by rw [X_ug_n _ _ (by omega), X_ug_n _ _ (by omega)]; exact hold v h1 h2) (by omega)
                                      · skip
                                        have c1259 : ¬ (pl = 0) := c1259
                                        refine T_p xr_170_223 xn_170 (pc' := 224) (ls' := [(7, .int (iI i)), (6, .int (iI pl)), (5, .int (iI k)), (3, .int (iI len)), (2, .int (iI kz)), (1, .int (iI n)), (0, .ref 530)]) (st' := [.ref 530]) rfl ?_
                                        have h1267 := (n1257 530 (by decide)).trans (h1253)
                                        refine T_get xr_170_224 h1267 rfl (v := .ref 531) rfl (pc' := 227) rfl ?_
                                        refine T_p xr_170_227 xn_170 (pc' := 229) (ls' := [(7, .int (iI i)), (6, .int (iI pl)), (5, .int (iI k)), (3, .int (iI len)), (2, .int (iI kz)), (1, .int (iI n)), (0, .ref 530)]) (st' := [.int (iI i), .ref 531]) rfl ?_
                                        have h1268 := (n1257 531 (by decide)).trans (h1254)
                                        refine T_zbald xr_170_229 h1268 (pc' := 230) rfl ?_
                                        refine T_ie (y := iI (X_at tb len i)) (by congr 1; omega) ?_
                                        refine T_cs xr_170_230 (by decide) xf_138.1 xn_138 (as := [.int (iI (X_at tb len i))]) (r := []) rfl (Nat.le_of_ble_eq_true rfl) (Nat.le_of_ble_eq_true rfl) (pc' := 233) rfl (ls' := [(0, .int (iI (X_at tb len i)))]) rfl ?_
                                        refine T_p xr_138_0 xn_138 (pc' := 1) (ls' := [(0, .int (iI (X_at tb len i)))]) (st' := [.int (iI (X_at tb len i))]) rfl ?_
                                        refine T_p xr_138_1 xn_138 (pc' := 3) (ls' := [(0, .int (iI (X_at tb len i)))]) (st' := [.int (iI 48), .int (iI (X_at tb len i))]) rfl ?_
                                        refine T_zicmp_lt xr_138_3 (t := 16) (pc' := 6) rfl rfl (fun c1269 => ?_) (fun c1269 => ?_)
                                        · skip
                                          have c1269 : (X_at tb len i) < 48 := c1269
                                          refine T_p xr_138_16 xn_138 (pc' := 17) (ls' := [(0, .int (iI (X_at tb len i)))]) (st' := [.int (iI 0)]) rfl ?_
                                          refine T_iret xr_138_17 xf_138.2.2 (by decide) ?_
                                          show X_T sc 170 (233, [(7, .int (iI i)), (6, .int (iI pl)), (5, .int (iI k)), (3, .int (iI len)), (2, .int (iI kz)), (1, .int (iI n)), (0, .ref 530)], [.int (iI 0)], S1255) _
                                          refine T_zif_eqt xr_170_233 (t := 240) rfl (by decide) ?_
                                          refine T_p xr_170_240 xn_170 (pc' := 241) (ls' := [(7, .int (iI i)), (6, .int (iI pl)), (5, .int (iI k)), (3, .int (iI len)), (2, .int (iI kz)), (1, .int (iI n)), (0, .ref 530)]) (st' := [.int (iI 0)]) rfl ?_
                                          refine T_p xr_170_241 xn_170 (pc' := 243) (ls' := [(6, .int (iI 0)), (7, .int (iI i)), (5, .int (iI k)), (3, .int (iI len)), (2, .int (iI kz)), (1, .int (iI n)), (0, .ref 530)]) (st' := []) rfl ?_
                                          refine T_p xr_170_243 xn_170 (pc' := 244) (ls' := [(6, .int (iI 0)), (7, .int (iI i)), (5, .int (iI k)), (3, .int (iI len)), (2, .int (iI kz)), (1, .int (iI n)), (0, .ref 530)]) (st' := [.ref 530]) rfl ?_
                                          refine T_get xr_170_244 h1267 rfl (v := .ref 551) rfl (pc' := 247) rfl ?_
                                          refine T_p xr_170_247 xn_170 (pc' := 248) (ls' := [(6, .int (iI 0)), (7, .int (iI i)), (5, .int (iI k)), (3, .int (iI len)), (2, .int (iI kz)), (1, .int (iI n)), (0, .ref 530)]) (st' := [.int (iI n), .ref 551]) rfl ?_
                                          refine T_p xr_170_248 xn_170 (pc' := 250) (ls' := [(6, .int (iI 0)), (7, .int (iI i)), (5, .int (iI k)), (3, .int (iI len)), (2, .int (iI kz)), (1, .int (iI n)), (0, .ref 530)]) (st' := [.int (iI 0), .int (iI n), .ref 551]) rfl ?_
                                          refine T_zif_eqt xr_170_250 (t := 276) rfl (by decide) ?_
                                          refine T_p xr_170_276 xn_170 (pc' := 277) (ls' := [(6, .int (iI 0)), (7, .int (iI i)), (5, .int (iI k)), (3, .int (iI len)), (2, .int (iI kz)), (1, .int (iI n)), (0, .ref 530)]) (st' := [.int (iI (-1)), .int (iI n), .ref 551]) rfl ?_
                                          have h1270 := (n1257 551 (by decide)).trans (hnu3)
                                          refine T_ziast xr_170_277 h1270 (pc' := 278) rfl (fun S1271 h1272 n1273 e1274 => ?_)
                                          refine T_ziinc xr_170_278 xn_170 (a := i) (z := i + 1) rfl (Nat.le_of_ble_eq_true rfl) (by omega) (ls' := [(7, .int (iI (i + 1))), (6, .int (iI 0)), (5, .int (iI k)), (3, .int (iI len)), (2, .int (iI kz)), (1, .int (iI n)), (0, .ref 530)]) rfl (pc' := 281) rfl ?_
                                          refine T_p xr_170_281 xn_170 (pc' := 188) (ls' := [(7, .int (iI (i + 1))), (6, .int (iI 0)), (5, .int (iI k)), (3, .int (iI len)), (2, .int (iI kz)), (1, .int (iI n)), (0, .ref 530)]) (st' := []) rfl ?_
                                          have h1275 := (n1273 549 (by decide)).trans (h1256)
                                          exact ih1246 S1271 (i + 1) kz 0 (X_ug nn3 n (((nn3 n) <<< ((iI 8).toInt64 &&& 63)) ||| ((iI (X_at tb len i)).toInt64))) (X_ug nu3 n (-1)) h1275 h1272 (hF1249.tr (((X_Fr.rf).tr (X_Fr.of n1257 e1258 (by omega))).tr (X_Fr.of n1273 e1274 (by omega)))) (by omega) (by omega) hscz hez (by rw [X_ug_s, X_pk_s (by omega), ← hnn]; rfl) (by
                                                rw [X_ug_s, X_rv_s (by omega)]
                                                first
                                                | (have hd : X_isD (X_at tb len i) := by assumption
                                                   unfold X_isD at hd
                                                   (repeat' split) <;> omega)
                                                | (have hd : ¬ X_isD (X_at tb len i) := by assumption
                                                   unfold X_isD at hd
                                                   (repeat' split) <;> omega)
                                                | ((repeat' split) <;> omega)) (by
                                                rw [X_rv_s (by omega)]
                                                first
                                                | (have hd : X_isD (X_at tb len i) := by assumption
                                                   unfold X_isD at hd
                                                   (repeat' split) <;> omega)
                                                | (have hd : ¬ X_isD (X_at tb len i) := by assumption
                                                   unfold X_isD at hd
                                                   (repeat' split) <;> omega)
                                                | ((repeat' split) <;> omega)) (fun v h1 h2 => by rw [X_ug_n _ _ (by omega), X_ug_n _ _ (by omega)]; exact hold v h1 h2) (by omega)
                                        · skip
                                          have c1269 : ¬ ((X_at tb len i) < 48) := c1269
                                          refine T_p xr_138_6 xn_138 (pc' := 7) (ls' := [(0, .int (iI (X_at tb len i)))]) (st' := [.int (iI (X_at tb len i))]) rfl ?_
                                          refine T_p xr_138_7 xn_138 (pc' := 9) (ls' := [(0, .int (iI (X_at tb len i)))]) (st' := [.int (iI 57), .int (iI (X_at tb len i))]) rfl ?_
                                          refine T_zicmp_gt xr_138_9 (t := 16) (pc' := 12) rfl rfl (fun c1276 => ?_) (fun c1276 => ?_)
                                          · skip
                                            have c1276 : 57 < (X_at tb len i) := c1276
                                            refine T_p xr_138_16 xn_138 (pc' := 17) (ls' := [(0, .int (iI (X_at tb len i)))]) (st' := [.int (iI 0)]) rfl ?_
                                            refine T_iret xr_138_17 xf_138.2.2 (by decide) ?_
                                            show X_T sc 170 (233, [(7, .int (iI i)), (6, .int (iI pl)), (5, .int (iI k)), (3, .int (iI len)), (2, .int (iI kz)), (1, .int (iI n)), (0, .ref 530)], [.int (iI 0)], S1255) _
                                            refine T_zif_eqt xr_170_233 (t := 240) rfl (by decide) ?_
                                            refine T_p xr_170_240 xn_170 (pc' := 241) (ls' := [(7, .int (iI i)), (6, .int (iI pl)), (5, .int (iI k)), (3, .int (iI len)), (2, .int (iI kz)), (1, .int (iI n)), (0, .ref 530)]) (st' := [.int (iI 0)]) rfl ?_
                                            refine T_p xr_170_241 xn_170 (pc' := 243) (ls' := [(6, .int (iI 0)), (7, .int (iI i)), (5, .int (iI k)), (3, .int (iI len)), (2, .int (iI kz)), (1, .int (iI n)), (0, .ref 530)]) (st' := []) rfl ?_
                                            refine T_p xr_170_243 xn_170 (pc' := 244) (ls' := [(6, .int (iI 0)), (7, .int (iI i)), (5, .int (iI k)), (3, .int (iI len)), (2, .int (iI kz)), (1, .int (iI n)), (0, .ref 530)]) (st' := [.ref 530]) rfl ?_
                                            refine T_get xr_170_244 h1267 rfl (v := .ref 551) rfl (pc' := 247) rfl ?_
                                            refine T_p xr_170_247 xn_170 (pc' := 248) (ls' := [(6, .int (iI 0)), (7, .int (iI i)), (5, .int (iI k)), (3, .int (iI len)), (2, .int (iI kz)), (1, .int (iI n)), (0, .ref 530)]) (st' := [.int (iI n), .ref 551]) rfl ?_
                                            refine T_p xr_170_248 xn_170 (pc' := 250) (ls' := [(6, .int (iI 0)), (7, .int (iI i)), (5, .int (iI k)), (3, .int (iI len)), (2, .int (iI kz)), (1, .int (iI n)), (0, .ref 530)]) (st' := [.int (iI 0), .int (iI n), .ref 551]) rfl ?_
                                            refine T_zif_eqt xr_170_250 (t := 276) rfl (by decide) ?_
                                            refine T_p xr_170_276 xn_170 (pc' := 277) (ls' := [(6, .int (iI 0)), (7, .int (iI i)), (5, .int (iI k)), (3, .int (iI len)), (2, .int (iI kz)), (1, .int (iI n)), (0, .ref 530)]) (st' := [.int (iI (-1)), .int (iI n), .ref 551]) rfl ?_
                                            have h1277 := (n1257 551 (by decide)).trans (hnu3)
                                            refine T_ziast xr_170_277 h1277 (pc' := 278) rfl (fun S1278 h1279 n1280 e1281 => ?_)
                                            refine T_ziinc xr_170_278 xn_170 (a := i) (z := i + 1) rfl (Nat.le_of_ble_eq_true rfl) (by omega) (ls' := [(7, .int (iI (i + 1))), (6, .int (iI 0)), (5, .int (iI k)), (3, .int (iI len)), (2, .int (iI kz)), (1, .int (iI n)), (0, .ref 530)]) rfl (pc' := 281) rfl ?_
                                            refine T_p xr_170_281 xn_170 (pc' := 188) (ls' := [(7, .int (iI (i + 1))), (6, .int (iI 0)), (5, .int (iI k)), (3, .int (iI len)), (2, .int (iI kz)), (1, .int (iI n)), (0, .ref 530)]) (st' := []) rfl ?_
                                            have h1282 := (n1280 549 (by decide)).trans (h1256)
                                            exact ih1246 S1278 (i + 1) kz 0 (X_ug nn3 n (((nn3 n) <<< ((iI 8).toInt64 &&& 63)) ||| ((iI (X_at tb len i)).toInt64))) (X_ug nu3 n (-1)) h1282 h1279 (hF1249.tr (((X_Fr.rf).tr (X_Fr.of n1257 e1258 (by omega))).tr (X_Fr.of n1280 e1281 (by omega)))) (by omega) (by omega) hscz hez (by rw [X_ug_s, X_pk_s (by omega), ← hnn]; rfl) (by
                                                  rw [X_ug_s, X_rv_s (by omega)]
                                                  first
                                                  | (have hd : X_isD (X_at tb len i) := by assumption
                                                     unfold X_isD at hd
                                                     (repeat' split) <;> omega)
                                                  | (have hd : ¬ X_isD (X_at tb len i) := by assumption
                                                     unfold X_isD at hd
                                                     (repeat' split) <;> omega)
                                                  | ((repeat' split) <;> omega)) (by
                                                  rw [X_rv_s (by omega)]
                                                  first
                                                  | (have hd : X_isD (X_at tb len i) := by assumption
                                                     unfold X_isD at hd
                                                     (repeat' split) <;> omega)
                                                  | (have hd : ¬ X_isD (X_at tb len i) := by assumption
                                                     unfold X_isD at hd
                                                     (repeat' split) <;> omega)
                                                  | ((repeat' split) <;> omega)) (fun v h1 h2 => by rw [X_ug_n _ _ (by omega), X_ug_n _ _ (by omega)]; exact hold v h1 h2) (by omega)
                                          · skip
                                            have c1276 : ¬ (57 < (X_at tb len i)) := c1276
                                            refine T_p xr_138_12 xn_138 (pc' := 13) (ls' := [(0, .int (iI (X_at tb len i)))]) (st' := [.int (iI 1)]) rfl ?_
                                            refine T_p xr_138_13 xn_138 (pc' := 17) (ls' := [(0, .int (iI (X_at tb len i)))]) (st' := [.int (iI 1)]) rfl ?_
                                            refine T_iret xr_138_17 xf_138.2.2 (by decide) ?_
                                            show X_T sc 170 (233, [(7, .int (iI i)), (6, .int (iI pl)), (5, .int (iI k)), (3, .int (iI len)), (2, .int (iI kz)), (1, .int (iI n)), (0, .ref 530)], [.int (iI 1)], S1255) _
                                            refine T_zif_eqf xr_170_233 (t := 240) (pc' := 236) rfl rfl (by decide) ?_
                                            refine T_p xr_170_236 xn_170 (pc' := 237) (ls' := [(7, .int (iI i)), (6, .int (iI pl)), (5, .int (iI k)), (3, .int (iI len)), (2, .int (iI kz)), (1, .int (iI n)), (0, .ref 530)]) (st' := [.int (iI 1)]) rfl ?_
                                            refine T_p xr_170_237 xn_170 (pc' := 241) (ls' := [(7, .int (iI i)), (6, .int (iI pl)), (5, .int (iI k)), (3, .int (iI len)), (2, .int (iI kz)), (1, .int (iI n)), (0, .ref 530)]) (st' := [.int (iI 1)]) rfl ?_
                                            refine T_p xr_170_241 xn_170 (pc' := 243) (ls' := [(6, .int (iI 1)), (7, .int (iI i)), (5, .int (iI k)), (3, .int (iI len)), (2, .int (iI kz)), (1, .int (iI n)), (0, .ref 530)]) (st' := []) rfl ?_
                                            refine T_p xr_170_243 xn_170 (pc' := 244) (ls' := [(6, .int (iI 1)), (7, .int (iI i)), (5, .int (iI k)), (3, .int (iI len)), (2, .int (iI kz)), (1, .int (iI n)), (0, .ref 530)]) (st' := [.ref 530]) rfl ?_
                                            refine T_get xr_170_244 h1267 rfl (v := .ref 551) rfl (pc' := 247) rfl ?_
                                            refine T_p xr_170_247 xn_170 (pc' := 248) (ls' := [(6, .int (iI 1)), (7, .int (iI i)), (5, .int (iI k)), (3, .int (iI len)), (2, .int (iI kz)), (1, .int (iI n)), (0, .ref 530)]) (st' := [.int (iI n), .ref 551]) rfl ?_
                                            refine T_p xr_170_248 xn_170 (pc' := 250) (ls' := [(6, .int (iI 1)), (7, .int (iI i)), (5, .int (iI k)), (3, .int (iI len)), (2, .int (iI kz)), (1, .int (iI n)), (0, .ref 530)]) (st' := [.int (iI 1), .int (iI n), .ref 551]) rfl ?_
                                            refine T_zif_eqf xr_170_250 (t := 276) (pc' := 253) rfl rfl (by decide) ?_
                                            refine T_p xr_170_253 xn_170 (pc' := 255) (ls' := [(6, .int (iI 1)), (7, .int (iI i)), (5, .int (iI k)), (3, .int (iI len)), (2, .int (iI kz)), (1, .int (iI n)), (0, .ref 530)]) (st' := [.int (iI 10), .int (iI n), .ref 551]) rfl ?_
                                            refine T_p xr_170_255 xn_170 (pc' := 256) (ls' := [(6, .int (iI 1)), (7, .int (iI i)), (5, .int (iI k)), (3, .int (iI len)), (2, .int (iI kz)), (1, .int (iI n)), (0, .ref 530)]) (st' := [.ref 530, .int (iI 10), .int (iI n), .ref 551]) rfl ?_
                                            refine T_get xr_170_256 h1267 rfl (v := .ref 551) rfl (pc' := 259) rfl ?_
                                            refine T_p xr_170_259 xn_170 (pc' := 260) (ls' := [(6, .int (iI 1)), (7, .int (iI i)), (5, .int (iI k)), (3, .int (iI len)), (2, .int (iI kz)), (1, .int (iI n)), (0, .ref 530)]) (st' := [.int (iI n), .ref 551, .int (iI 10), .int (iI n), .ref 551]) rfl ?_
                                            have h1283 := (n1257 551 (by decide)).trans (hnu3)
                                            refine T_ziald xr_170_260 h1283 (pc' := 261) rfl ?_
                                            refine T_zimul xr_170_261 (z := 10 * (nu3 n)) rfl (pc' := 262) rfl ?_
                                            refine T_p xr_170_262 xn_170 (pc' := 263) (ls' := [(6, .int (iI 1)), (7, .int (iI i)), (5, .int (iI k)), (3, .int (iI len)), (2, .int (iI kz)), (1, .int (iI n)), (0, .ref 530)]) (st' := [.ref 530, .int (iI (10 * (nu3 n))), .int (iI n), .ref 551]) rfl ?_
                                            refine T_get xr_170_263 h1267 rfl (v := .ref 531) rfl (pc' := 266) rfl ?_
                                            refine T_p xr_170_266 xn_170 (pc' := 268) (ls' := [(6, .int (iI 1)), (7, .int (iI i)), (5, .int (iI k)), (3, .int (iI len)), (2, .int (iI kz)), (1, .int (iI n)), (0, .ref 530)]) (st' := [.int (iI i), .ref 531, .int (iI (10 * (nu3 n))), .int (iI n), .ref 551]) rfl ?_
                                            refine T_zbald xr_170_268 h1268 (pc' := 269) rfl ?_
                                            refine T_ie (y := iI (X_at tb len i)) (by congr 1; omega) ?_
                                            refine T_ziadd xr_170_269 (z := (10 * (nu3 n)) + (X_at tb len i)) rfl (pc' := 270) rfl ?_
                                            refine T_p xr_170_270 xn_170 (pc' := 272) (ls' := [(6, .int (iI 1)), (7, .int (iI i)), (5, .int (iI k)), (3, .int (iI len)), (2, .int (iI kz)), (1, .int (iI n)), (0, .ref 530)]) (st' := [.int (iI 48), .int (iI ((10 * (nu3 n)) + (X_at tb len i))), .int (iI n), .ref 551]) rfl ?_
                                            refine T_zisub xr_170_272 (z := ((10 * (nu3 n)) + (X_at tb len i)) - 48) rfl (pc' := 273) rfl ?_
                                            refine T_p xr_170_273 xn_170 (pc' := 277) (ls' := [(6, .int (iI 1)), (7, .int (iI i)), (5, .int (iI k)), (3, .int (iI len)), (2, .int (iI kz)), (1, .int (iI n)), (0, .ref 530)]) (st' := [.int (iI (((10 * (nu3 n)) + (X_at tb len i)) - 48)), .int (iI n), .ref 551]) rfl ?_
                                            refine T_ziast xr_170_277 h1283 (pc' := 278) rfl (fun S1284 h1285 n1286 e1287 => ?_)
                                            refine T_ziinc xr_170_278 xn_170 (a := i) (z := i + 1) rfl (Nat.le_of_ble_eq_true rfl) (by omega) (ls' := [(7, .int (iI (i + 1))), (6, .int (iI 1)), (5, .int (iI k)), (3, .int (iI len)), (2, .int (iI kz)), (1, .int (iI n)), (0, .ref 530)]) rfl (pc' := 281) rfl ?_
                                            refine T_p xr_170_281 xn_170 (pc' := 188) (ls' := [(7, .int (iI (i + 1))), (6, .int (iI 1)), (5, .int (iI k)), (3, .int (iI len)), (2, .int (iI kz)), (1, .int (iI n)), (0, .ref 530)]) (st' := []) rfl ?_
                                            have h1288 := (n1286 549 (by decide)).trans (h1256)
                                            exact ih1246 S1284 (i + 1) kz 1 (X_ug nn3 n (((nn3 n) <<< ((iI 8).toInt64 &&& 63)) ||| ((iI (X_at tb len i)).toInt64))) (X_ug nu3 n (((10 * (nu3 n)) + (X_at tb len i)) - 48)) h1288 h1285 (hF1249.tr (((X_Fr.rf).tr (X_Fr.of n1257 e1258 (by omega))).tr (X_Fr.of n1286 e1287 (by omega)))) (by omega) (by omega) hscz hez (by rw [X_ug_s, X_pk_s (by omega), ← hnn]; rfl) (by
                                                  rw [X_ug_s, X_rv_s (by omega)]
                                                  first
                                                  | (have hd : X_isD (X_at tb len i) := by assumption
                                                     unfold X_isD at hd
                                                     (repeat' split) <;> omega)
                                                  | (have hd : ¬ X_isD (X_at tb len i) := by assumption
                                                     unfold X_isD at hd
                                                     (repeat' split) <;> omega)
                                                  | ((repeat' split) <;> omega)) (by
                                                  rw [X_rv_s (by omega)]
                                                  first
                                                  | (have hd : X_isD (X_at tb len i) := by assumption
                                                     unfold X_isD at hd
                                                     (repeat' split) <;> omega)
                                                  | (have hd : ¬ X_isD (X_at tb len i) := by assumption
                                                     unfold X_isD at hd
                                                     (repeat' split) <;> omega)
                                                  | ((repeat' split) <;> omega)) (fun v h1 h2 => by rw [X_ug_n _ _ (by omega), X_ug_n _ _ (by omega)]; exact hold v h1 h2) (by omega)
                                refine T_sub (ls := [(7, .int (iI k)), (6, .int (iI 1)), (5, .int (iI k)), (3, .int (iI len)), (2, .int (iI k2)), (1, .int (iI n)), (0, .ref 530)]) ⟨rfl, rfl, rfl, rfl, rfl, rfl, rfl, trivial⟩ rfl rfl ?_
                                exact L1245 (len + 1).toNat S1241 k k2 1 (X_ug nna n (iL 0)) (X_ug nua n 0) h1250 h1242 ((X_Fr.rf)) (by omega) (by omega) (fun q h1 h2 => by first | exact hscan q h1 h2 | exact absurd h2 (by omega)) ⟨fun h1 h2 => by unfold X_ct at *; omega, fun h1 => by unfold X_ct at h1; omega⟩ (by rw [X_ug_s, show (k - k).toNat = 0 by omega]; rfl) (by rw [X_ug_s, show (k - k).toNat = 0 by omega]; rfl) (Or.inl ⟨rfl, by rw [show (k - k).toNat = 0 by omega]; exact (show ¬ (0 : Int) = -1 by omega)⟩) (fun v h1 h2 => by rw [X_ug_n _ _ (by omega), X_ug_n _ _ (by omega)]; exact hX3 v h1 h2) (by omega)
                              · skip
                                have c1234 : ¬ ((k2 - k) ≤ 8) := c1234
                                have hnone : X_sn tb len len.toNat = none := by
                                  first
                                  | (exfalso; omega)
                                  | (have hck : X_ct (X_at tb len k) := by unfold X_ct; omega
                                     refine X_sn_9 (f := k) (by omega) hX1 (by omega) hck ?_ (fun q h1 h2 => hscan q h1 (by omega)) (by omega)
                                     by_cases hz : 0 < z
                                     · exact absurd hck (hX2 hz (by omega))
                                     · omega)
                                refine T_p xr_170_165 xn_170 (pc' := 166) (ls' := [(5, .int (iI k)), (4, .int (iI (X_at tb len k))), (3, .int (iI len)), (2, .int (iI k2)), (1, .int (iI n)), (0, .ref 530)]) (st' := [.int (iI (-1))]) rfl ?_
                                refine T_iret xr_170_166 xf_170.2.2 rfl ?_
                                refine hQ _ _ ?_
                                exact Or.inl ⟨nna, nua, rfl, hnone, h1053, hnna, hnua, ((X_Fr.rf).tr (X_Fr.of n968 e969 (by omega))).tr (X_Fr.mono ⟨hF974.1, hF974.2⟩ (fun q hq => (by omega)))⟩
                            · skip
                              have c1233 : ¬ ((X_at tb len k2) < 33) := c1233
                              refine T_p xr_170_113 xn_170 (pc' := 114) (ls' := [(5, .int (iI k)), (4, .int (iI (X_at tb len k))), (3, .int (iI len)), (2, .int (iI k2)), (1, .int (iI n)), (0, .ref 530)]) (st' := [.ref 530]) rfl ?_
                              refine T_get xr_170_114 h1053 rfl (v := .ref 531) rfl (pc' := 117) rfl ?_
                              refine T_p xr_170_117 xn_170 (pc' := 118) (ls' := [(5, .int (iI k)), (4, .int (iI (X_at tb len k))), (3, .int (iI len)), (2, .int (iI k2)), (1, .int (iI n)), (0, .ref 530)]) (st' := [.int (iI k2), .ref 531]) rfl ?_
                              refine T_zbald xr_170_118 h1054 (pc' := 119) rfl ?_
                              refine T_p xr_170_119 xn_170 (pc' := 122) (ls' := [(5, .int (iI k)), (4, .int (iI (X_at tb len k))), (3, .int (iI len)), (2, .int (iI k2)), (1, .int (iI n)), (0, .ref 530)]) (st' := [.int (iI 255), .int (iI (tp k2))]) rfl ?_
                              refine T_zop xr_170_122 (pc' := 123) rfl (z := (tp k2) % 256) (iI_m255 _) ?_
                              refine T_ie (y := iI (X_at tb len k2)) (by rw [ha2, ht2.1]) ?_
                              refine T_p xr_170_123 xn_170 (pc' := 125) (ls' := [(5, .int (iI k)), (4, .int (iI (X_at tb len k))), (3, .int (iI len)), (2, .int (iI k2)), (1, .int (iI n)), (0, .ref 530)]) (st' := [.int (iI 126), .int (iI (X_at tb len k2))]) rfl ?_
                              refine T_zicmp_gt xr_170_125 (t := 156) (pc' := 128) rfl rfl (fun c1289 => ?_) (fun c1289 => ?_)
                              · skip
                                have c1289 : 126 < (X_at tb len k2) := c1289
                                refine T_p xr_170_156 xn_170 (pc' := 157) (ls' := [(5, .int (iI k)), (4, .int (iI (X_at tb len k))), (3, .int (iI len)), (2, .int (iI k2)), (1, .int (iI n)), (0, .ref 530)]) (st' := [.int (iI k2)]) rfl ?_
                                refine T_p xr_170_157 xn_170 (pc' := 159) (ls' := [(5, .int (iI k)), (4, .int (iI (X_at tb len k))), (3, .int (iI len)), (2, .int (iI k2)), (1, .int (iI n)), (0, .ref 530)]) (st' := [.int (iI k), .int (iI k2)]) rfl ?_
                                refine T_zisub xr_170_159 (z := k2 - k) rfl (pc' := 160) rfl ?_
                                refine T_p xr_170_160 xn_170 (pc' := 162) (ls' := [(5, .int (iI k)), (4, .int (iI (X_at tb len k))), (3, .int (iI len)), (2, .int (iI k2)), (1, .int (iI n)), (0, .ref 530)]) (st' := [.int (iI 8), .int (iI (k2 - k))]) rfl ?_
                                refine T_zicmp_le xr_170_162 (t := 167) (pc' := 165) rfl rfl (fun c1290 => ?_) (fun c1290 => ?_)
                                · skip
                                  have c1290 : (k2 - k) ≤ 8 := c1290
                                  refine T_p xr_170_167 xn_170 (pc' := 168) (ls' := [(5, .int (iI k)), (4, .int (iI (X_at tb len k))), (3, .int (iI len)), (2, .int (iI k2)), (1, .int (iI n)), (0, .ref 530)]) (st' := [.ref 530]) rfl ?_
                                  refine T_get xr_170_168 h1053 rfl (v := .ref 549) rfl (pc' := 171) rfl ?_
                                  refine T_p xr_170_171 xn_170 (pc' := 172) (ls' := [(5, .int (iI k)), (4, .int (iI (X_at tb len k))), (3, .int (iI len)), (2, .int (iI k2)), (1, .int (iI n)), (0, .ref 530)]) (st' := [.int (iI n), .ref 549]) rfl ?_
                                  refine T_p xr_170_172 xn_170 (pc' := 173) (ls' := [(5, .int (iI k)), (4, .int (iI (X_at tb len k))), (3, .int (iI len)), (2, .int (iI k2)), (1, .int (iI n)), (0, .ref 530)]) (st' := [.long (iL 0), .int (iI n), .ref 549]) rfl ?_
                                  refine T_zlast xr_170_173 hnna (pc' := 174) rfl (fun S1291 h1292 n1293 e1294 => ?_)
                                  refine T_p xr_170_174 xn_170 (pc' := 175) (ls' := [(5, .int (iI k)), (4, .int (iI (X_at tb len k))), (3, .int (iI len)), (2, .int (iI k2)), (1, .int (iI n)), (0, .ref 530)]) (st' := [.ref 530]) rfl ?_
                                  have h1295 := (n1293 530 (by decide)).trans (h1053)
                                  refine T_get xr_170_175 h1295 rfl (v := .ref 551) rfl (pc' := 178) rfl ?_
                                  refine T_p xr_170_178 xn_170 (pc' := 179) (ls' := [(5, .int (iI k)), (4, .int (iI (X_at tb len k))), (3, .int (iI len)), (2, .int (iI k2)), (1, .int (iI n)), (0, .ref 530)]) (st' := [.int (iI n), .ref 551]) rfl ?_
                                  refine T_p xr_170_179 xn_170 (pc' := 180) (ls' := [(5, .int (iI k)), (4, .int (iI (X_at tb len k))), (3, .int (iI len)), (2, .int (iI k2)), (1, .int (iI n)), (0, .ref 530)]) (st' := [.int (iI 0), .int (iI n), .ref 551]) rfl ?_
                                  have h1296 := (n1293 551 (by decide)).trans (hnua)
                                  refine T_ziast xr_170_180 h1296 (pc' := 181) rfl (fun S1297 h1298 n1299 e1300 => ?_)
                                  refine T_p xr_170_181 xn_170 (pc' := 182) (ls' := [(5, .int (iI k)), (4, .int (iI (X_at tb len k))), (3, .int (iI len)), (2, .int (iI k2)), (1, .int (iI n)), (0, .ref 530)]) (st' := [.int (iI 1)]) rfl ?_
                                  refine T_p xr_170_182 xn_170 (pc' := 184) (ls' := [(6, .int (iI 1)), (5, .int (iI k)), (4, .int (iI (X_at tb len k))), (3, .int (iI len)), (2, .int (iI k2)), (1, .int (iI n)), (0, .ref 530)]) (st' := []) rfl ?_
                                  refine T_p xr_170_184 xn_170 (pc' := 186) (ls' := [(6, .int (iI 1)), (5, .int (iI k)), (4, .int (iI (X_at tb len k))), (3, .int (iI len)), (2, .int (iI k2)), (1, .int (iI n)), (0, .ref 530)]) (st' := [.int (iI k)]) rfl ?_
                                  refine T_p xr_170_186 xn_170 (pc' := 188) (ls' := [(7, .int (iI k)), (6, .int (iI 1)), (5, .int (iI k)), (4, .int (iI (X_at tb len k))), (3, .int (iI len)), (2, .int (iI k2)), (1, .int (iI n)), (0, .ref 530)]) (st' := []) rfl ?_
                                  have h1306 := (n1299 549 (by decide)).trans (h1292)
                                  have L1301 : ∀ (m1303 : Nat) (S1307 : X_S) (i : Int) (kz : Int) (pl : Int) (nn3 : Int → Int64) (nu3 : Int → Int) (hnn3 : S1307.1 549 = .inl (.long, 30, .inr (.inl fun k : Nat => nn3 (k : Int)))) (hnu3 : S1307.1 551 = .inl (.int, 30, .inl fun k : Nat => iI (nu3 (k : Int)))) (hF1305 : X_Fr (fun q => q = 549 ∨ q = 551) S1297 S1307) (hi : k ≤ i ∧ i ≤ kz ∧ kz - k ≤ 8) (hkz : k + 1 ≤ kz ∧ kz ≤ len) (hscz : ∀ q, k < q → q < kz → X_ct (X_at tb len q)) (hez : (X_ct (X_at tb len k) → kz < len → ¬ X_ct (X_at tb len kz)) ∧ (¬ X_ct (X_at tb len k) → kz = k + 1)) (hnn : nn3 n = X_pk tb len k (i - k).toNat) (hnu : nu3 n = X_rv tb len k (i - k).toNat) (hpl : (pl = 1 ∧ ¬ X_rv tb len k (i - k).toNat = -1) ∨ (pl = 0 ∧ X_rv tb len k (i - k).toNat = -1)) (hold : ∀ v, 0 ≤ v → v < n → nn3 v = t v ∧ nu3 v = X_nv (t v)) (hm1304 : len - i < m1303), X_T sc 170 (188, [(7, .int (iI i)), (6, .int (iI pl)), (5, .int (iI k)), (3, .int (iI len)), (2, .int (iI kz)), (1, .int (iI n)), (0, .ref 530)], [], S1307) Q := by
                                    intro m1303
                                    induction m1303 with
                                    | zero =>
                                      intro S1307 i kz pl nn3 nu3 hnn3 hnu3 hF1305 hi hkz hscz hez hnn hnu hpl hold hm1304
                                      exact (show False by omega).elim
                                    | succ m1303 ih1302 =>
                                      intro S1307 i kz pl nn3 nu3 hnn3 hnu3 hF1305 hi hkz hscz hez hnn hnu hpl hold hm1304
                                      have hrr := X_rv_r (tb := tb) (len := len) (p := k) (i - k).toNat (fun u g1 g2 => by have := X_at_in (tb := tb) (len := len) (p := k + u) (by omega); omega)
                                      have h10 : (10 : Nat) ^ (i - k).toNat ≤ 10 ^ 8 := Nat.pow_le_pow_right (by omega) (by omega)
                                      have h108 : (10 : Nat) ^ 8 = 100000000 := by decide
                                      refine T_p xr_170_188 xn_170 (pc' := 190) (ls' := [(7, .int (iI i)), (6, .int (iI pl)), (5, .int (iI k)), (3, .int (iI len)), (2, .int (iI kz)), (1, .int (iI n)), (0, .ref 530)]) (st' := [.int (iI i)]) rfl ?_
                                      refine T_p xr_170_190 xn_170 (pc' := 191) (ls' := [(7, .int (iI i)), (6, .int (iI pl)), (5, .int (iI k)), (3, .int (iI len)), (2, .int (iI kz)), (1, .int (iI n)), (0, .ref 530)]) (st' := [.int (iI kz), .int (iI i)]) rfl ?_
                                      refine T_zicmp_ge xr_170_191 (t := 284) (pc' := 194) rfl rfl (fun c1308 => ?_) (fun c1308 => ?_)
                                      · skip
                                        have c1308 : kz ≤ i := c1308
                                        have hpn : ∃ T z', X_sn tb len kz.toNat = some (n + 1, z', T) ∧ 0 ≤ z' ∧ (0 < z' → kz < len → ¬ X_ct (X_at tb len kz)) ∧ T n = X_pk tb len k (kz - k).toNat ∧ ∀ i, ¬ i = n → T i = t i := by
                                          by_cases hck : X_ct (X_at tb len k)
                                          · have hz0 : z = 0 := by
                                              by_cases hz : 0 < z
                                              · exact absurd hck (hX2 hz (by omega))
                                              · omega
                                            obtain ⟨T, a1, a2, a3⟩ := X_sn_m (by omega) hX1 (by omega) hck hz0 (kz - k).toNat (by omega) (by omega) (fun q h1 h2 => hscz q h1 (by omega))
                                            rw [show k + (((kz - k).toNat : Nat) : Int) = kz by omega] at a1
                                            exact ⟨T, _, a1, by omega, fun _ h1 => hez.1 hck h1, a2, a3⟩
                                          · have a1 := X_sn_f (by omega) hX1 (by omega) ⟨by unfold X_isBl; omega, by omega⟩ (fun _ => hck)
                                            have hbr : X_at tb len k = 40 ∨ X_at tb len k = 41 := by unfold X_ct at hck; omega
                                            have hkz := hez.2 hck
                                            rw [if_pos hbr] at a1
                                            rw [hkz]
                                            exact ⟨_, 0, a1, by omega, fun y => absurd y (by omega), by rw [X_ug_s, show (k + 1 - k).toNat = 1 by omega], fun i hi => X_ug_n _ _ hi⟩
                                        obtain ⟨T, z', b1, b2, b3, b4, b5⟩ := hpn
                                        have hnvk : X_nv (X_pk tb len k (kz - k).toNat) = X_rv tb len k (kz - k).toNat := X_nv_pk _ (by omega) (fun u h1 h2 => by
                                          have h3 := X_at_in (tb := tb) (len := len) (p := k + u) (by omega)
                                          by_cases hu : u = 0
                                          · subst hu; rw [show k + 0 = k by omega]; omega
                                          · have := hscz (k + u) (by omega) (by omega)
                                            unfold X_ct at this; omega)
                                        have hie : i = kz := by omega
                                        have hnew : ∃ z t, X_sn tb len kz.toNat = some (n + 1, z, t) ∧ 0 ≤ z ∧ (0 < z → kz < len → ¬ X_ct (X_at tb len kz)) ∧ ∀ v, 0 ≤ v → v < n + 1 → nn3 v = t v ∧ nu3 v = X_nv (t v) := ⟨z', T, b1, b2, b3, fun v h1 h2 => by
                                          by_cases hv : v = n
                                          · rw [hv, b4, hnvk, ← hie]; exact ⟨hnn, hnu⟩
                                          · rw [b5 v hv]; exact hold v h1 (by omega)⟩
                                        refine T_ziinc xr_170_284 xn_170 (a := n) (z := n + 1) rfl (Nat.le_of_ble_eq_true rfl) (by omega) (ls' := [(1, .int (iI (n + 1))), (7, .int (iI i)), (6, .int (iI pl)), (5, .int (iI k)), (3, .int (iI len)), (2, .int (iI kz)), (0, .ref 530)]) rfl (pc' := 287) rfl ?_
                                        refine T_p xr_170_287 xn_170 (pc' := 14) (ls' := [(1, .int (iI (n + 1))), (7, .int (iI i)), (6, .int (iI pl)), (5, .int (iI k)), (3, .int (iI len)), (2, .int (iI kz)), (0, .ref 530)]) (st' := []) rfl ?_
                                        refine T_sub (ls := [(3, .int (iI len)), (2, .int (iI kz)), (1, .int (iI (n + 1))), (0, .ref 530)]) ⟨rfl, rfl, rfl, rfl, trivial⟩ rfl rfl ?_
                                        exact ih971 S1307 (n + 1) kz nn3 nu3 hnn3 hnu3 (hF974.tr ((((X_Fr.rf).tr (X_Fr.of n1293 e1294 (by omega))).tr (X_Fr.of n1299 e1300 (by omega))).tr (X_Fr.mono ⟨hF1305.1, hF1305.2⟩ (fun q hq => (by omega))))) (by omega) (by omega) hnew (by omega)
                                      · skip
                                        have c1308 : ¬ (kz ≤ i) := c1308
                                        refine T_p xr_170_194 xn_170 (pc' := 195) (ls' := [(7, .int (iI i)), (6, .int (iI pl)), (5, .int (iI k)), (3, .int (iI len)), (2, .int (iI kz)), (1, .int (iI n)), (0, .ref 530)]) (st' := [.ref 530]) rfl ?_
                                        have h1309 := (hF1305.1 530 (by omega)).trans ((n1299 530 (by decide)).trans (h1295))
                                        refine T_get xr_170_195 h1309 rfl (v := .ref 549) rfl (pc' := 198) rfl ?_
                                        refine T_p xr_170_198 xn_170 (pc' := 199) (ls' := [(7, .int (iI i)), (6, .int (iI pl)), (5, .int (iI k)), (3, .int (iI len)), (2, .int (iI kz)), (1, .int (iI n)), (0, .ref 530)]) (st' := [.int (iI n), .ref 549]) rfl ?_
                                        refine T_p xr_170_199 xn_170 (pc' := 200) (ls' := [(7, .int (iI i)), (6, .int (iI pl)), (5, .int (iI k)), (3, .int (iI len)), (2, .int (iI kz)), (1, .int (iI n)), (0, .ref 530)]) (st' := [.ref 530, .int (iI n), .ref 549]) rfl ?_
                                        refine T_get xr_170_200 h1309 rfl (v := .ref 549) rfl (pc' := 203) rfl ?_
                                        refine T_p xr_170_203 xn_170 (pc' := 204) (ls' := [(7, .int (iI i)), (6, .int (iI pl)), (5, .int (iI k)), (3, .int (iI len)), (2, .int (iI kz)), (1, .int (iI n)), (0, .ref 530)]) (st' := [.int (iI n), .ref 549, .int (iI n), .ref 549]) rfl ?_
                                        refine T_zlald xr_170_204 hnn3 (pc' := 205) rfl ?_
                                        refine T_p xr_170_205 xn_170 (pc' := 207) (ls' := [(7, .int (iI i)), (6, .int (iI pl)), (5, .int (iI k)), (3, .int (iI len)), (2, .int (iI kz)), (1, .int (iI n)), (0, .ref 530)]) (st' := [.int (iI 8), .long (nn3 n), .int (iI n), .ref 549]) rfl ?_
                                        refine T_p xr_170_207 xn_170 (pc' := 208) (ls' := [(7, .int (iI i)), (6, .int (iI pl)), (5, .int (iI k)), (3, .int (iI len)), (2, .int (iI kz)), (1, .int (iI n)), (0, .ref 530)]) (st' := [.long ((nn3 n) <<< ((iI 8).toInt64 &&& 63)), .int (iI n), .ref 549]) rfl ?_
                                        refine T_p xr_170_208 xn_170 (pc' := 209) (ls' := [(7, .int (iI i)), (6, .int (iI pl)), (5, .int (iI k)), (3, .int (iI len)), (2, .int (iI kz)), (1, .int (iI n)), (0, .ref 530)]) (st' := [.ref 530, .long ((nn3 n) <<< ((iI 8).toInt64 &&& 63)), .int (iI n), .ref 549]) rfl ?_
                                        refine T_get xr_170_209 h1309 rfl (v := .ref 531) rfl (pc' := 212) rfl ?_
                                        refine T_p xr_170_212 xn_170 (pc' := 214) (ls' := [(7, .int (iI i)), (6, .int (iI pl)), (5, .int (iI k)), (3, .int (iI len)), (2, .int (iI kz)), (1, .int (iI n)), (0, .ref 530)]) (st' := [.int (iI i), .ref 531, .long ((nn3 n) <<< ((iI 8).toInt64 &&& 63)), .int (iI n), .ref 549]) rfl ?_
                                        have h1310 := (hF1305.1 531 (by omega)).trans ((n1299 531 (by decide)).trans ((n1293 531 (by decide)).trans (h1054)))
                                        refine T_zbald xr_170_214 h1310 (pc' := 215) rfl ?_
                                        have hti := htp i (by omega) (by omega)
                                        have hai : X_at tb len i = tb i % 256 := X_at_in (by omega)
                                        have hci : 33 ≤ X_at tb len i ∧ X_at tb len i ≤ 126 := by
                                          by_cases hik : i = k
                                          · rw [hik]; omega
                                          · have hu := hscz i (by omega) (by omega)
                                            unfold X_ct at hu; omega
                                        refine T_ie (y := iI (X_at tb len i)) (by congr 1; omega) ?_
                                        refine T_p xr_170_215 xn_170 (pc' := 216) (ls' := [(7, .int (iI i)), (6, .int (iI pl)), (5, .int (iI k)), (3, .int (iI len)), (2, .int (iI kz)), (1, .int (iI n)), (0, .ref 530)]) (st' := [.long ((iI (X_at tb len i)).toInt64), .long ((nn3 n) <<< ((iI 8).toInt64 &&& 63)), .int (iI n), .ref 549]) rfl ?_
                                        refine T_p xr_170_216 xn_170 (pc' := 217) (ls' := [(7, .int (iI i)), (6, .int (iI pl)), (5, .int (iI k)), (3, .int (iI len)), (2, .int (iI kz)), (1, .int (iI n)), (0, .ref 530)]) (st' := [.long (((nn3 n) <<< ((iI 8).toInt64 &&& 63)) ||| ((iI (X_at tb len i)).toInt64)), .int (iI n), .ref 549]) rfl ?_
                                        refine T_zlast xr_170_217 hnn3 (pc' := 218) rfl (fun S1311 h1312 n1313 e1314 => ?_)
                                        refine T_p xr_170_218 xn_170 (pc' := 220) (ls' := [(7, .int (iI i)), (6, .int (iI pl)), (5, .int (iI k)), (3, .int (iI len)), (2, .int (iI kz)), (1, .int (iI n)), (0, .ref 530)]) (st' := [.int (iI pl)]) rfl ?_
                                        refine T_zif_eq xr_170_220 (t := 240) (pc' := 223) rfl rfl (fun c1315 => ?_) (fun c1315 => ?_)
                                        · skip
                                          have c1315 : pl = 0 := c1315
                                          refine T_p xr_170_240 xn_170 (pc' := 241) (ls' := [(7, .int (iI i)), (6, .int (iI pl)), (5, .int (iI k)), (3, .int (iI len)), (2, .int (iI kz)), (1, .int (iI n)), (0, .ref 530)]) (st' := [.int (iI 0)]) rfl ?_
                                          refine T_p xr_170_241 xn_170 (pc' := 243) (ls' := [(6, .int (iI 0)), (7, .int (iI i)), (5, .int (iI k)), (3, .int (iI len)), (2, .int (iI kz)), (1, .int (iI n)), (0, .ref 530)]) (st' := []) rfl ?_
                                          refine T_p xr_170_243 xn_170 (pc' := 244) (ls' := [(6, .int (iI 0)), (7, .int (iI i)), (5, .int (iI k)), (3, .int (iI len)), (2, .int (iI kz)), (1, .int (iI n)), (0, .ref 530)]) (st' := [.ref 530]) rfl ?_
                                          have h1316 := (n1313 530 (by decide)).trans (h1309)
                                          refine T_get xr_170_244 h1316 rfl (v := .ref 551) rfl (pc' := 247) rfl ?_
                                          refine T_p xr_170_247 xn_170 (pc' := 248) (ls' := [(6, .int (iI 0)), (7, .int (iI i)), (5, .int (iI k)), (3, .int (iI len)), (2, .int (iI kz)), (1, .int (iI n)), (0, .ref 530)]) (st' := [.int (iI n), .ref 551]) rfl ?_
                                          refine T_p xr_170_248 xn_170 (pc' := 250) (ls' := [(6, .int (iI 0)), (7, .int (iI i)), (5, .int (iI k)), (3, .int (iI len)), (2, .int (iI kz)), (1, .int (iI n)), (0, .ref 530)]) (st' := [.int (iI 0), .int (iI n), .ref 551]) rfl ?_
                                          refine T_zif_eqt xr_170_250 (t := 276) rfl (by decide) ?_
                                          refine T_p xr_170_276 xn_170 (pc' := 277) (ls' := [(6, .int (iI 0)), (7, .int (iI i)), (5, .int (iI k)), (3, .int (iI len)), (2, .int (iI kz)), (1, .int (iI n)), (0, .ref 530)]) (st' := [.int (iI (-1)), .int (iI n), .ref 551]) rfl ?_
                                          have h1317 := (n1313 551 (by decide)).trans (hnu3)
                                          refine T_ziast xr_170_277 h1317 (pc' := 278) rfl (fun S1318 h1319 n1320 e1321 => ?_)
                                          refine T_ziinc xr_170_278 xn_170 (a := i) (z := i + 1) rfl (Nat.le_of_ble_eq_true rfl) (by omega) (ls' := [(7, .int (iI (i + 1))), (6, .int (iI 0)), (5, .int (iI k)), (3, .int (iI len)), (2, .int (iI kz)), (1, .int (iI n)), (0, .ref 530)]) rfl (pc' := 281) rfl ?_
                                          refine T_p xr_170_281 xn_170 (pc' := 188) (ls' := [(7, .int (iI (i + 1))), (6, .int (iI 0)), (5, .int (iI k)), (3, .int (iI len)), (2, .int (iI kz)), (1, .int (iI n)), (0, .ref 530)]) (st' := []) rfl ?_
                                          have h1322 := (n1320 549 (by decide)).trans (h1312)
                                          exact ih1302 S1318 (i + 1) kz 0 (X_ug nn3 n (((nn3 n) <<< ((iI 8).toInt64 &&& 63)) ||| ((iI (X_at tb len i)).toInt64))) (X_ug nu3 n (-1)) h1322 h1319 (hF1305.tr (((X_Fr.rf).tr (X_Fr.of n1313 e1314 (by omega))).tr (X_Fr.of n1320 e1321 (by omega)))) (by omega) (by omega) hscz hez (by rw [X_ug_s, X_pk_s (by omega), ← hnn]; rfl) (by
                                                rw [X_ug_s, X_rv_s (by omega)]
                                                first
                                                | (have hd : X_isD (X_at tb len i) := by assumption
                                                   unfold X_isD at hd
                                                   (repeat' split) <;> omega)
                                                | (have hd : ¬ X_isD (X_at tb len i) := by assumption
                                                   unfold X_isD at hd
                                                   (repeat' split) <;> omega)
                                                | ((repeat' split) <;> omega)) (by
                                                rw [X_rv_s (by omega)]
                                                first
                                                | (have hd : X_isD (X_at tb len i) := by assumption
                                                   unfold X_isD at hd
                                                   (repeat' split) <;> omega)
                                                | (have hd : ¬ X_isD (X_at tb len i) := by assumption
                                                   unfold X_isD at hd
                                                   (repeat' split) <;> omega)
                                                | ((repeat' split) <;> omega)) (fun v h1 h2 => by rw [X_ug_n _ _ (by omega), X_ug_n _ _ (by omega)]; exact hold v h1 h2) (by omega)
                                        · skip
                                          have c1315 : ¬ (pl = 0) := c1315
                                          refine T_p xr_170_223 xn_170 (pc' := 224) (ls' := [(7, .int (iI i)), (6, .int (iI pl)), (5, .int (iI k)), (3, .int (iI len)), (2, .int (iI kz)), (1, .int (iI n)), (0, .ref 530)]) (st' := [.ref 530]) rfl ?_
                                          have h1323 := (n1313 530 (by decide)).trans (h1309)
                                          refine T_get xr_170_224 h1323 rfl (v := .ref 531) rfl (pc' := 227) rfl ?_
                                          refine T_p xr_170_227 xn_170 (pc' := 229) (ls' := [(7, .int (iI i)), (6, .int (iI pl)), (5, .int (iI k)), (3, .int (iI len)), (2, .int (iI kz)), (1, .int (iI n)), (0, .ref 530)]) (st' := [.int (iI i), .ref 531]) rfl ?_
                                          have h1324 := (n1313 531 (by decide)).trans (h1310)
                                          refine T_zbald xr_170_229 h1324 (pc' := 230) rfl ?_
                                          refine T_ie (y := iI (X_at tb len i)) (by congr 1; omega) ?_
                                          refine T_cs xr_170_230 (by decide) xf_138.1 xn_138 (as := [.int (iI (X_at tb len i))]) (r := []) rfl (Nat.le_of_ble_eq_true rfl) (Nat.le_of_ble_eq_true rfl) (pc' := 233) rfl (ls' := [(0, .int (iI (X_at tb len i)))]) rfl ?_
                                          refine T_p xr_138_0 xn_138 (pc' := 1) (ls' := [(0, .int (iI (X_at tb len i)))]) (st' := [.int (iI (X_at tb len i))]) rfl ?_
                                          refine T_p xr_138_1 xn_138 (pc' := 3) (ls' := [(0, .int (iI (X_at tb len i)))]) (st' := [.int (iI 48), .int (iI (X_at tb len i))]) rfl ?_
                                          refine T_zicmp_lt xr_138_3 (t := 16) (pc' := 6) rfl rfl (fun c1325 => ?_) (fun c1325 => ?_)
                                          · skip
                                            have c1325 : (X_at tb len i) < 48 := c1325
                                            refine T_p xr_138_16 xn_138 (pc' := 17) (ls' := [(0, .int (iI (X_at tb len i)))]) (st' := [.int (iI 0)]) rfl ?_
                                            refine T_iret xr_138_17 xf_138.2.2 (by decide) ?_
                                            show X_T sc 170 (233, [(7, .int (iI i)), (6, .int (iI pl)), (5, .int (iI k)), (3, .int (iI len)), (2, .int (iI kz)), (1, .int (iI n)), (0, .ref 530)], [.int (iI 0)], S1311) _
                                            refine T_zif_eqt xr_170_233 (t := 240) rfl (by decide) ?_
                                            refine T_p xr_170_240 xn_170 (pc' := 241) (ls' := [(7, .int (iI i)), (6, .int (iI pl)), (5, .int (iI k)), (3, .int (iI len)), (2, .int (iI kz)), (1, .int (iI n)), (0, .ref 530)]) (st' := [.int (iI 0)]) rfl ?_
                                            refine T_p xr_170_241 xn_170 (pc' := 243) (ls' := [(6, .int (iI 0)), (7, .int (iI i)), (5, .int (iI k)), (3, .int (iI len)), (2, .int (iI kz)), (1, .int (iI n)), (0, .ref 530)]) (st' := []) rfl ?_
                                            refine T_p xr_170_243 xn_170 (pc' := 244) (ls' := [(6, .int (iI 0)), (7, .int (iI i)), (5, .int (iI k)), (3, .int (iI len)), (2, .int (iI kz)), (1, .int (iI n)), (0, .ref 530)]) (st' := [.ref 530]) rfl ?_
                                            refine T_get xr_170_244 h1323 rfl (v := .ref 551) rfl (pc' := 247) rfl ?_
                                            refine T_p xr_170_247 xn_170 (pc' := 248) (ls' := [(6, .int (iI 0)), (7, .int (iI i)), (5, .int (iI k)), (3, .int (iI len)), (2, .int (iI kz)), (1, .int (iI n)), (0, .ref 530)]) (st' := [.int (iI n), .ref 551]) rfl ?_
                                            refine T_p xr_170_248 xn_170 (pc' := 250) (ls' := [(6, .int (iI 0)), (7, .int (iI i)), (5, .int (iI k)), (3, .int (iI len)), (2, .int (iI kz)), (1, .int (iI n)), (0, .ref 530)]) (st' := [.int (iI 0), .int (iI n), .ref 551]) rfl ?_
                                            refine T_zif_eqt xr_170_250 (t := 276) rfl (by decide) ?_
                                            refine T_p xr_170_276 xn_170 (pc' := 277) (ls' := [(6, .int (iI 0)), (7, .int (iI i)), (5, .int (iI k)), (3, .int (iI len)), (2, .int (iI kz)), (1, .int (iI n)), (0, .ref 530)]) (st' := [.int (iI (-1)), .int (iI n), .ref 551]) rfl ?_
                                            have h1326 := (n1313 551 (by decide)).trans (hnu3)
                                            refine T_ziast xr_170_277 h1326 (pc' := 278) rfl (fun S1327 h1328 n1329 e1330 => ?_)
                                            refine T_ziinc xr_170_278 xn_170 (a := i) (z := i + 1) rfl (Nat.le_of_ble_eq_true rfl) (by omega) (ls' := [(7, .int (iI (i + 1))), (6, .int (iI 0)), (5, .int (iI k)), (3, .int (iI len)), (2, .int (iI kz)), (1, .int (iI n)), (0, .ref 530)]) rfl (pc' := 281) rfl ?_
                                            refine T_p xr_170_281 xn_170 (pc' := 188) (ls' := [(7, .int (iI (i + 1))), (6, .int (iI 0)), (5, .int (iI k)), (3, .int (iI len)), (2, .int (iI kz)), (1, .int (iI n)), (0, .ref 530)]) (st' := []) rfl ?_
                                            have h1331 := (n1329 549 (by decide)).trans (h1312)
                                            exact ih1302 S1327 (i + 1) kz 0 (X_ug nn3 n (((nn3 n) <<< ((iI 8).toInt64 &&& 63)) ||| ((iI (X_at tb len i)).toInt64))) (X_ug nu3 n (-1)) h1331 h1328 (hF1305.tr (((X_Fr.rf).tr (X_Fr.of n1313 e1314 (by omega))).tr (X_Fr.of n1329 e1330 (by omega)))) (by omega) (by omega) hscz hez (by rw [X_ug_s, X_pk_s (by omega), ← hnn]; rfl) (by
                                                  rw [X_ug_s, X_rv_s (by omega)]
                                                  first
                                                  | (have hd : X_isD (X_at tb len i) := by assumption
                                                     unfold X_isD at hd
                                                     (repeat' split) <;> omega)
                                                  | (have hd : ¬ X_isD (X_at tb len i) := by assumption
                                                     unfold X_isD at hd
                                                     (repeat' split) <;> omega)
                                                  | ((repeat' split) <;> omega)) (by
                                                  rw [X_rv_s (by omega)]
                                                  first
                                                  | (have hd : X_isD (X_at tb len i) := by assumption
                                                     unfold X_isD at hd
                                                     (repeat' split) <;> omega)
                                                  | (have hd : ¬ X_isD (X_at tb len i) := by assumption
                                                     unfold X_isD at hd
                                                     (repeat' split) <;> omega)
                                                  | ((repeat' split) <;> omega)) (fun v h1 h2 => by rw [X_ug_n _ _ (by omega), X_ug_n _ _ (by omega)]; exact hold v h1 h2) (by omega)
                                          · skip
                                            have c1325 : ¬ ((X_at tb len i) < 48) := c1325
                                            refine T_p xr_138_6 xn_138 (pc' := 7) (ls' := [(0, .int (iI (X_at tb len i)))]) (st' := [.int (iI (X_at tb len i))]) rfl ?_
                                            refine T_p xr_138_7 xn_138 (pc' := 9) (ls' := [(0, .int (iI (X_at tb len i)))]) (st' := [.int (iI 57), .int (iI (X_at tb len i))]) rfl ?_
                                            refine T_zicmp_gt xr_138_9 (t := 16) (pc' := 12) rfl rfl (fun c1332 => ?_) (fun c1332 => ?_)
                                            · skip
                                              have c1332 : 57 < (X_at tb len i) := c1332
                                              refine T_p xr_138_16 xn_138 (pc' := 17) (ls' := [(0, .int (iI (X_at tb len i)))]) (st' := [.int (iI 0)]) rfl ?_
                                              refine T_iret xr_138_17 xf_138.2.2 (by decide) ?_
                                              show X_T sc 170 (233, [(7, .int (iI i)), (6, .int (iI pl)), (5, .int (iI k)), (3, .int (iI len)), (2, .int (iI kz)), (1, .int (iI n)), (0, .ref 530)], [.int (iI 0)], S1311) _
                                              refine T_zif_eqt xr_170_233 (t := 240) rfl (by decide) ?_
                                              refine T_p xr_170_240 xn_170 (pc' := 241) (ls' := [(7, .int (iI i)), (6, .int (iI pl)), (5, .int (iI k)), (3, .int (iI len)), (2, .int (iI kz)), (1, .int (iI n)), (0, .ref 530)]) (st' := [.int (iI 0)]) rfl ?_
                                              refine T_p xr_170_241 xn_170 (pc' := 243) (ls' := [(6, .int (iI 0)), (7, .int (iI i)), (5, .int (iI k)), (3, .int (iI len)), (2, .int (iI kz)), (1, .int (iI n)), (0, .ref 530)]) (st' := []) rfl ?_
                                              refine T_p xr_170_243 xn_170 (pc' := 244) (ls' := [(6, .int (iI 0)), (7, .int (iI i)), (5, .int (iI k)), (3, .int (iI len)), (2, .int (iI kz)), (1, .int (iI n)), (0, .ref 530)]) (st' := [.ref 530]) rfl ?_
                                              refine T_get xr_170_244 h1323 rfl (v := .ref 551) rfl (pc' := 247) rfl ?_
                                              refine T_p xr_170_247 xn_170 (pc' := 248) (ls' := [(6, .int (iI 0)), (7, .int (iI i)), (5, .int (iI k)), (3, .int (iI len)), (2, .int (iI kz)), (1, .int (iI n)), (0, .ref 530)]) (st' := [.int (iI n), .ref 551]) rfl ?_
                                              refine T_p xr_170_248 xn_170 (pc' := 250) (ls' := [(6, .int (iI 0)), (7, .int (iI i)), (5, .int (iI k)), (3, .int (iI len)), (2, .int (iI kz)), (1, .int (iI n)), (0, .ref 530)]) (st' := [.int (iI 0), .int (iI n), .ref 551]) rfl ?_
                                              refine T_zif_eqt xr_170_250 (t := 276) rfl (by decide) ?_
                                              refine T_p xr_170_276 xn_170 (pc' := 277) (ls' := [(6, .int (iI 0)), (7, .int (iI i)), (5, .int (iI k)), (3, .int (iI len)), (2, .int (iI kz)), (1, .int (iI n)), (0, .ref 530)]) (st' := [.int (iI (-1)), .int (iI n), .ref 551]) rfl ?_
                                              have h1333 := (n1313 551 (by decide)).trans (hnu3)
                                              refine T_ziast xr_170_277 h1333 (pc' := 278) rfl (fun S1334 h1335 n1336 e1337 => ?_)
                                              refine T_ziinc xr_170_278 xn_170 (a := i) (z := i + 1) rfl (Nat.le_of_ble_eq_true rfl) (by omega) (ls' := [(7, .int (iI (i + 1))), (6, .int (iI 0)), (5, .int (iI k)), (3, .int (iI len)), (2, .int (iI kz)), (1, .int (iI n)), (0, .ref 530)]) rfl (pc' := 281) rfl ?_
                                              refine T_p xr_170_281 xn_170 (pc' := 188) (ls' := [(7, .int (iI (i + 1))), (6, .int (iI 0)), (5, .int (iI k)), (3, .int (iI len)), (2, .int (iI kz)), (1, .int (iI n)), (0, .ref 530)]) (st' := []) rfl ?_
                                              have h1338 := (n1336 549 (by decide)).trans (h1312)
                                              exact ih1302 S1334 (i + 1) kz 0 (X_ug nn3 n (((nn3 n) <<< ((iI 8).toInt64 &&& 63)) ||| ((iI (X_at tb len i)).toInt64))) (X_ug nu3 n (-1)) h1338 h1335 (hF1305.tr (((X_Fr.rf).tr (X_Fr.of n1313 e1314 (by omega))).tr (X_Fr.of n1336 e1337 (by omega)))) (by omega) (by omega) hscz hez (by rw [X_ug_s, X_pk_s (by omega), ← hnn]; rfl) (by
                                                    rw [X_ug_s, X_rv_s (by omega)]
                                                    first
                                                    | (have hd : X_isD (X_at tb len i) := by assumption
                                                       unfold X_isD at hd
                                                       (repeat' split) <;> omega)
                                                    | (have hd : ¬ X_isD (X_at tb len i) := by assumption
                                                       unfold X_isD at hd
                                                       (repeat' split) <;> omega)
                                                    | ((repeat' split) <;> omega)) (by
                                                    rw [X_rv_s (by omega)]
                                                    first
                                                    | (have hd : X_isD (X_at tb len i) := by assumption
                                                       unfold X_isD at hd
                                                       (repeat' split) <;> omega)
                                                    | (have hd : ¬ X_isD (X_at tb len i) := by assumption
                                                       unfold X_isD at hd
                                                       (repeat' split) <;> omega)
                                                    | ((repeat' split) <;> omega)) (fun v h1 h2 => by rw [X_ug_n _ _ (by omega), X_ug_n _ _ (by omega)]; exact hold v h1 h2) (by omega)
                                            · skip
                                              have c1332 : ¬ (57 < (X_at tb len i)) := c1332
                                              refine T_p xr_138_12 xn_138 (pc' := 13) (ls' := [(0, .int (iI (X_at tb len i)))]) (st' := [.int (iI 1)]) rfl ?_
                                              refine T_p xr_138_13 xn_138 (pc' := 17) (ls' := [(0, .int (iI (X_at tb len i)))]) (st' := [.int (iI 1)]) rfl ?_
                                              refine T_iret xr_138_17 xf_138.2.2 (by decide) ?_
                                              show X_T sc 170 (233, [(7, .int (iI i)), (6, .int (iI pl)), (5, .int (iI k)), (3, .int (iI len)), (2, .int (iI kz)), (1, .int (iI n)), (0, .ref 530)], [.int (iI 1)], S1311) _
                                              refine T_zif_eqf xr_170_233 (t := 240) (pc' := 236) rfl rfl (by decide) ?_
                                              refine T_p xr_170_236 xn_170 (pc' := 237) (ls' := [(7, .int (iI i)), (6, .int (iI pl)), (5, .int (iI k)), (3, .int (iI len)), (2, .int (iI kz)), (1, .int (iI n)), (0, .ref 530)]) (st' := [.int (iI 1)]) rfl ?_
                                              refine T_p xr_170_237 xn_170 (pc' := 241) (ls' := [(7, .int (iI i)), (6, .int (iI pl)), (5, .int (iI k)), (3, .int (iI len)), (2, .int (iI kz)), (1, .int (iI n)), (0, .ref 530)]) (st' := [.int (iI 1)]) rfl ?_
                                              refine T_p xr_170_241 xn_170 (pc' := 243) (ls' := [(6, .int (iI 1)), (7, .int (iI i)), (5, .int (iI k)), (3, .int (iI len)), (2, .int (iI kz)), (1, .int (iI n)), (0, .ref 530)]) (st' := []) rfl ?_
                                              refine T_p xr_170_243 xn_170 (pc' := 244) (ls' := [(6, .int (iI 1)), (7, .int (iI i)), (5, .int (iI k)), (3, .int (iI len)), (2, .int (iI kz)), (1, .int (iI n)), (0, .ref 530)]) (st' := [.ref 530]) rfl ?_
                                              refine T_get xr_170_244 h1323 rfl (v := .ref 551) rfl (pc' := 247) rfl ?_
                                              refine T_p xr_170_247 xn_170 (pc' := 248) (ls' := [(6, .int (iI 1)), (7, .int (iI i)), (5, .int (iI k)), (3, .int (iI len)), (2, .int (iI kz)), (1, .int (iI n)), (0, .ref 530)]) (st' := [.int (iI n), .ref 551]) rfl ?_
                                              refine T_p xr_170_248 xn_170 (pc' := 250) (ls' := [(6, .int (iI 1)), (7, .int (iI i)), (5, .int (iI k)), (3, .int (iI len)), (2, .int (iI kz)), (1, .int (iI n)), (0, .ref 530)]) (st' := [.int (iI 1), .int (iI n), .ref 551]) rfl ?_
                                              refine T_zif_eqf xr_170_250 (t := 276) (pc' := 253) rfl rfl (by decide) ?_
                                              refine T_p xr_170_253 xn_170 (pc' := 255) (ls' := [(6, .int (iI 1)), (7, .int (iI i)), (5, .int (iI k)), (3, .int (iI len)), (2, .int (iI kz)), (1, .int (iI n)), (0, .ref 530)]) (st' := [.int (iI 10), .int (iI n), .ref 551]) rfl ?_
                                              refine T_p xr_170_255 xn_170 (pc' := 256) (ls' := [(6, .int (iI 1)), (7, .int (iI i)), (5, .int (iI k)), (3, .int (iI len)), (2, .int (iI kz)), (1, .int (iI n)), (0, .ref 530)]) (st' := [.ref 530, .int (iI 10), .int (iI n), .ref 551]) rfl ?_
                                              refine T_get xr_170_256 h1323 rfl (v := .ref 551) rfl (pc' := 259) rfl ?_
                                              refine T_p xr_170_259 xn_170 (pc' := 260) (ls' := [(6, .int (iI 1)), (7, .int (iI i)), (5, .int (iI k)), (3, .int (iI len)), (2, .int (iI kz)), (1, .int (iI n)), (0, .ref 530)]) (st' := [.int (iI n), .ref 551, .int (iI 10), .int (iI n), .ref 551]) rfl ?_
                                              have h1339 := (n1313 551 (by decide)).trans (hnu3)
                                              refine T_ziald xr_170_260 h1339 (pc' := 261) rfl ?_
                                              refine T_zimul xr_170_261 (z := 10 * (nu3 n)) rfl (pc' := 262) rfl ?_
                                              refine T_p xr_170_262 xn_170 (pc' := 263) (ls' := [(6, .int (iI 1)), (7, .int (iI i)), (5, .int (iI k)), (3, .int (iI len)), (2, .int (iI kz)), (1, .int (iI n)), (0, .ref 530)]) (st' := [.ref 530, .int (iI (10 * (nu3 n))), .int (iI n), .ref 551]) rfl ?_
                                              refine T_get xr_170_263 h1323 rfl (v := .ref 531) rfl (pc' := 266) rfl ?_
                                              refine T_p xr_170_266 xn_170 (pc' := 268) (ls' := [(6, .int (iI 1)), (7, .int (iI i)), (5, .int (iI k)), (3, .int (iI len)), (2, .int (iI kz)), (1, .int (iI n)), (0, .ref 530)]) (st' := [.int (iI i), .ref 531, .int (iI (10 * (nu3 n))), .int (iI n), .ref 551]) rfl ?_
                                              refine T_zbald xr_170_268 h1324 (pc' := 269) rfl ?_
                                              refine T_ie (y := iI (X_at tb len i)) (by congr 1; omega) ?_
                                              refine T_ziadd xr_170_269 (z := (10 * (nu3 n)) + (X_at tb len i)) rfl (pc' := 270) rfl ?_
                                              refine T_p xr_170_270 xn_170 (pc' := 272) (ls' := [(6, .int (iI 1)), (7, .int (iI i)), (5, .int (iI k)), (3, .int (iI len)), (2, .int (iI kz)), (1, .int (iI n)), (0, .ref 530)]) (st' := [.int (iI 48), .int (iI ((10 * (nu3 n)) + (X_at tb len i))), .int (iI n), .ref 551]) rfl ?_
                                              refine T_zisub xr_170_272 (z := ((10 * (nu3 n)) + (X_at tb len i)) - 48) rfl (pc' := 273) rfl ?_
                                              refine T_p xr_170_273 xn_170 (pc' := 277) (ls' := [(6, .int (iI 1)), (7, .int (iI i)), (5, .int (iI k)), (3, .int (iI len)), (2, .int (iI kz)), (1, .int (iI n)), (0, .ref 530)]) (st' := [.int (iI (((10 * (nu3 n)) + (X_at tb len i)) - 48)), .int (iI n), .ref 551]) rfl ?_
                                              refine T_ziast xr_170_277 h1339 (pc' := 278) rfl (fun S1340 h1341 n1342 e1343 => ?_)
                                              refine T_ziinc xr_170_278 xn_170 (a := i) (z := i + 1) rfl (Nat.le_of_ble_eq_true rfl) (by omega) (ls' := [(7, .int (iI (i + 1))), (6, .int (iI 1)), (5, .int (iI k)), (3, .int (iI len)), (2, .int (iI kz)), (1, .int (iI n)), (0, .ref 530)]) rfl (pc' := 281) rfl ?_
                                              refine T_p xr_170_281 xn_170 (pc' := 188) (ls' := [(7, .int (iI (i + 1))), (6, .int (iI 1)), (5, .int (iI k)), (3, .int (iI len)), (2, .int (iI kz)), (1, .int (iI n)), (0, .ref 530)]) (st' := []) rfl ?_
                                              have h1344 := (n1342 549 (by decide)).trans (h1312)
                                              exact ih1302 S1340 (i + 1) kz 1 (X_ug nn3 n (((nn3 n) <<< ((iI 8).toInt64 &&& 63)) ||| ((iI (X_at tb len i)).toInt64))) (X_ug nu3 n (((10 * (nu3 n)) + (X_at tb len i)) - 48)) h1344 h1341 (hF1305.tr (((X_Fr.rf).tr (X_Fr.of n1313 e1314 (by omega))).tr (X_Fr.of n1342 e1343 (by omega)))) (by omega) (by omega) hscz hez (by rw [X_ug_s, X_pk_s (by omega), ← hnn]; rfl) (by
                                                    rw [X_ug_s, X_rv_s (by omega)]
                                                    first
                                                    | (have hd : X_isD (X_at tb len i) := by assumption
                                                       unfold X_isD at hd
                                                       (repeat' split) <;> omega)
                                                    | (have hd : ¬ X_isD (X_at tb len i) := by assumption
                                                       unfold X_isD at hd
                                                       (repeat' split) <;> omega)
                                                    | ((repeat' split) <;> omega)) (by
                                                    rw [X_rv_s (by omega)]
                                                    first
                                                    | (have hd : X_isD (X_at tb len i) := by assumption
                                                       unfold X_isD at hd
                                                       (repeat' split) <;> omega)
                                                    | (have hd : ¬ X_isD (X_at tb len i) := by assumption
                                                       unfold X_isD at hd
                                                       (repeat' split) <;> omega)
                                                    | ((repeat' split) <;> omega)) (fun v h1 h2 => by rw [X_ug_n _ _ (by omega), X_ug_n _ _ (by omega)]; exact hold v h1 h2) (by omega)
                                  refine T_sub (ls := [(7, .int (iI k)), (6, .int (iI 1)), (5, .int (iI k)), (3, .int (iI len)), (2, .int (iI k2)), (1, .int (iI n)), (0, .ref 530)]) ⟨rfl, rfl, rfl, rfl, rfl, rfl, rfl, trivial⟩ rfl rfl ?_
                                  exact L1301 (len + 1).toNat S1297 k k2 1 (X_ug nna n (iL 0)) (X_ug nua n 0) h1306 h1298 ((X_Fr.rf)) (by omega) (by omega) (fun q h1 h2 => by first | exact hscan q h1 h2 | exact absurd h2 (by omega)) ⟨fun h1 h2 => by unfold X_ct at *; omega, fun h1 => by unfold X_ct at h1; omega⟩ (by rw [X_ug_s, show (k - k).toNat = 0 by omega]; rfl) (by rw [X_ug_s, show (k - k).toNat = 0 by omega]; rfl) (Or.inl ⟨rfl, by rw [show (k - k).toNat = 0 by omega]; exact (show ¬ (0 : Int) = -1 by omega)⟩) (fun v h1 h2 => by rw [X_ug_n _ _ (by omega), X_ug_n _ _ (by omega)]; exact hX3 v h1 h2) (by omega)
                                · skip
                                  have c1290 : ¬ ((k2 - k) ≤ 8) := c1290
                                  have hnone : X_sn tb len len.toNat = none := by
                                    first
                                    | (exfalso; omega)
                                    | (have hck : X_ct (X_at tb len k) := by unfold X_ct; omega
                                       refine X_sn_9 (f := k) (by omega) hX1 (by omega) hck ?_ (fun q h1 h2 => hscan q h1 (by omega)) (by omega)
                                       by_cases hz : 0 < z
                                       · exact absurd hck (hX2 hz (by omega))
                                       · omega)
                                  refine T_p xr_170_165 xn_170 (pc' := 166) (ls' := [(5, .int (iI k)), (4, .int (iI (X_at tb len k))), (3, .int (iI len)), (2, .int (iI k2)), (1, .int (iI n)), (0, .ref 530)]) (st' := [.int (iI (-1))]) rfl ?_
                                  refine T_iret xr_170_166 xf_170.2.2 rfl ?_
                                  refine hQ _ _ ?_
                                  exact Or.inl ⟨nna, nua, rfl, hnone, h1053, hnna, hnua, ((X_Fr.rf).tr (X_Fr.of n968 e969 (by omega))).tr (X_Fr.mono ⟨hF974.1, hF974.2⟩ (fun q hq => (by omega)))⟩
                              · skip
                                have c1289 : ¬ (126 < (X_at tb len k2)) := c1289
                                refine T_p xr_170_128 xn_170 (pc' := 129) (ls' := [(5, .int (iI k)), (4, .int (iI (X_at tb len k))), (3, .int (iI len)), (2, .int (iI k2)), (1, .int (iI n)), (0, .ref 530)]) (st' := [.ref 530]) rfl ?_
                                refine T_get xr_170_129 h1053 rfl (v := .ref 531) rfl (pc' := 132) rfl ?_
                                refine T_p xr_170_132 xn_170 (pc' := 133) (ls' := [(5, .int (iI k)), (4, .int (iI (X_at tb len k))), (3, .int (iI len)), (2, .int (iI k2)), (1, .int (iI n)), (0, .ref 530)]) (st' := [.int (iI k2), .ref 531]) rfl ?_
                                refine T_zbald xr_170_133 h1054 (pc' := 134) rfl ?_
                                refine T_ie (y := iI (tb k2)) (by rw [ht2.1]) ?_
                                refine T_p xr_170_134 xn_170 (pc' := 136) (ls' := [(5, .int (iI k)), (4, .int (iI (X_at tb len k))), (3, .int (iI len)), (2, .int (iI k2)), (1, .int (iI n)), (0, .ref 530)]) (st' := [.int (iI 40), .int (iI (tb k2))]) rfl ?_
                                refine T_zicmp_eq xr_170_136 (t := 156) (pc' := 139) rfl rfl (fun c1345 => ?_) (fun c1345 => ?_)
                                · skip
                                  have c1345 : (tb k2) = 40 := c1345
                                  refine T_p xr_170_156 xn_170 (pc' := 157) (ls' := [(5, .int (iI k)), (4, .int (iI (X_at tb len k))), (3, .int (iI len)), (2, .int (iI k2)), (1, .int (iI n)), (0, .ref 530)]) (st' := [.int (iI k2)]) rfl ?_
                                  refine T_p xr_170_157 xn_170 (pc' := 159) (ls' := [(5, .int (iI k)), (4, .int (iI (X_at tb len k))), (3, .int (iI len)), (2, .int (iI k2)), (1, .int (iI n)), (0, .ref 530)]) (st' := [.int (iI k), .int (iI k2)]) rfl ?_
                                  refine T_zisub xr_170_159 (z := k2 - k) rfl (pc' := 160) rfl ?_
                                  refine T_p xr_170_160 xn_170 (pc' := 162) (ls' := [(5, .int (iI k)), (4, .int (iI (X_at tb len k))), (3, .int (iI len)), (2, .int (iI k2)), (1, .int (iI n)), (0, .ref 530)]) (st' := [.int (iI 8), .int (iI (k2 - k))]) rfl ?_
                                  refine T_zicmp_le xr_170_162 (t := 167) (pc' := 165) rfl rfl (fun c1346 => ?_) (fun c1346 => ?_)
                                  · skip
                                    have c1346 : (k2 - k) ≤ 8 := c1346
                                    refine T_p xr_170_167 xn_170 (pc' := 168) (ls' := [(5, .int (iI k)), (4, .int (iI (X_at tb len k))), (3, .int (iI len)), (2, .int (iI k2)), (1, .int (iI n)), (0, .ref 530)]) (st' := [.ref 530]) rfl ?_
                                    refine T_get xr_170_168 h1053 rfl (v := .ref 549) rfl (pc' := 171) rfl ?_
                                    refine T_p xr_170_171 xn_170 (pc' := 172) (ls' := [(5, .int (iI k)), (4, .int (iI (X_at tb len k))), (3, .int (iI len)), (2, .int (iI k2)), (1, .int (iI n)), (0, .ref 530)]) (st' := [.int (iI n), .ref 549]) rfl ?_
                                    refine T_p xr_170_172 xn_170 (pc' := 173) (ls' := [(5, .int (iI k)), (4, .int (iI (X_at tb len k))), (3, .int (iI len)), (2, .int (iI k2)), (1, .int (iI n)), (0, .ref 530)]) (st' := [.long (iL 0), .int (iI n), .ref 549]) rfl ?_
                                    refine T_zlast xr_170_173 hnna (pc' := 174) rfl (fun S1347 h1348 n1349 e1350 => ?_)
                                    refine T_p xr_170_174 xn_170 (pc' := 175) (ls' := [(5, .int (iI k)), (4, .int (iI (X_at tb len k))), (3, .int (iI len)), (2, .int (iI k2)), (1, .int (iI n)), (0, .ref 530)]) (st' := [.ref 530]) rfl ?_
                                    have h1351 := (n1349 530 (by decide)).trans (h1053)
                                    refine T_get xr_170_175 h1351 rfl (v := .ref 551) rfl (pc' := 178) rfl ?_
                                    refine T_p xr_170_178 xn_170 (pc' := 179) (ls' := [(5, .int (iI k)), (4, .int (iI (X_at tb len k))), (3, .int (iI len)), (2, .int (iI k2)), (1, .int (iI n)), (0, .ref 530)]) (st' := [.int (iI n), .ref 551]) rfl ?_
                                    refine T_p xr_170_179 xn_170 (pc' := 180) (ls' := [(5, .int (iI k)), (4, .int (iI (X_at tb len k))), (3, .int (iI len)), (2, .int (iI k2)), (1, .int (iI n)), (0, .ref 530)]) (st' := [.int (iI 0), .int (iI n), .ref 551]) rfl ?_
                                    have h1352 := (n1349 551 (by decide)).trans (hnua)
                                    refine T_ziast xr_170_180 h1352 (pc' := 181) rfl (fun S1353 h1354 n1355 e1356 => ?_)
                                    refine T_p xr_170_181 xn_170 (pc' := 182) (ls' := [(5, .int (iI k)), (4, .int (iI (X_at tb len k))), (3, .int (iI len)), (2, .int (iI k2)), (1, .int (iI n)), (0, .ref 530)]) (st' := [.int (iI 1)]) rfl ?_
                                    refine T_p xr_170_182 xn_170 (pc' := 184) (ls' := [(6, .int (iI 1)), (5, .int (iI k)), (4, .int (iI (X_at tb len k))), (3, .int (iI len)), (2, .int (iI k2)), (1, .int (iI n)), (0, .ref 530)]) (st' := []) rfl ?_
                                    refine T_p xr_170_184 xn_170 (pc' := 186) (ls' := [(6, .int (iI 1)), (5, .int (iI k)), (4, .int (iI (X_at tb len k))), (3, .int (iI len)), (2, .int (iI k2)), (1, .int (iI n)), (0, .ref 530)]) (st' := [.int (iI k)]) rfl ?_
                                    refine T_p xr_170_186 xn_170 (pc' := 188) (ls' := [(7, .int (iI k)), (6, .int (iI 1)), (5, .int (iI k)), (4, .int (iI (X_at tb len k))), (3, .int (iI len)), (2, .int (iI k2)), (1, .int (iI n)), (0, .ref 530)]) (st' := []) rfl ?_
                                    have h1362 := (n1355 549 (by decide)).trans (h1348)
                                    have L1357 : ∀ (m1359 : Nat) (S1363 : X_S) (i : Int) (kz : Int) (pl : Int) (nn3 : Int → Int64) (nu3 : Int → Int) (hnn3 : S1363.1 549 = .inl (.long, 30, .inr (.inl fun k : Nat => nn3 (k : Int)))) (hnu3 : S1363.1 551 = .inl (.int, 30, .inl fun k : Nat => iI (nu3 (k : Int)))) (hF1361 : X_Fr (fun q => q = 549 ∨ q = 551) S1353 S1363) (hi : k ≤ i ∧ i ≤ kz ∧ kz - k ≤ 8) (hkz : k + 1 ≤ kz ∧ kz ≤ len) (hscz : ∀ q, k < q → q < kz → X_ct (X_at tb len q)) (hez : (X_ct (X_at tb len k) → kz < len → ¬ X_ct (X_at tb len kz)) ∧ (¬ X_ct (X_at tb len k) → kz = k + 1)) (hnn : nn3 n = X_pk tb len k (i - k).toNat) (hnu : nu3 n = X_rv tb len k (i - k).toNat) (hpl : (pl = 1 ∧ ¬ X_rv tb len k (i - k).toNat = -1) ∨ (pl = 0 ∧ X_rv tb len k (i - k).toNat = -1)) (hold : ∀ v, 0 ≤ v → v < n → nn3 v = t v ∧ nu3 v = X_nv (t v)) (hm1360 : len - i < m1359), X_T sc 170 (188, [(7, .int (iI i)), (6, .int (iI pl)), (5, .int (iI k)), (3, .int (iI len)), (2, .int (iI kz)), (1, .int (iI n)), (0, .ref 530)], [], S1363) Q := by
                                      intro m1359
                                      induction m1359 with
                                      | zero =>
                                        intro S1363 i kz pl nn3 nu3 hnn3 hnu3 hF1361 hi hkz hscz hez hnn hnu hpl hold hm1360
                                        exact (show False by omega).elim
                                      | succ m1359 ih1358 =>
                                        intro S1363 i kz pl nn3 nu3 hnn3 hnu3 hF1361 hi hkz hscz hez hnn hnu hpl hold hm1360
                                        have hrr := X_rv_r (tb := tb) (len := len) (p := k) (i - k).toNat (fun u g1 g2 => by have := X_at_in (tb := tb) (len := len) (p := k + u) (by omega); omega)
                                        have h10 : (10 : Nat) ^ (i - k).toNat ≤ 10 ^ 8 := Nat.pow_le_pow_right (by omega) (by omega)
                                        have h108 : (10 : Nat) ^ 8 = 100000000 := by decide
                                        refine T_p xr_170_188 xn_170 (pc' := 190) (ls' := [(7, .int (iI i)), (6, .int (iI pl)), (5, .int (iI k)), (3, .int (iI len)), (2, .int (iI kz)), (1, .int (iI n)), (0, .ref 530)]) (st' := [.int (iI i)]) rfl ?_
                                        refine T_p xr_170_190 xn_170 (pc' := 191) (ls' := [(7, .int (iI i)), (6, .int (iI pl)), (5, .int (iI k)), (3, .int (iI len)), (2, .int (iI kz)), (1, .int (iI n)), (0, .ref 530)]) (st' := [.int (iI kz), .int (iI i)]) rfl ?_
                                        refine T_zicmp_ge xr_170_191 (t := 284) (pc' := 194) rfl rfl (fun c1364 => ?_) (fun c1364 => ?_)
                                        · skip
                                          have c1364 : kz ≤ i := c1364
                                          have hpn : ∃ T z', X_sn tb len kz.toNat = some (n + 1, z', T) ∧ 0 ≤ z' ∧ (0 < z' → kz < len → ¬ X_ct (X_at tb len kz)) ∧ T n = X_pk tb len k (kz - k).toNat ∧ ∀ i, ¬ i = n → T i = t i := by
                                            by_cases hck : X_ct (X_at tb len k)
                                            · have hz0 : z = 0 := by
                                                by_cases hz : 0 < z
                                                · exact absurd hck (hX2 hz (by omega))
                                                · omega
                                              obtain ⟨T, a1, a2, a3⟩ := X_sn_m (by omega) hX1 (by omega) hck hz0 (kz - k).toNat (by omega) (by omega) (fun q h1 h2 => hscz q h1 (by omega))
                                              rw [show k + (((kz - k).toNat : Nat) : Int) = kz by omega] at a1
                                              exact ⟨T, _, a1, by omega, fun _ h1 => hez.1 hck h1, a2, a3⟩
                                            · have a1 := X_sn_f (by omega) hX1 (by omega) ⟨by unfold X_isBl; omega, by omega⟩ (fun _ => hck)
                                              have hbr : X_at tb len k = 40 ∨ X_at tb len k = 41 := by unfold X_ct at hck; omega
                                              have hkz := hez.2 hck
                                              rw [if_pos hbr] at a1
                                              rw [hkz]
                                              exact ⟨_, 0, a1, by omega, fun y => absurd y (by omega), by rw [X_ug_s, show (k + 1 - k).toNat = 1 by omega], fun i hi => X_ug_n _ _ hi⟩
                                          obtain ⟨T, z', b1, b2, b3, b4, b5⟩ := hpn
                                          have hnvk : X_nv (X_pk tb len k (kz - k).toNat) = X_rv tb len k (kz - k).toNat := X_nv_pk _ (by omega) (fun u h1 h2 => by
                                            have h3 := X_at_in (tb := tb) (len := len) (p := k + u) (by omega)
                                            by_cases hu : u = 0
                                            · subst hu; rw [show k + 0 = k by omega]; omega
                                            · have := hscz (k + u) (by omega) (by omega)
                                              unfold X_ct at this; omega)
                                          have hie : i = kz := by omega
                                          have hnew : ∃ z t, X_sn tb len kz.toNat = some (n + 1, z, t) ∧ 0 ≤ z ∧ (0 < z → kz < len → ¬ X_ct (X_at tb len kz)) ∧ ∀ v, 0 ≤ v → v < n + 1 → nn3 v = t v ∧ nu3 v = X_nv (t v) := ⟨z', T, b1, b2, b3, fun v h1 h2 => by
                                            by_cases hv : v = n
                                            · rw [hv, b4, hnvk, ← hie]; exact ⟨hnn, hnu⟩
                                            · rw [b5 v hv]; exact hold v h1 (by omega)⟩
                                          refine T_ziinc xr_170_284 xn_170 (a := n) (z := n + 1) rfl (Nat.le_of_ble_eq_true rfl) (by omega) (ls' := [(1, .int (iI (n + 1))), (7, .int (iI i)), (6, .int (iI pl)), (5, .int (iI k)), (3, .int (iI len)), (2, .int (iI kz)), (0, .ref 530)]) rfl (pc' := 287) rfl ?_
                                          refine T_p xr_170_287 xn_170 (pc' := 14) (ls' := [(1, .int (iI (n + 1))), (7, .int (iI i)), (6, .int (iI pl)), (5, .int (iI k)), (3, .int (iI len)), (2, .int (iI kz)), (0, .ref 530)]) (st' := []) rfl ?_
                                          refine T_sub (ls := [(3, .int (iI len)), (2, .int (iI kz)), (1, .int (iI (n + 1))), (0, .ref 530)]) ⟨rfl, rfl, rfl, rfl, trivial⟩ rfl rfl ?_
                                          exact ih971 S1363 (n + 1) kz nn3 nu3 hnn3 hnu3 (hF974.tr ((((X_Fr.rf).tr (X_Fr.of n1349 e1350 (by omega))).tr (X_Fr.of n1355 e1356 (by omega))).tr (X_Fr.mono ⟨hF1361.1, hF1361.2⟩ (fun q hq => (by omega))))) (by omega) (by omega) hnew (by omega)
                                        · skip
                                          have c1364 : ¬ (kz ≤ i) := c1364
                                          refine T_p xr_170_194 xn_170 (pc' := 195) (ls' := [(7, .int (iI i)), (6, .int (iI pl)), (5, .int (iI k)), (3, .int (iI len)), (2, .int (iI kz)), (1, .int (iI n)), (0, .ref 530)]) (st' := [.ref 530]) rfl ?_
                                          have h1365 := (hF1361.1 530 (by omega)).trans ((n1355 530 (by decide)).trans (h1351))
                                          refine T_get xr_170_195 h1365 rfl (v := .ref 549) rfl (pc' := 198) rfl ?_
                                          refine T_p xr_170_198 xn_170 (pc' := 199) (ls' := [(7, .int (iI i)), (6, .int (iI pl)), (5, .int (iI k)), (3, .int (iI len)), (2, .int (iI kz)), (1, .int (iI n)), (0, .ref 530)]) (st' := [.int (iI n), .ref 549]) rfl ?_
                                          refine T_p xr_170_199 xn_170 (pc' := 200) (ls' := [(7, .int (iI i)), (6, .int (iI pl)), (5, .int (iI k)), (3, .int (iI len)), (2, .int (iI kz)), (1, .int (iI n)), (0, .ref 530)]) (st' := [.ref 530, .int (iI n), .ref 549]) rfl ?_
                                          refine T_get xr_170_200 h1365 rfl (v := .ref 549) rfl (pc' := 203) rfl ?_
                                          refine T_p xr_170_203 xn_170 (pc' := 204) (ls' := [(7, .int (iI i)), (6, .int (iI pl)), (5, .int (iI k)), (3, .int (iI len)), (2, .int (iI kz)), (1, .int (iI n)), (0, .ref 530)]) (st' := [.int (iI n), .ref 549, .int (iI n), .ref 549]) rfl ?_
                                          refine T_zlald xr_170_204 hnn3 (pc' := 205) rfl ?_
                                          refine T_p xr_170_205 xn_170 (pc' := 207) (ls' := [(7, .int (iI i)), (6, .int (iI pl)), (5, .int (iI k)), (3, .int (iI len)), (2, .int (iI kz)), (1, .int (iI n)), (0, .ref 530)]) (st' := [.int (iI 8), .long (nn3 n), .int (iI n), .ref 549]) rfl ?_
                                          refine T_p xr_170_207 xn_170 (pc' := 208) (ls' := [(7, .int (iI i)), (6, .int (iI pl)), (5, .int (iI k)), (3, .int (iI len)), (2, .int (iI kz)), (1, .int (iI n)), (0, .ref 530)]) (st' := [.long ((nn3 n) <<< ((iI 8).toInt64 &&& 63)), .int (iI n), .ref 549]) rfl ?_
                                          refine T_p xr_170_208 xn_170 (pc' := 209) (ls' := [(7, .int (iI i)), (6, .int (iI pl)), (5, .int (iI k)), (3, .int (iI len)), (2, .int (iI kz)), (1, .int (iI n)), (0, .ref 530)]) (st' := [.ref 530, .long ((nn3 n) <<< ((iI 8).toInt64 &&& 63)), .int (iI n), .ref 549]) rfl ?_
                                          refine T_get xr_170_209 h1365 rfl (v := .ref 531) rfl (pc' := 212) rfl ?_
                                          refine T_p xr_170_212 xn_170 (pc' := 214) (ls' := [(7, .int (iI i)), (6, .int (iI pl)), (5, .int (iI k)), (3, .int (iI len)), (2, .int (iI kz)), (1, .int (iI n)), (0, .ref 530)]) (st' := [.int (iI i), .ref 531, .long ((nn3 n) <<< ((iI 8).toInt64 &&& 63)), .int (iI n), .ref 549]) rfl ?_
                                          have h1366 := (hF1361.1 531 (by omega)).trans ((n1355 531 (by decide)).trans ((n1349 531 (by decide)).trans (h1054)))
                                          refine T_zbald xr_170_214 h1366 (pc' := 215) rfl ?_
                                          have hti := htp i (by omega) (by omega)
                                          have hai : X_at tb len i = tb i % 256 := X_at_in (by omega)
                                          have hci : 33 ≤ X_at tb len i ∧ X_at tb len i ≤ 126 := by
                                            by_cases hik : i = k
                                            · rw [hik]; omega
                                            · have hu := hscz i (by omega) (by omega)
                                              unfold X_ct at hu; omega
                                          refine T_ie (y := iI (X_at tb len i)) (by congr 1; omega) ?_
                                          refine T_p xr_170_215 xn_170 (pc' := 216) (ls' := [(7, .int (iI i)), (6, .int (iI pl)), (5, .int (iI k)), (3, .int (iI len)), (2, .int (iI kz)), (1, .int (iI n)), (0, .ref 530)]) (st' := [.long ((iI (X_at tb len i)).toInt64), .long ((nn3 n) <<< ((iI 8).toInt64 &&& 63)), .int (iI n), .ref 549]) rfl ?_
                                          refine T_p xr_170_216 xn_170 (pc' := 217) (ls' := [(7, .int (iI i)), (6, .int (iI pl)), (5, .int (iI k)), (3, .int (iI len)), (2, .int (iI kz)), (1, .int (iI n)), (0, .ref 530)]) (st' := [.long (((nn3 n) <<< ((iI 8).toInt64 &&& 63)) ||| ((iI (X_at tb len i)).toInt64)), .int (iI n), .ref 549]) rfl ?_
                                          refine T_zlast xr_170_217 hnn3 (pc' := 218) rfl (fun S1367 h1368 n1369 e1370 => ?_)
                                          refine T_p xr_170_218 xn_170 (pc' := 220) (ls' := [(7, .int (iI i)), (6, .int (iI pl)), (5, .int (iI k)), (3, .int (iI len)), (2, .int (iI kz)), (1, .int (iI n)), (0, .ref 530)]) (st' := [.int (iI pl)]) rfl ?_
                                          refine T_zif_eq xr_170_220 (t := 240) (pc' := 223) rfl rfl (fun c1371 => ?_) (fun c1371 => ?_)
                                          · skip
                                            have c1371 : pl = 0 := c1371
                                            refine T_p xr_170_240 xn_170 (pc' := 241) (ls' := [(7, .int (iI i)), (6, .int (iI pl)), (5, .int (iI k)), (3, .int (iI len)), (2, .int (iI kz)), (1, .int (iI n)), (0, .ref 530)]) (st' := [.int (iI 0)]) rfl ?_
                                            refine T_p xr_170_241 xn_170 (pc' := 243) (ls' := [(6, .int (iI 0)), (7, .int (iI i)), (5, .int (iI k)), (3, .int (iI len)), (2, .int (iI kz)), (1, .int (iI n)), (0, .ref 530)]) (st' := []) rfl ?_
                                            refine T_p xr_170_243 xn_170 (pc' := 244) (ls' := [(6, .int (iI 0)), (7, .int (iI i)), (5, .int (iI k)), (3, .int (iI len)), (2, .int (iI kz)), (1, .int (iI n)), (0, .ref 530)]) (st' := [.ref 530]) rfl ?_
                                            have h1372 := (n1369 530 (by decide)).trans (h1365)
                                            refine T_get xr_170_244 h1372 rfl (v := .ref 551) rfl (pc' := 247) rfl ?_
                                            refine T_p xr_170_247 xn_170 (pc' := 248) (ls' := [(6, .int (iI 0)), (7, .int (iI i)), (5, .int (iI k)), (3, .int (iI len)), (2, .int (iI kz)), (1, .int (iI n)), (0, .ref 530)]) (st' := [.int (iI n), .ref 551]) rfl ?_
                                            refine T_p xr_170_248 xn_170 (pc' := 250) (ls' := [(6, .int (iI 0)), (7, .int (iI i)), (5, .int (iI k)), (3, .int (iI len)), (2, .int (iI kz)), (1, .int (iI n)), (0, .ref 530)]) (st' := [.int (iI 0), .int (iI n), .ref 551]) rfl ?_
                                            refine T_zif_eqt xr_170_250 (t := 276) rfl (by decide) ?_
                                            refine T_p xr_170_276 xn_170 (pc' := 277) (ls' := [(6, .int (iI 0)), (7, .int (iI i)), (5, .int (iI k)), (3, .int (iI len)), (2, .int (iI kz)), (1, .int (iI n)), (0, .ref 530)]) (st' := [.int (iI (-1)), .int (iI n), .ref 551]) rfl ?_
                                            have h1373 := (n1369 551 (by decide)).trans (hnu3)
                                            refine T_ziast xr_170_277 h1373 (pc' := 278) rfl (fun S1374 h1375 n1376 e1377 => ?_)
                                            refine T_ziinc xr_170_278 xn_170 (a := i) (z := i + 1) rfl (Nat.le_of_ble_eq_true rfl) (by omega) (ls' := [(7, .int (iI (i + 1))), (6, .int (iI 0)), (5, .int (iI k)), (3, .int (iI len)), (2, .int (iI kz)), (1, .int (iI n)), (0, .ref 530)]) rfl (pc' := 281) rfl ?_
                                            refine T_p xr_170_281 xn_170 (pc' := 188) (ls' := [(7, .int (iI (i + 1))), (6, .int (iI 0)), (5, .int (iI k)), (3, .int (iI len)), (2, .int (iI kz)), (1, .int (iI n)), (0, .ref 530)]) (st' := []) rfl ?_
                                            have h1378 := (n1376 549 (by decide)).trans (h1368)
                                            exact ih1358 S1374 (i + 1) kz 0 (X_ug nn3 n (((nn3 n) <<< ((iI 8).toInt64 &&& 63)) ||| ((iI (X_at tb len i)).toInt64))) (X_ug nu3 n (-1)) h1378 h1375 (hF1361.tr (((X_Fr.rf).tr (X_Fr.of n1369 e1370 (by omega))).tr (X_Fr.of n1376 e1377 (by omega)))) (by omega) (by omega) hscz hez (by rw [X_ug_s, X_pk_s (by omega), ← hnn]; rfl) (by
                                                  rw [X_ug_s, X_rv_s (by omega)]
                                                  first
                                                  | (have hd : X_isD (X_at tb len i) := by assumption
                                                     unfold X_isD at hd
                                                     (repeat' split) <;> omega)
                                                  | (have hd : ¬ X_isD (X_at tb len i) := by assumption
                                                     unfold X_isD at hd
                                                     (repeat' split) <;> omega)
                                                  | ((repeat' split) <;> omega)) (by
                                                  rw [X_rv_s (by omega)]
                                                  first
                                                  | (have hd : X_isD (X_at tb len i) := by assumption
                                                     unfold X_isD at hd
                                                     (repeat' split) <;> omega)
                                                  | (have hd : ¬ X_isD (X_at tb len i) := by assumption
                                                     unfold X_isD at hd
                                                     (repeat' split) <;> omega)
                                                  | ((repeat' split) <;> omega)) (fun v h1 h2 => by rw [X_ug_n _ _ (by omega), X_ug_n _ _ (by omega)]; exact hold v h1 h2) (by omega)
                                          · skip
                                            have c1371 : ¬ (pl = 0) := c1371
                                            refine T_p xr_170_223 xn_170 (pc' := 224) (ls' := [(7, .int (iI i)), (6, .int (iI pl)), (5, .int (iI k)), (3, .int (iI len)), (2, .int (iI kz)), (1, .int (iI n)), (0, .ref 530)]) (st' := [.ref 530]) rfl ?_
                                            have h1379 := (n1369 530 (by decide)).trans (h1365)
                                            refine T_get xr_170_224 h1379 rfl (v := .ref 531) rfl (pc' := 227) rfl ?_
                                            refine T_p xr_170_227 xn_170 (pc' := 229) (ls' := [(7, .int (iI i)), (6, .int (iI pl)), (5, .int (iI k)), (3, .int (iI len)), (2, .int (iI kz)), (1, .int (iI n)), (0, .ref 530)]) (st' := [.int (iI i), .ref 531]) rfl ?_
                                            have h1380 := (n1369 531 (by decide)).trans (h1366)
                                            refine T_zbald xr_170_229 h1380 (pc' := 230) rfl ?_
                                            refine T_ie (y := iI (X_at tb len i)) (by congr 1; omega) ?_
                                            refine T_cs xr_170_230 (by decide) xf_138.1 xn_138 (as := [.int (iI (X_at tb len i))]) (r := []) rfl (Nat.le_of_ble_eq_true rfl) (Nat.le_of_ble_eq_true rfl) (pc' := 233) rfl (ls' := [(0, .int (iI (X_at tb len i)))]) rfl ?_
                                            refine T_p xr_138_0 xn_138 (pc' := 1) (ls' := [(0, .int (iI (X_at tb len i)))]) (st' := [.int (iI (X_at tb len i))]) rfl ?_
                                            refine T_p xr_138_1 xn_138 (pc' := 3) (ls' := [(0, .int (iI (X_at tb len i)))]) (st' := [.int (iI 48), .int (iI (X_at tb len i))]) rfl ?_
                                            refine T_zicmp_lt xr_138_3 (t := 16) (pc' := 6) rfl rfl (fun c1381 => ?_) (fun c1381 => ?_)
                                            · skip
                                              have c1381 : (X_at tb len i) < 48 := c1381
                                              refine T_p xr_138_16 xn_138 (pc' := 17) (ls' := [(0, .int (iI (X_at tb len i)))]) (st' := [.int (iI 0)]) rfl ?_
                                              refine T_iret xr_138_17 xf_138.2.2 (by decide) ?_
                                              show X_T sc 170 (233, [(7, .int (iI i)), (6, .int (iI pl)), (5, .int (iI k)), (3, .int (iI len)), (2, .int (iI kz)), (1, .int (iI n)), (0, .ref 530)], [.int (iI 0)], S1367) _
                                              refine T_zif_eqt xr_170_233 (t := 240) rfl (by decide) ?_
                                              refine T_p xr_170_240 xn_170 (pc' := 241) (ls' := [(7, .int (iI i)), (6, .int (iI pl)), (5, .int (iI k)), (3, .int (iI len)), (2, .int (iI kz)), (1, .int (iI n)), (0, .ref 530)]) (st' := [.int (iI 0)]) rfl ?_
                                              refine T_p xr_170_241 xn_170 (pc' := 243) (ls' := [(6, .int (iI 0)), (7, .int (iI i)), (5, .int (iI k)), (3, .int (iI len)), (2, .int (iI kz)), (1, .int (iI n)), (0, .ref 530)]) (st' := []) rfl ?_
                                              refine T_p xr_170_243 xn_170 (pc' := 244) (ls' := [(6, .int (iI 0)), (7, .int (iI i)), (5, .int (iI k)), (3, .int (iI len)), (2, .int (iI kz)), (1, .int (iI n)), (0, .ref 530)]) (st' := [.ref 530]) rfl ?_
                                              refine T_get xr_170_244 h1379 rfl (v := .ref 551) rfl (pc' := 247) rfl ?_
                                              refine T_p xr_170_247 xn_170 (pc' := 248) (ls' := [(6, .int (iI 0)), (7, .int (iI i)), (5, .int (iI k)), (3, .int (iI len)), (2, .int (iI kz)), (1, .int (iI n)), (0, .ref 530)]) (st' := [.int (iI n), .ref 551]) rfl ?_
                                              refine T_p xr_170_248 xn_170 (pc' := 250) (ls' := [(6, .int (iI 0)), (7, .int (iI i)), (5, .int (iI k)), (3, .int (iI len)), (2, .int (iI kz)), (1, .int (iI n)), (0, .ref 530)]) (st' := [.int (iI 0), .int (iI n), .ref 551]) rfl ?_
                                              refine T_zif_eqt xr_170_250 (t := 276) rfl (by decide) ?_
                                              refine T_p xr_170_276 xn_170 (pc' := 277) (ls' := [(6, .int (iI 0)), (7, .int (iI i)), (5, .int (iI k)), (3, .int (iI len)), (2, .int (iI kz)), (1, .int (iI n)), (0, .ref 530)]) (st' := [.int (iI (-1)), .int (iI n), .ref 551]) rfl ?_
                                              have h1382 := (n1369 551 (by decide)).trans (hnu3)
                                              refine T_ziast xr_170_277 h1382 (pc' := 278) rfl (fun S1383 h1384 n1385 e1386 => ?_)
                                              refine T_ziinc xr_170_278 xn_170 (a := i) (z := i + 1) rfl (Nat.le_of_ble_eq_true rfl) (by omega) (ls' := [(7, .int (iI (i + 1))), (6, .int (iI 0)), (5, .int (iI k)), (3, .int (iI len)), (2, .int (iI kz)), (1, .int (iI n)), (0, .ref 530)]) rfl (pc' := 281) rfl ?_
                                              refine T_p xr_170_281 xn_170 (pc' := 188) (ls' := [(7, .int (iI (i + 1))), (6, .int (iI 0)), (5, .int (iI k)), (3, .int (iI len)), (2, .int (iI kz)), (1, .int (iI n)), (0, .ref 530)]) (st' := []) rfl ?_
                                              have h1387 := (n1385 549 (by decide)).trans (h1368)
                                              exact ih1358 S1383 (i + 1) kz 0 (X_ug nn3 n (((nn3 n) <<< ((iI 8).toInt64 &&& 63)) ||| ((iI (X_at tb len i)).toInt64))) (X_ug nu3 n (-1)) h1387 h1384 (hF1361.tr (((X_Fr.rf).tr (X_Fr.of n1369 e1370 (by omega))).tr (X_Fr.of n1385 e1386 (by omega)))) (by omega) (by omega) hscz hez (by rw [X_ug_s, X_pk_s (by omega), ← hnn]; rfl) (by
                                                    rw [X_ug_s, X_rv_s (by omega)]
                                                    first
                                                    | (have hd : X_isD (X_at tb len i) := by assumption
                                                       unfold X_isD at hd
                                                       (repeat' split) <;> omega)
                                                    | (have hd : ¬ X_isD (X_at tb len i) := by assumption
                                                       unfold X_isD at hd
                                                       (repeat' split) <;> omega)
                                                    | ((repeat' split) <;> omega)) (by
                                                    rw [X_rv_s (by omega)]
                                                    first
                                                    | (have hd : X_isD (X_at tb len i) := by assumption
                                                       unfold X_isD at hd
                                                       (repeat' split) <;> omega)
                                                    | (have hd : ¬ X_isD (X_at tb len i) := by assumption
                                                       unfold X_isD at hd
                                                       (repeat' split) <;> omega)
                                                    | ((repeat' split) <;> omega)) (fun v h1 h2 => by rw [X_ug_n _ _ (by omega), X_ug_n _ _ (by omega)]; exact hold v h1 h2) (by omega)
                                            · skip
                                              have c1381 : ¬ ((X_at tb len i) < 48) := c1381
                                              refine T_p xr_138_6 xn_138 (pc' := 7) (ls' := [(0, .int (iI (X_at tb len i)))]) (st' := [.int (iI (X_at tb len i))]) rfl ?_
                                              refine T_p xr_138_7 xn_138 (pc' := 9) (ls' := [(0, .int (iI (X_at tb len i)))]) (st' := [.int (iI 57), .int (iI (X_at tb len i))]) rfl ?_
                                              refine T_zicmp_gt xr_138_9 (t := 16) (pc' := 12) rfl rfl (fun c1388 => ?_) (fun c1388 => ?_)
                                              · skip
                                                have c1388 : 57 < (X_at tb len i) := c1388
                                                refine T_p xr_138_16 xn_138 (pc' := 17) (ls' := [(0, .int (iI (X_at tb len i)))]) (st' := [.int (iI 0)]) rfl ?_
                                                refine T_iret xr_138_17 xf_138.2.2 (by decide) ?_
                                                show X_T sc 170 (233, [(7, .int (iI i)), (6, .int (iI pl)), (5, .int (iI k)), (3, .int (iI len)), (2, .int (iI kz)), (1, .int (iI n)), (0, .ref 530)], [.int (iI 0)], S1367) _
                                                refine T_zif_eqt xr_170_233 (t := 240) rfl (by decide) ?_
                                                refine T_p xr_170_240 xn_170 (pc' := 241) (ls' := [(7, .int (iI i)), (6, .int (iI pl)), (5, .int (iI k)), (3, .int (iI len)), (2, .int (iI kz)), (1, .int (iI n)), (0, .ref 530)]) (st' := [.int (iI 0)]) rfl ?_
                                                refine T_p xr_170_241 xn_170 (pc' := 243) (ls' := [(6, .int (iI 0)), (7, .int (iI i)), (5, .int (iI k)), (3, .int (iI len)), (2, .int (iI kz)), (1, .int (iI n)), (0, .ref 530)]) (st' := []) rfl ?_
                                                refine T_p xr_170_243 xn_170 (pc' := 244) (ls' := [(6, .int (iI 0)), (7, .int (iI i)), (5, .int (iI k)), (3, .int (iI len)), (2, .int (iI kz)), (1, .int (iI n)), (0, .ref 530)]) (st' := [.ref 530]) rfl ?_
                                                refine T_get xr_170_244 h1379 rfl (v := .ref 551) rfl (pc' := 247) rfl ?_
                                                refine T_p xr_170_247 xn_170 (pc' := 248) (ls' := [(6, .int (iI 0)), (7, .int (iI i)), (5, .int (iI k)), (3, .int (iI len)), (2, .int (iI kz)), (1, .int (iI n)), (0, .ref 530)]) (st' := [.int (iI n), .ref 551]) rfl ?_
                                                refine T_p xr_170_248 xn_170 (pc' := 250) (ls' := [(6, .int (iI 0)), (7, .int (iI i)), (5, .int (iI k)), (3, .int (iI len)), (2, .int (iI kz)), (1, .int (iI n)), (0, .ref 530)]) (st' := [.int (iI 0), .int (iI n), .ref 551]) rfl ?_
                                                refine T_zif_eqt xr_170_250 (t := 276) rfl (by decide) ?_
                                                refine T_p xr_170_276 xn_170 (pc' := 277) (ls' := [(6, .int (iI 0)), (7, .int (iI i)), (5, .int (iI k)), (3, .int (iI len)), (2, .int (iI kz)), (1, .int (iI n)), (0, .ref 530)]) (st' := [.int (iI (-1)), .int (iI n), .ref 551]) rfl ?_
                                                have h1389 := (n1369 551 (by decide)).trans (hnu3)
                                                refine T_ziast xr_170_277 h1389 (pc' := 278) rfl (fun S1390 h1391 n1392 e1393 => ?_)
                                                refine T_ziinc xr_170_278 xn_170 (a := i) (z := i + 1) rfl (Nat.le_of_ble_eq_true rfl) (by omega) (ls' := [(7, .int (iI (i + 1))), (6, .int (iI 0)), (5, .int (iI k)), (3, .int (iI len)), (2, .int (iI kz)), (1, .int (iI n)), (0, .ref 530)]) rfl (pc' := 281) rfl ?_
                                                refine T_p xr_170_281 xn_170 (pc' := 188) (ls' := [(7, .int (iI (i + 1))), (6, .int (iI 0)), (5, .int (iI k)), (3, .int (iI len)), (2, .int (iI kz)), (1, .int (iI n)), (0, .ref 530)]) (st' := []) rfl ?_
                                                have h1394 := (n1392 549 (by decide)).trans (h1368)
                                                exact ih1358 S1390 (i + 1) kz 0 (X_ug nn3 n (((nn3 n) <<< ((iI 8).toInt64 &&& 63)) ||| ((iI (X_at tb len i)).toInt64))) (X_ug nu3 n (-1)) h1394 h1391 (hF1361.tr (((X_Fr.rf).tr (X_Fr.of n1369 e1370 (by omega))).tr (X_Fr.of n1392 e1393 (by omega)))) (by omega) (by omega) hscz hez (by rw [X_ug_s, X_pk_s (by omega), ← hnn]; rfl) (by
                                                      rw [X_ug_s, X_rv_s (by omega)]
                                                      first
                                                      | (have hd : X_isD (X_at tb len i) := by assumption
                                                         unfold X_isD at hd
                                                         (repeat' split) <;> omega)
                                                      | (have hd : ¬ X_isD (X_at tb len i) := by assumption
                                                         unfold X_isD at hd
                                                         (repeat' split) <;> omega)
                                                      | ((repeat' split) <;> omega)) (by
                                                      rw [X_rv_s (by omega)]
                                                      first
                                                      | (have hd : X_isD (X_at tb len i) := by assumption
                                                         unfold X_isD at hd
                                                         (repeat' split) <;> omega)
                                                      | (have hd : ¬ X_isD (X_at tb len i) := by assumption
                                                         unfold X_isD at hd
                                                         (repeat' split) <;> omega)
                                                      | ((repeat' split) <;> omega)) (fun v h1 h2 => by rw [X_ug_n _ _ (by omega), X_ug_n _ _ (by omega)]; exact hold v h1 h2) (by omega)
                                              · skip
                                                have c1388 : ¬ (57 < (X_at tb len i)) := c1388
                                                refine T_p xr_138_12 xn_138 (pc' := 13) (ls' := [(0, .int (iI (X_at tb len i)))]) (st' := [.int (iI 1)]) rfl ?_
                                                refine T_p xr_138_13 xn_138 (pc' := 17) (ls' := [(0, .int (iI (X_at tb len i)))]) (st' := [.int (iI 1)]) rfl ?_
                                                refine T_iret xr_138_17 xf_138.2.2 (by decide) ?_
                                                show X_T sc 170 (233, [(7, .int (iI i)), (6, .int (iI pl)), (5, .int (iI k)), (3, .int (iI len)), (2, .int (iI kz)), (1, .int (iI n)), (0, .ref 530)], [.int (iI 1)], S1367) _
                                                refine T_zif_eqf xr_170_233 (t := 240) (pc' := 236) rfl rfl (by decide) ?_
                                                refine T_p xr_170_236 xn_170 (pc' := 237) (ls' := [(7, .int (iI i)), (6, .int (iI pl)), (5, .int (iI k)), (3, .int (iI len)), (2, .int (iI kz)), (1, .int (iI n)), (0, .ref 530)]) (st' := [.int (iI 1)]) rfl ?_
                                                refine T_p xr_170_237 xn_170 (pc' := 241) (ls' := [(7, .int (iI i)), (6, .int (iI pl)), (5, .int (iI k)), (3, .int (iI len)), (2, .int (iI kz)), (1, .int (iI n)), (0, .ref 530)]) (st' := [.int (iI 1)]) rfl ?_
                                                refine T_p xr_170_241 xn_170 (pc' := 243) (ls' := [(6, .int (iI 1)), (7, .int (iI i)), (5, .int (iI k)), (3, .int (iI len)), (2, .int (iI kz)), (1, .int (iI n)), (0, .ref 530)]) (st' := []) rfl ?_
                                                refine T_p xr_170_243 xn_170 (pc' := 244) (ls' := [(6, .int (iI 1)), (7, .int (iI i)), (5, .int (iI k)), (3, .int (iI len)), (2, .int (iI kz)), (1, .int (iI n)), (0, .ref 530)]) (st' := [.ref 530]) rfl ?_
                                                refine T_get xr_170_244 h1379 rfl (v := .ref 551) rfl (pc' := 247) rfl ?_
                                                refine T_p xr_170_247 xn_170 (pc' := 248) (ls' := [(6, .int (iI 1)), (7, .int (iI i)), (5, .int (iI k)), (3, .int (iI len)), (2, .int (iI kz)), (1, .int (iI n)), (0, .ref 530)]) (st' := [.int (iI n), .ref 551]) rfl ?_
                                                refine T_p xr_170_248 xn_170 (pc' := 250) (ls' := [(6, .int (iI 1)), (7, .int (iI i)), (5, .int (iI k)), (3, .int (iI len)), (2, .int (iI kz)), (1, .int (iI n)), (0, .ref 530)]) (st' := [.int (iI 1), .int (iI n), .ref 551]) rfl ?_
                                                refine T_zif_eqf xr_170_250 (t := 276) (pc' := 253) rfl rfl (by decide) ?_
                                                refine T_p xr_170_253 xn_170 (pc' := 255) (ls' := [(6, .int (iI 1)), (7, .int (iI i)), (5, .int (iI k)), (3, .int (iI len)), (2, .int (iI kz)), (1, .int (iI n)), (0, .ref 530)]) (st' := [.int (iI 10), .int (iI n), .ref 551]) rfl ?_
                                                refine T_p xr_170_255 xn_170 (pc' := 256) (ls' := [(6, .int (iI 1)), (7, .int (iI i)), (5, .int (iI k)), (3, .int (iI len)), (2, .int (iI kz)), (1, .int (iI n)), (0, .ref 530)]) (st' := [.ref 530, .int (iI 10), .int (iI n), .ref 551]) rfl ?_
                                                refine T_get xr_170_256 h1379 rfl (v := .ref 551) rfl (pc' := 259) rfl ?_
                                                refine T_p xr_170_259 xn_170 (pc' := 260) (ls' := [(6, .int (iI 1)), (7, .int (iI i)), (5, .int (iI k)), (3, .int (iI len)), (2, .int (iI kz)), (1, .int (iI n)), (0, .ref 530)]) (st' := [.int (iI n), .ref 551, .int (iI 10), .int (iI n), .ref 551]) rfl ?_
                                                have h1395 := (n1369 551 (by decide)).trans (hnu3)
                                                refine T_ziald xr_170_260 h1395 (pc' := 261) rfl ?_
                                                refine T_zimul xr_170_261 (z := 10 * (nu3 n)) rfl (pc' := 262) rfl ?_
                                                refine T_p xr_170_262 xn_170 (pc' := 263) (ls' := [(6, .int (iI 1)), (7, .int (iI i)), (5, .int (iI k)), (3, .int (iI len)), (2, .int (iI kz)), (1, .int (iI n)), (0, .ref 530)]) (st' := [.ref 530, .int (iI (10 * (nu3 n))), .int (iI n), .ref 551]) rfl ?_
                                                refine T_get xr_170_263 h1379 rfl (v := .ref 531) rfl (pc' := 266) rfl ?_
                                                refine T_p xr_170_266 xn_170 (pc' := 268) (ls' := [(6, .int (iI 1)), (7, .int (iI i)), (5, .int (iI k)), (3, .int (iI len)), (2, .int (iI kz)), (1, .int (iI n)), (0, .ref 530)]) (st' := [.int (iI i), .ref 531, .int (iI (10 * (nu3 n))), .int (iI n), .ref 551]) rfl ?_
                                                refine T_zbald xr_170_268 h1380 (pc' := 269) rfl ?_
                                                refine T_ie (y := iI (X_at tb len i)) (by congr 1; omega) ?_
                                                refine T_ziadd xr_170_269 (z := (10 * (nu3 n)) + (X_at tb len i)) rfl (pc' := 270) rfl ?_
                                                refine T_p xr_170_270 xn_170 (pc' := 272) (ls' := [(6, .int (iI 1)), (7, .int (iI i)), (5, .int (iI k)), (3, .int (iI len)), (2, .int (iI kz)), (1, .int (iI n)), (0, .ref 530)]) (st' := [.int (iI 48), .int (iI ((10 * (nu3 n)) + (X_at tb len i))), .int (iI n), .ref 551]) rfl ?_
                                                refine T_zisub xr_170_272 (z := ((10 * (nu3 n)) + (X_at tb len i)) - 48) rfl (pc' := 273) rfl ?_
                                                refine T_p xr_170_273 xn_170 (pc' := 277) (ls' := [(6, .int (iI 1)), (7, .int (iI i)), (5, .int (iI k)), (3, .int (iI len)), (2, .int (iI kz)), (1, .int (iI n)), (0, .ref 530)]) (st' := [.int (iI (((10 * (nu3 n)) + (X_at tb len i)) - 48)), .int (iI n), .ref 551]) rfl ?_
                                                refine T_ziast xr_170_277 h1395 (pc' := 278) rfl (fun S1396 h1397 n1398 e1399 => ?_)
                                                refine T_ziinc xr_170_278 xn_170 (a := i) (z := i + 1) rfl (Nat.le_of_ble_eq_true rfl) (by omega) (ls' := [(7, .int (iI (i + 1))), (6, .int (iI 1)), (5, .int (iI k)), (3, .int (iI len)), (2, .int (iI kz)), (1, .int (iI n)), (0, .ref 530)]) rfl (pc' := 281) rfl ?_
                                                refine T_p xr_170_281 xn_170 (pc' := 188) (ls' := [(7, .int (iI (i + 1))), (6, .int (iI 1)), (5, .int (iI k)), (3, .int (iI len)), (2, .int (iI kz)), (1, .int (iI n)), (0, .ref 530)]) (st' := []) rfl ?_
                                                have h1400 := (n1398 549 (by decide)).trans (h1368)
                                                exact ih1358 S1396 (i + 1) kz 1 (X_ug nn3 n (((nn3 n) <<< ((iI 8).toInt64 &&& 63)) ||| ((iI (X_at tb len i)).toInt64))) (X_ug nu3 n (((10 * (nu3 n)) + (X_at tb len i)) - 48)) h1400 h1397 (hF1361.tr (((X_Fr.rf).tr (X_Fr.of n1369 e1370 (by omega))).tr (X_Fr.of n1398 e1399 (by omega)))) (by omega) (by omega) hscz hez (by rw [X_ug_s, X_pk_s (by omega), ← hnn]; rfl) (by
                                                      rw [X_ug_s, X_rv_s (by omega)]
                                                      first
                                                      | (have hd : X_isD (X_at tb len i) := by assumption
                                                         unfold X_isD at hd
                                                         (repeat' split) <;> omega)
                                                      | (have hd : ¬ X_isD (X_at tb len i) := by assumption
                                                         unfold X_isD at hd
                                                         (repeat' split) <;> omega)
                                                      | ((repeat' split) <;> omega)) (by
                                                      rw [X_rv_s (by omega)]
                                                      first
                                                      | (have hd : X_isD (X_at tb len i) := by assumption
                                                         unfold X_isD at hd
                                                         (repeat' split) <;> omega)
                                                      | (have hd : ¬ X_isD (X_at tb len i) := by assumption
                                                         unfold X_isD at hd
                                                         (repeat' split) <;> omega)
                                                      | ((repeat' split) <;> omega)) (fun v h1 h2 => by rw [X_ug_n _ _ (by omega), X_ug_n _ _ (by omega)]; exact hold v h1 h2) (by omega)
                                    refine T_sub (ls := [(7, .int (iI k)), (6, .int (iI 1)), (5, .int (iI k)), (3, .int (iI len)), (2, .int (iI k2)), (1, .int (iI n)), (0, .ref 530)]) ⟨rfl, rfl, rfl, rfl, rfl, rfl, rfl, trivial⟩ rfl rfl ?_
                                    exact L1357 (len + 1).toNat S1353 k k2 1 (X_ug nna n (iL 0)) (X_ug nua n 0) h1362 h1354 ((X_Fr.rf)) (by omega) (by omega) (fun q h1 h2 => by first | exact hscan q h1 h2 | exact absurd h2 (by omega)) ⟨fun h1 h2 => by unfold X_ct at *; omega, fun h1 => by unfold X_ct at h1; omega⟩ (by rw [X_ug_s, show (k - k).toNat = 0 by omega]; rfl) (by rw [X_ug_s, show (k - k).toNat = 0 by omega]; rfl) (Or.inl ⟨rfl, by rw [show (k - k).toNat = 0 by omega]; exact (show ¬ (0 : Int) = -1 by omega)⟩) (fun v h1 h2 => by rw [X_ug_n _ _ (by omega), X_ug_n _ _ (by omega)]; exact hX3 v h1 h2) (by omega)
                                  · skip
                                    have c1346 : ¬ ((k2 - k) ≤ 8) := c1346
                                    have hnone : X_sn tb len len.toNat = none := by
                                      first
                                      | (exfalso; omega)
                                      | (have hck : X_ct (X_at tb len k) := by unfold X_ct; omega
                                         refine X_sn_9 (f := k) (by omega) hX1 (by omega) hck ?_ (fun q h1 h2 => hscan q h1 (by omega)) (by omega)
                                         by_cases hz : 0 < z
                                         · exact absurd hck (hX2 hz (by omega))
                                         · omega)
                                    refine T_p xr_170_165 xn_170 (pc' := 166) (ls' := [(5, .int (iI k)), (4, .int (iI (X_at tb len k))), (3, .int (iI len)), (2, .int (iI k2)), (1, .int (iI n)), (0, .ref 530)]) (st' := [.int (iI (-1))]) rfl ?_
                                    refine T_iret xr_170_166 xf_170.2.2 rfl ?_
                                    refine hQ _ _ ?_
                                    exact Or.inl ⟨nna, nua, rfl, hnone, h1053, hnna, hnua, ((X_Fr.rf).tr (X_Fr.of n968 e969 (by omega))).tr (X_Fr.mono ⟨hF974.1, hF974.2⟩ (fun q hq => (by omega)))⟩
                                · skip
                                  have c1345 : ¬ ((tb k2) = 40) := c1345
                                  refine T_p xr_170_139 xn_170 (pc' := 140) (ls' := [(5, .int (iI k)), (4, .int (iI (X_at tb len k))), (3, .int (iI len)), (2, .int (iI k2)), (1, .int (iI n)), (0, .ref 530)]) (st' := [.ref 530]) rfl ?_
                                  refine T_get xr_170_140 h1053 rfl (v := .ref 531) rfl (pc' := 143) rfl ?_
                                  refine T_p xr_170_143 xn_170 (pc' := 144) (ls' := [(5, .int (iI k)), (4, .int (iI (X_at tb len k))), (3, .int (iI len)), (2, .int (iI k2)), (1, .int (iI n)), (0, .ref 530)]) (st' := [.int (iI k2), .ref 531]) rfl ?_
                                  refine T_zbald xr_170_144 h1054 (pc' := 145) rfl ?_
                                  refine T_ie (y := iI (tb k2)) (by rw [ht2.1]) ?_
                                  refine T_p xr_170_145 xn_170 (pc' := 147) (ls' := [(5, .int (iI k)), (4, .int (iI (X_at tb len k))), (3, .int (iI len)), (2, .int (iI k2)), (1, .int (iI n)), (0, .ref 530)]) (st' := [.int (iI 41), .int (iI (tb k2))]) rfl ?_
                                  refine T_zicmp_eq xr_170_147 (t := 156) (pc' := 150) rfl rfl (fun c1401 => ?_) (fun c1401 => ?_)
                                  · skip
                                    have c1401 : (tb k2) = 41 := c1401
                                    refine T_p xr_170_156 xn_170 (pc' := 157) (ls' := [(5, .int (iI k)), (4, .int (iI (X_at tb len k))), (3, .int (iI len)), (2, .int (iI k2)), (1, .int (iI n)), (0, .ref 530)]) (st' := [.int (iI k2)]) rfl ?_
                                    refine T_p xr_170_157 xn_170 (pc' := 159) (ls' := [(5, .int (iI k)), (4, .int (iI (X_at tb len k))), (3, .int (iI len)), (2, .int (iI k2)), (1, .int (iI n)), (0, .ref 530)]) (st' := [.int (iI k), .int (iI k2)]) rfl ?_
                                    refine T_zisub xr_170_159 (z := k2 - k) rfl (pc' := 160) rfl ?_
                                    refine T_p xr_170_160 xn_170 (pc' := 162) (ls' := [(5, .int (iI k)), (4, .int (iI (X_at tb len k))), (3, .int (iI len)), (2, .int (iI k2)), (1, .int (iI n)), (0, .ref 530)]) (st' := [.int (iI 8), .int (iI (k2 - k))]) rfl ?_
                                    refine T_zicmp_le xr_170_162 (t := 167) (pc' := 165) rfl rfl (fun c1402 => ?_) (fun c1402 => ?_)
                                    · skip
                                      have c1402 : (k2 - k) ≤ 8 := c1402
                                      refine T_p xr_170_167 xn_170 (pc' := 168) (ls' := [(5, .int (iI k)), (4, .int (iI (X_at tb len k))), (3, .int (iI len)), (2, .int (iI k2)), (1, .int (iI n)), (0, .ref 530)]) (st' := [.ref 530]) rfl ?_
                                      refine T_get xr_170_168 h1053 rfl (v := .ref 549) rfl (pc' := 171) rfl ?_
                                      refine T_p xr_170_171 xn_170 (pc' := 172) (ls' := [(5, .int (iI k)), (4, .int (iI (X_at tb len k))), (3, .int (iI len)), (2, .int (iI k2)), (1, .int (iI n)), (0, .ref 530)]) (st' := [.int (iI n), .ref 549]) rfl ?_
                                      refine T_p xr_170_172 xn_170 (pc' := 173) (ls' := [(5, .int (iI k)), (4, .int (iI (X_at tb len k))), (3, .int (iI len)), (2, .int (iI k2)), (1, .int (iI n)), (0, .ref 530)]) (st' := [.long (iL 0), .int (iI n), .ref 549]) rfl ?_
                                      refine T_zlast xr_170_173 hnna (pc' := 174) rfl (fun S1403 h1404 n1405 e1406 => ?_)
                                      refine T_p xr_170_174 xn_170 (pc' := 175) (ls' := [(5, .int (iI k)), (4, .int (iI (X_at tb len k))), (3, .int (iI len)), (2, .int (iI k2)), (1, .int (iI n)), (0, .ref 530)]) (st' := [.ref 530]) rfl ?_
                                      have h1407 := (n1405 530 (by decide)).trans (h1053)
                                      refine T_get xr_170_175 h1407 rfl (v := .ref 551) rfl (pc' := 178) rfl ?_
                                      refine T_p xr_170_178 xn_170 (pc' := 179) (ls' := [(5, .int (iI k)), (4, .int (iI (X_at tb len k))), (3, .int (iI len)), (2, .int (iI k2)), (1, .int (iI n)), (0, .ref 530)]) (st' := [.int (iI n), .ref 551]) rfl ?_
                                      refine T_p xr_170_179 xn_170 (pc' := 180) (ls' := [(5, .int (iI k)), (4, .int (iI (X_at tb len k))), (3, .int (iI len)), (2, .int (iI k2)), (1, .int (iI n)), (0, .ref 530)]) (st' := [.int (iI 0), .int (iI n), .ref 551]) rfl ?_
                                      have h1408 := (n1405 551 (by decide)).trans (hnua)
                                      refine T_ziast xr_170_180 h1408 (pc' := 181) rfl (fun S1409 h1410 n1411 e1412 => ?_)
                                      refine T_p xr_170_181 xn_170 (pc' := 182) (ls' := [(5, .int (iI k)), (4, .int (iI (X_at tb len k))), (3, .int (iI len)), (2, .int (iI k2)), (1, .int (iI n)), (0, .ref 530)]) (st' := [.int (iI 1)]) rfl ?_
                                      refine T_p xr_170_182 xn_170 (pc' := 184) (ls' := [(6, .int (iI 1)), (5, .int (iI k)), (4, .int (iI (X_at tb len k))), (3, .int (iI len)), (2, .int (iI k2)), (1, .int (iI n)), (0, .ref 530)]) (st' := []) rfl ?_
                                      refine T_p xr_170_184 xn_170 (pc' := 186) (ls' := [(6, .int (iI 1)), (5, .int (iI k)), (4, .int (iI (X_at tb len k))), (3, .int (iI len)), (2, .int (iI k2)), (1, .int (iI n)), (0, .ref 530)]) (st' := [.int (iI k)]) rfl ?_
                                      refine T_p xr_170_186 xn_170 (pc' := 188) (ls' := [(7, .int (iI k)), (6, .int (iI 1)), (5, .int (iI k)), (4, .int (iI (X_at tb len k))), (3, .int (iI len)), (2, .int (iI k2)), (1, .int (iI n)), (0, .ref 530)]) (st' := []) rfl ?_
                                      have h1418 := (n1411 549 (by decide)).trans (h1404)
                                      have L1413 : ∀ (m1415 : Nat) (S1419 : X_S) (i : Int) (kz : Int) (pl : Int) (nn3 : Int → Int64) (nu3 : Int → Int) (hnn3 : S1419.1 549 = .inl (.long, 30, .inr (.inl fun k : Nat => nn3 (k : Int)))) (hnu3 : S1419.1 551 = .inl (.int, 30, .inl fun k : Nat => iI (nu3 (k : Int)))) (hF1417 : X_Fr (fun q => q = 549 ∨ q = 551) S1409 S1419) (hi : k ≤ i ∧ i ≤ kz ∧ kz - k ≤ 8) (hkz : k + 1 ≤ kz ∧ kz ≤ len) (hscz : ∀ q, k < q → q < kz → X_ct (X_at tb len q)) (hez : (X_ct (X_at tb len k) → kz < len → ¬ X_ct (X_at tb len kz)) ∧ (¬ X_ct (X_at tb len k) → kz = k + 1)) (hnn : nn3 n = X_pk tb len k (i - k).toNat) (hnu : nu3 n = X_rv tb len k (i - k).toNat) (hpl : (pl = 1 ∧ ¬ X_rv tb len k (i - k).toNat = -1) ∨ (pl = 0 ∧ X_rv tb len k (i - k).toNat = -1)) (hold : ∀ v, 0 ≤ v → v < n → nn3 v = t v ∧ nu3 v = X_nv (t v)) (hm1416 : len - i < m1415), X_T sc 170 (188, [(7, .int (iI i)), (6, .int (iI pl)), (5, .int (iI k)), (3, .int (iI len)), (2, .int (iI kz)), (1, .int (iI n)), (0, .ref 530)], [], S1419) Q := by
                                        intro m1415
                                        induction m1415 with
                                        | zero =>
                                          intro S1419 i kz pl nn3 nu3 hnn3 hnu3 hF1417 hi hkz hscz hez hnn hnu hpl hold hm1416
                                          exact (show False by omega).elim
                                        | succ m1415 ih1414 =>
                                          intro S1419 i kz pl nn3 nu3 hnn3 hnu3 hF1417 hi hkz hscz hez hnn hnu hpl hold hm1416
                                          have hrr := X_rv_r (tb := tb) (len := len) (p := k) (i - k).toNat (fun u g1 g2 => by have := X_at_in (tb := tb) (len := len) (p := k + u) (by omega); omega)
                                          have h10 : (10 : Nat) ^ (i - k).toNat ≤ 10 ^ 8 := Nat.pow_le_pow_right (by omega) (by omega)
                                          have h108 : (10 : Nat) ^ 8 = 100000000 := by decide
                                          refine T_p xr_170_188 xn_170 (pc' := 190) (ls' := [(7, .int (iI i)), (6, .int (iI pl)), (5, .int (iI k)), (3, .int (iI len)), (2, .int (iI kz)), (1, .int (iI n)), (0, .ref 530)]) (st' := [.int (iI i)]) rfl ?_
                                          refine T_p xr_170_190 xn_170 (pc' := 191) (ls' := [(7, .int (iI i)), (6, .int (iI pl)), (5, .int (iI k)), (3, .int (iI len)), (2, .int (iI kz)), (1, .int (iI n)), (0, .ref 530)]) (st' := [.int (iI kz), .int (iI i)]) rfl ?_
                                          refine T_zicmp_ge xr_170_191 (t := 284) (pc' := 194) rfl rfl (fun c1420 => ?_) (fun c1420 => ?_)
                                          · skip
                                            have c1420 : kz ≤ i := c1420
                                            have hpn : ∃ T z', X_sn tb len kz.toNat = some (n + 1, z', T) ∧ 0 ≤ z' ∧ (0 < z' → kz < len → ¬ X_ct (X_at tb len kz)) ∧ T n = X_pk tb len k (kz - k).toNat ∧ ∀ i, ¬ i = n → T i = t i := by
                                              by_cases hck : X_ct (X_at tb len k)
                                              · have hz0 : z = 0 := by
                                                  by_cases hz : 0 < z
                                                  · exact absurd hck (hX2 hz (by omega))
                                                  · omega
                                                obtain ⟨T, a1, a2, a3⟩ := X_sn_m (by omega) hX1 (by omega) hck hz0 (kz - k).toNat (by omega) (by omega) (fun q h1 h2 => hscz q h1 (by omega))
                                                rw [show k + (((kz - k).toNat : Nat) : Int) = kz by omega] at a1
                                                exact ⟨T, _, a1, by omega, fun _ h1 => hez.1 hck h1, a2, a3⟩
                                              · have a1 := X_sn_f (by omega) hX1 (by omega) ⟨by unfold X_isBl; omega, by omega⟩ (fun _ => hck)
                                                have hbr : X_at tb len k = 40 ∨ X_at tb len k = 41 := by unfold X_ct at hck; omega
                                                have hkz := hez.2 hck
                                                rw [if_pos hbr] at a1
                                                rw [hkz]
                                                exact ⟨_, 0, a1, by omega, fun y => absurd y (by omega), by rw [X_ug_s, show (k + 1 - k).toNat = 1 by omega], fun i hi => X_ug_n _ _ hi⟩
                                            obtain ⟨T, z', b1, b2, b3, b4, b5⟩ := hpn
                                            have hnvk : X_nv (X_pk tb len k (kz - k).toNat) = X_rv tb len k (kz - k).toNat := X_nv_pk _ (by omega) (fun u h1 h2 => by
                                              have h3 := X_at_in (tb := tb) (len := len) (p := k + u) (by omega)
                                              by_cases hu : u = 0
                                              · subst hu; rw [show k + 0 = k by omega]; omega
                                              · have := hscz (k + u) (by omega) (by omega)
                                                unfold X_ct at this; omega)
                                            have hie : i = kz := by omega
                                            have hnew : ∃ z t, X_sn tb len kz.toNat = some (n + 1, z, t) ∧ 0 ≤ z ∧ (0 < z → kz < len → ¬ X_ct (X_at tb len kz)) ∧ ∀ v, 0 ≤ v → v < n + 1 → nn3 v = t v ∧ nu3 v = X_nv (t v) := ⟨z', T, b1, b2, b3, fun v h1 h2 => by
                                              by_cases hv : v = n
                                              · rw [hv, b4, hnvk, ← hie]; exact ⟨hnn, hnu⟩
                                              · rw [b5 v hv]; exact hold v h1 (by omega)⟩
                                            refine T_ziinc xr_170_284 xn_170 (a := n) (z := n + 1) rfl (Nat.le_of_ble_eq_true rfl) (by omega) (ls' := [(1, .int (iI (n + 1))), (7, .int (iI i)), (6, .int (iI pl)), (5, .int (iI k)), (3, .int (iI len)), (2, .int (iI kz)), (0, .ref 530)]) rfl (pc' := 287) rfl ?_
                                            refine T_p xr_170_287 xn_170 (pc' := 14) (ls' := [(1, .int (iI (n + 1))), (7, .int (iI i)), (6, .int (iI pl)), (5, .int (iI k)), (3, .int (iI len)), (2, .int (iI kz)), (0, .ref 530)]) (st' := []) rfl ?_
                                            refine T_sub (ls := [(3, .int (iI len)), (2, .int (iI kz)), (1, .int (iI (n + 1))), (0, .ref 530)]) ⟨rfl, rfl, rfl, rfl, trivial⟩ rfl rfl ?_
                                            exact ih971 S1419 (n + 1) kz nn3 nu3 hnn3 hnu3 (hF974.tr ((((X_Fr.rf).tr (X_Fr.of n1405 e1406 (by omega))).tr (X_Fr.of n1411 e1412 (by omega))).tr (X_Fr.mono ⟨hF1417.1, hF1417.2⟩ (fun q hq => (by omega))))) (by omega) (by omega) hnew (by omega)
                                          · skip
                                            have c1420 : ¬ (kz ≤ i) := c1420
                                            refine T_p xr_170_194 xn_170 (pc' := 195) (ls' := [(7, .int (iI i)), (6, .int (iI pl)), (5, .int (iI k)), (3, .int (iI len)), (2, .int (iI kz)), (1, .int (iI n)), (0, .ref 530)]) (st' := [.ref 530]) rfl ?_
                                            have h1421 := (hF1417.1 530 (by omega)).trans ((n1411 530 (by decide)).trans (h1407))
                                            refine T_get xr_170_195 h1421 rfl (v := .ref 549) rfl (pc' := 198) rfl ?_
                                            refine T_p xr_170_198 xn_170 (pc' := 199) (ls' := [(7, .int (iI i)), (6, .int (iI pl)), (5, .int (iI k)), (3, .int (iI len)), (2, .int (iI kz)), (1, .int (iI n)), (0, .ref 530)]) (st' := [.int (iI n), .ref 549]) rfl ?_
                                            refine T_p xr_170_199 xn_170 (pc' := 200) (ls' := [(7, .int (iI i)), (6, .int (iI pl)), (5, .int (iI k)), (3, .int (iI len)), (2, .int (iI kz)), (1, .int (iI n)), (0, .ref 530)]) (st' := [.ref 530, .int (iI n), .ref 549]) rfl ?_
                                            refine T_get xr_170_200 h1421 rfl (v := .ref 549) rfl (pc' := 203) rfl ?_
                                            refine T_p xr_170_203 xn_170 (pc' := 204) (ls' := [(7, .int (iI i)), (6, .int (iI pl)), (5, .int (iI k)), (3, .int (iI len)), (2, .int (iI kz)), (1, .int (iI n)), (0, .ref 530)]) (st' := [.int (iI n), .ref 549, .int (iI n), .ref 549]) rfl ?_
                                            refine T_zlald xr_170_204 hnn3 (pc' := 205) rfl ?_
                                            refine T_p xr_170_205 xn_170 (pc' := 207) (ls' := [(7, .int (iI i)), (6, .int (iI pl)), (5, .int (iI k)), (3, .int (iI len)), (2, .int (iI kz)), (1, .int (iI n)), (0, .ref 530)]) (st' := [.int (iI 8), .long (nn3 n), .int (iI n), .ref 549]) rfl ?_
                                            refine T_p xr_170_207 xn_170 (pc' := 208) (ls' := [(7, .int (iI i)), (6, .int (iI pl)), (5, .int (iI k)), (3, .int (iI len)), (2, .int (iI kz)), (1, .int (iI n)), (0, .ref 530)]) (st' := [.long ((nn3 n) <<< ((iI 8).toInt64 &&& 63)), .int (iI n), .ref 549]) rfl ?_
                                            refine T_p xr_170_208 xn_170 (pc' := 209) (ls' := [(7, .int (iI i)), (6, .int (iI pl)), (5, .int (iI k)), (3, .int (iI len)), (2, .int (iI kz)), (1, .int (iI n)), (0, .ref 530)]) (st' := [.ref 530, .long ((nn3 n) <<< ((iI 8).toInt64 &&& 63)), .int (iI n), .ref 549]) rfl ?_
                                            refine T_get xr_170_209 h1421 rfl (v := .ref 531) rfl (pc' := 212) rfl ?_
                                            refine T_p xr_170_212 xn_170 (pc' := 214) (ls' := [(7, .int (iI i)), (6, .int (iI pl)), (5, .int (iI k)), (3, .int (iI len)), (2, .int (iI kz)), (1, .int (iI n)), (0, .ref 530)]) (st' := [.int (iI i), .ref 531, .long ((nn3 n) <<< ((iI 8).toInt64 &&& 63)), .int (iI n), .ref 549]) rfl ?_
                                            have h1422 := (hF1417.1 531 (by omega)).trans ((n1411 531 (by decide)).trans ((n1405 531 (by decide)).trans (h1054)))
                                            refine T_zbald xr_170_214 h1422 (pc' := 215) rfl ?_
                                            have hti := htp i (by omega) (by omega)
                                            have hai : X_at tb len i = tb i % 256 := X_at_in (by omega)
                                            have hci : 33 ≤ X_at tb len i ∧ X_at tb len i ≤ 126 := by
                                              by_cases hik : i = k
                                              · rw [hik]; omega
                                              · have hu := hscz i (by omega) (by omega)
                                                unfold X_ct at hu; omega
                                            refine T_ie (y := iI (X_at tb len i)) (by congr 1; omega) ?_
                                            refine T_p xr_170_215 xn_170 (pc' := 216) (ls' := [(7, .int (iI i)), (6, .int (iI pl)), (5, .int (iI k)), (3, .int (iI len)), (2, .int (iI kz)), (1, .int (iI n)), (0, .ref 530)]) (st' := [.long ((iI (X_at tb len i)).toInt64), .long ((nn3 n) <<< ((iI 8).toInt64 &&& 63)), .int (iI n), .ref 549]) rfl ?_
                                            refine T_p xr_170_216 xn_170 (pc' := 217) (ls' := [(7, .int (iI i)), (6, .int (iI pl)), (5, .int (iI k)), (3, .int (iI len)), (2, .int (iI kz)), (1, .int (iI n)), (0, .ref 530)]) (st' := [.long (((nn3 n) <<< ((iI 8).toInt64 &&& 63)) ||| ((iI (X_at tb len i)).toInt64)), .int (iI n), .ref 549]) rfl ?_
                                            refine T_zlast xr_170_217 hnn3 (pc' := 218) rfl (fun S1423 h1424 n1425 e1426 => ?_)
                                            refine T_p xr_170_218 xn_170 (pc' := 220) (ls' := [(7, .int (iI i)), (6, .int (iI pl)), (5, .int (iI k)), (3, .int (iI len)), (2, .int (iI kz)), (1, .int (iI n)), (0, .ref 530)]) (st' := [.int (iI pl)]) rfl ?_
                                            refine T_zif_eq xr_170_220 (t := 240) (pc' := 223) rfl rfl (fun c1427 => ?_) (fun c1427 => ?_)
                                            · skip
                                              have c1427 : pl = 0 := c1427
                                              refine T_p xr_170_240 xn_170 (pc' := 241) (ls' := [(7, .int (iI i)), (6, .int (iI pl)), (5, .int (iI k)), (3, .int (iI len)), (2, .int (iI kz)), (1, .int (iI n)), (0, .ref 530)]) (st' := [.int (iI 0)]) rfl ?_
                                              refine T_p xr_170_241 xn_170 (pc' := 243) (ls' := [(6, .int (iI 0)), (7, .int (iI i)), (5, .int (iI k)), (3, .int (iI len)), (2, .int (iI kz)), (1, .int (iI n)), (0, .ref 530)]) (st' := []) rfl ?_
                                              refine T_p xr_170_243 xn_170 (pc' := 244) (ls' := [(6, .int (iI 0)), (7, .int (iI i)), (5, .int (iI k)), (3, .int (iI len)), (2, .int (iI kz)), (1, .int (iI n)), (0, .ref 530)]) (st' := [.ref 530]) rfl ?_
                                              have h1428 := (n1425 530 (by decide)).trans (h1421)
                                              refine T_get xr_170_244 h1428 rfl (v := .ref 551) rfl (pc' := 247) rfl ?_
                                              refine T_p xr_170_247 xn_170 (pc' := 248) (ls' := [(6, .int (iI 0)), (7, .int (iI i)), (5, .int (iI k)), (3, .int (iI len)), (2, .int (iI kz)), (1, .int (iI n)), (0, .ref 530)]) (st' := [.int (iI n), .ref 551]) rfl ?_
                                              refine T_p xr_170_248 xn_170 (pc' := 250) (ls' := [(6, .int (iI 0)), (7, .int (iI i)), (5, .int (iI k)), (3, .int (iI len)), (2, .int (iI kz)), (1, .int (iI n)), (0, .ref 530)]) (st' := [.int (iI 0), .int (iI n), .ref 551]) rfl ?_
                                              refine T_zif_eqt xr_170_250 (t := 276) rfl (by decide) ?_
                                              refine T_p xr_170_276 xn_170 (pc' := 277) (ls' := [(6, .int (iI 0)), (7, .int (iI i)), (5, .int (iI k)), (3, .int (iI len)), (2, .int (iI kz)), (1, .int (iI n)), (0, .ref 530)]) (st' := [.int (iI (-1)), .int (iI n), .ref 551]) rfl ?_
                                              have h1429 := (n1425 551 (by decide)).trans (hnu3)
                                              refine T_ziast xr_170_277 h1429 (pc' := 278) rfl (fun S1430 h1431 n1432 e1433 => ?_)
                                              refine T_ziinc xr_170_278 xn_170 (a := i) (z := i + 1) rfl (Nat.le_of_ble_eq_true rfl) (by omega) (ls' := [(7, .int (iI (i + 1))), (6, .int (iI 0)), (5, .int (iI k)), (3, .int (iI len)), (2, .int (iI kz)), (1, .int (iI n)), (0, .ref 530)]) rfl (pc' := 281) rfl ?_
                                              refine T_p xr_170_281 xn_170 (pc' := 188) (ls' := [(7, .int (iI (i + 1))), (6, .int (iI 0)), (5, .int (iI k)), (3, .int (iI len)), (2, .int (iI kz)), (1, .int (iI n)), (0, .ref 530)]) (st' := []) rfl ?_
                                              have h1434 := (n1432 549 (by decide)).trans (h1424)
                                              exact ih1414 S1430 (i + 1) kz 0 (X_ug nn3 n (((nn3 n) <<< ((iI 8).toInt64 &&& 63)) ||| ((iI (X_at tb len i)).toInt64))) (X_ug nu3 n (-1)) h1434 h1431 (hF1417.tr (((X_Fr.rf).tr (X_Fr.of n1425 e1426 (by omega))).tr (X_Fr.of n1432 e1433 (by omega)))) (by omega) (by omega) hscz hez (by rw [X_ug_s, X_pk_s (by omega), ← hnn]; rfl) (by
                                                    rw [X_ug_s, X_rv_s (by omega)]
                                                    first
                                                    | (have hd : X_isD (X_at tb len i) := by assumption
                                                       unfold X_isD at hd
                                                       (repeat' split) <;> omega)
                                                    | (have hd : ¬ X_isD (X_at tb len i) := by assumption
                                                       unfold X_isD at hd
                                                       (repeat' split) <;> omega)
                                                    | ((repeat' split) <;> omega)) (by
                                                    rw [X_rv_s (by omega)]
                                                    first
                                                    | (have hd : X_isD (X_at tb len i) := by assumption
                                                       unfold X_isD at hd
                                                       (repeat' split) <;> omega)
                                                    | (have hd : ¬ X_isD (X_at tb len i) := by assumption
                                                       unfold X_isD at hd
                                                       (repeat' split) <;> omega)
                                                    | ((repeat' split) <;> omega)) (fun v h1 h2 => by rw [X_ug_n _ _ (by omega), X_ug_n _ _ (by omega)]; exact hold v h1 h2) (by omega)
                                            · skip
                                              have c1427 : ¬ (pl = 0) := c1427
                                              refine T_p xr_170_223 xn_170 (pc' := 224) (ls' := [(7, .int (iI i)), (6, .int (iI pl)), (5, .int (iI k)), (3, .int (iI len)), (2, .int (iI kz)), (1, .int (iI n)), (0, .ref 530)]) (st' := [.ref 530]) rfl ?_
                                              have h1435 := (n1425 530 (by decide)).trans (h1421)
                                              refine T_get xr_170_224 h1435 rfl (v := .ref 531) rfl (pc' := 227) rfl ?_
                                              refine T_p xr_170_227 xn_170 (pc' := 229) (ls' := [(7, .int (iI i)), (6, .int (iI pl)), (5, .int (iI k)), (3, .int (iI len)), (2, .int (iI kz)), (1, .int (iI n)), (0, .ref 530)]) (st' := [.int (iI i), .ref 531]) rfl ?_
                                              have h1436 := (n1425 531 (by decide)).trans (h1422)
                                              refine T_zbald xr_170_229 h1436 (pc' := 230) rfl ?_
                                              refine T_ie (y := iI (X_at tb len i)) (by congr 1; omega) ?_
                                              refine T_cs xr_170_230 (by decide) xf_138.1 xn_138 (as := [.int (iI (X_at tb len i))]) (r := []) rfl (Nat.le_of_ble_eq_true rfl) (Nat.le_of_ble_eq_true rfl) (pc' := 233) rfl (ls' := [(0, .int (iI (X_at tb len i)))]) rfl ?_
                                              refine T_p xr_138_0 xn_138 (pc' := 1) (ls' := [(0, .int (iI (X_at tb len i)))]) (st' := [.int (iI (X_at tb len i))]) rfl ?_
                                              refine T_p xr_138_1 xn_138 (pc' := 3) (ls' := [(0, .int (iI (X_at tb len i)))]) (st' := [.int (iI 48), .int (iI (X_at tb len i))]) rfl ?_
                                              refine T_zicmp_lt xr_138_3 (t := 16) (pc' := 6) rfl rfl (fun c1437 => ?_) (fun c1437 => ?_)
                                              · skip
                                                have c1437 : (X_at tb len i) < 48 := c1437
                                                refine T_p xr_138_16 xn_138 (pc' := 17) (ls' := [(0, .int (iI (X_at tb len i)))]) (st' := [.int (iI 0)]) rfl ?_
                                                refine T_iret xr_138_17 xf_138.2.2 (by decide) ?_
                                                show X_T sc 170 (233, [(7, .int (iI i)), (6, .int (iI pl)), (5, .int (iI k)), (3, .int (iI len)), (2, .int (iI kz)), (1, .int (iI n)), (0, .ref 530)], [.int (iI 0)], S1423) _
                                                refine T_zif_eqt xr_170_233 (t := 240) rfl (by decide) ?_
                                                refine T_p xr_170_240 xn_170 (pc' := 241) (ls' := [(7, .int (iI i)), (6, .int (iI pl)), (5, .int (iI k)), (3, .int (iI len)), (2, .int (iI kz)), (1, .int (iI n)), (0, .ref 530)]) (st' := [.int (iI 0)]) rfl ?_
                                                refine T_p xr_170_241 xn_170 (pc' := 243) (ls' := [(6, .int (iI 0)), (7, .int (iI i)), (5, .int (iI k)), (3, .int (iI len)), (2, .int (iI kz)), (1, .int (iI n)), (0, .ref 530)]) (st' := []) rfl ?_
                                                refine T_p xr_170_243 xn_170 (pc' := 244) (ls' := [(6, .int (iI 0)), (7, .int (iI i)), (5, .int (iI k)), (3, .int (iI len)), (2, .int (iI kz)), (1, .int (iI n)), (0, .ref 530)]) (st' := [.ref 530]) rfl ?_
                                                refine T_get xr_170_244 h1435 rfl (v := .ref 551) rfl (pc' := 247) rfl ?_
                                                refine T_p xr_170_247 xn_170 (pc' := 248) (ls' := [(6, .int (iI 0)), (7, .int (iI i)), (5, .int (iI k)), (3, .int (iI len)), (2, .int (iI kz)), (1, .int (iI n)), (0, .ref 530)]) (st' := [.int (iI n), .ref 551]) rfl ?_
                                                refine T_p xr_170_248 xn_170 (pc' := 250) (ls' := [(6, .int (iI 0)), (7, .int (iI i)), (5, .int (iI k)), (3, .int (iI len)), (2, .int (iI kz)), (1, .int (iI n)), (0, .ref 530)]) (st' := [.int (iI 0), .int (iI n), .ref 551]) rfl ?_
                                                refine T_zif_eqt xr_170_250 (t := 276) rfl (by decide) ?_
                                                refine T_p xr_170_276 xn_170 (pc' := 277) (ls' := [(6, .int (iI 0)), (7, .int (iI i)), (5, .int (iI k)), (3, .int (iI len)), (2, .int (iI kz)), (1, .int (iI n)), (0, .ref 530)]) (st' := [.int (iI (-1)), .int (iI n), .ref 551]) rfl ?_
                                                have h1438 := (n1425 551 (by decide)).trans (hnu3)
                                                refine T_ziast xr_170_277 h1438 (pc' := 278) rfl (fun S1439 h1440 n1441 e1442 => ?_)
                                                refine T_ziinc xr_170_278 xn_170 (a := i) (z := i + 1) rfl (Nat.le_of_ble_eq_true rfl) (by omega) (ls' := [(7, .int (iI (i + 1))), (6, .int (iI 0)), (5, .int (iI k)), (3, .int (iI len)), (2, .int (iI kz)), (1, .int (iI n)), (0, .ref 530)]) rfl (pc' := 281) rfl ?_
                                                refine T_p xr_170_281 xn_170 (pc' := 188) (ls' := [(7, .int (iI (i + 1))), (6, .int (iI 0)), (5, .int (iI k)), (3, .int (iI len)), (2, .int (iI kz)), (1, .int (iI n)), (0, .ref 530)]) (st' := []) rfl ?_
                                                have h1443 := (n1441 549 (by decide)).trans (h1424)
                                                exact ih1414 S1439 (i + 1) kz 0 (X_ug nn3 n (((nn3 n) <<< ((iI 8).toInt64 &&& 63)) ||| ((iI (X_at tb len i)).toInt64))) (X_ug nu3 n (-1)) h1443 h1440 (hF1417.tr (((X_Fr.rf).tr (X_Fr.of n1425 e1426 (by omega))).tr (X_Fr.of n1441 e1442 (by omega)))) (by omega) (by omega) hscz hez (by rw [X_ug_s, X_pk_s (by omega), ← hnn]; rfl) (by
                                                      rw [X_ug_s, X_rv_s (by omega)]
                                                      first
                                                      | (have hd : X_isD (X_at tb len i) := by assumption
                                                         unfold X_isD at hd
                                                         (repeat' split) <;> omega)
                                                      | (have hd : ¬ X_isD (X_at tb len i) := by assumption
                                                         unfold X_isD at hd
                                                         (repeat' split) <;> omega)
                                                      | ((repeat' split) <;> omega)) (by
                                                      rw [X_rv_s (by omega)]
                                                      first
                                                      | (have hd : X_isD (X_at tb len i) := by assumption
                                                         unfold X_isD at hd
                                                         (repeat' split) <;> omega)
                                                      | (have hd : ¬ X_isD (X_at tb len i) := by assumption
                                                         unfold X_isD at hd
                                                         (repeat' split) <;> omega)
                                                      | ((repeat' split) <;> omega)) (fun v h1 h2 => by rw [X_ug_n _ _ (by omega), X_ug_n _ _ (by omega)]; exact hold v h1 h2) (by omega)
                                              · skip
                                                have c1437 : ¬ ((X_at tb len i) < 48) := c1437
                                                refine T_p xr_138_6 xn_138 (pc' := 7) (ls' := [(0, .int (iI (X_at tb len i)))]) (st' := [.int (iI (X_at tb len i))]) rfl ?_
                                                refine T_p xr_138_7 xn_138 (pc' := 9) (ls' := [(0, .int (iI (X_at tb len i)))]) (st' := [.int (iI 57), .int (iI (X_at tb len i))]) rfl ?_
                                                refine T_zicmp_gt xr_138_9 (t := 16) (pc' := 12) rfl rfl (fun c1444 => ?_) (fun c1444 => ?_)
                                                · skip
                                                  have c1444 : 57 < (X_at tb len i) := c1444
                                                  refine T_p xr_138_16 xn_138 (pc' := 17) (ls' := [(0, .int (iI (X_at tb len i)))]) (st' := [.int (iI 0)]) rfl ?_
                                                  refine T_iret xr_138_17 xf_138.2.2 (by decide) ?_
                                                  show X_T sc 170 (233, [(7, .int (iI i)), (6, .int (iI pl)), (5, .int (iI k)), (3, .int (iI len)), (2, .int (iI kz)), (1, .int (iI n)), (0, .ref 530)], [.int (iI 0)], S1423) _
                                                  refine T_zif_eqt xr_170_233 (t := 240) rfl (by decide) ?_
                                                  refine T_p xr_170_240 xn_170 (pc' := 241) (ls' := [(7, .int (iI i)), (6, .int (iI pl)), (5, .int (iI k)), (3, .int (iI len)), (2, .int (iI kz)), (1, .int (iI n)), (0, .ref 530)]) (st' := [.int (iI 0)]) rfl ?_
                                                  refine T_p xr_170_241 xn_170 (pc' := 243) (ls' := [(6, .int (iI 0)), (7, .int (iI i)), (5, .int (iI k)), (3, .int (iI len)), (2, .int (iI kz)), (1, .int (iI n)), (0, .ref 530)]) (st' := []) rfl ?_
                                                  refine T_p xr_170_243 xn_170 (pc' := 244) (ls' := [(6, .int (iI 0)), (7, .int (iI i)), (5, .int (iI k)), (3, .int (iI len)), (2, .int (iI kz)), (1, .int (iI n)), (0, .ref 530)]) (st' := [.ref 530]) rfl ?_
                                                  refine T_get xr_170_244 h1435 rfl (v := .ref 551) rfl (pc' := 247) rfl ?_
                                                  refine T_p xr_170_247 xn_170 (pc' := 248) (ls' := [(6, .int (iI 0)), (7, .int (iI i)), (5, .int (iI k)), (3, .int (iI len)), (2, .int (iI kz)), (1, .int (iI n)), (0, .ref 530)]) (st' := [.int (iI n), .ref 551]) rfl ?_
                                                  refine T_p xr_170_248 xn_170 (pc' := 250) (ls' := [(6, .int (iI 0)), (7, .int (iI i)), (5, .int (iI k)), (3, .int (iI len)), (2, .int (iI kz)), (1, .int (iI n)), (0, .ref 530)]) (st' := [.int (iI 0), .int (iI n), .ref 551]) rfl ?_
                                                  refine T_zif_eqt xr_170_250 (t := 276) rfl (by decide) ?_
                                                  refine T_p xr_170_276 xn_170 (pc' := 277) (ls' := [(6, .int (iI 0)), (7, .int (iI i)), (5, .int (iI k)), (3, .int (iI len)), (2, .int (iI kz)), (1, .int (iI n)), (0, .ref 530)]) (st' := [.int (iI (-1)), .int (iI n), .ref 551]) rfl ?_
                                                  have h1445 := (n1425 551 (by decide)).trans (hnu3)
                                                  refine T_ziast xr_170_277 h1445 (pc' := 278) rfl (fun S1446 h1447 n1448 e1449 => ?_)
                                                  refine T_ziinc xr_170_278 xn_170 (a := i) (z := i + 1) rfl (Nat.le_of_ble_eq_true rfl) (by omega) (ls' := [(7, .int (iI (i + 1))), (6, .int (iI 0)), (5, .int (iI k)), (3, .int (iI len)), (2, .int (iI kz)), (1, .int (iI n)), (0, .ref 530)]) rfl (pc' := 281) rfl ?_
                                                  refine T_p xr_170_281 xn_170 (pc' := 188) (ls' := [(7, .int (iI (i + 1))), (6, .int (iI 0)), (5, .int (iI k)), (3, .int (iI len)), (2, .int (iI kz)), (1, .int (iI n)), (0, .ref 530)]) (st' := []) rfl ?_
                                                  have h1450 := (n1448 549 (by decide)).trans (h1424)
                                                  exact ih1414 S1446 (i + 1) kz 0 (X_ug nn3 n (((nn3 n) <<< ((iI 8).toInt64 &&& 63)) ||| ((iI (X_at tb len i)).toInt64))) (X_ug nu3 n (-1)) h1450 h1447 (hF1417.tr (((X_Fr.rf).tr (X_Fr.of n1425 e1426 (by omega))).tr (X_Fr.of n1448 e1449 (by omega)))) (by omega) (by omega) hscz hez (by rw [X_ug_s, X_pk_s (by omega), ← hnn]; rfl) (by
                                                        rw [X_ug_s, X_rv_s (by omega)]
                                                        first
                                                        | (have hd : X_isD (X_at tb len i) := by assumption
                                                           unfold X_isD at hd
                                                           (repeat' split) <;> omega)
                                                        | (have hd : ¬ X_isD (X_at tb len i) := by assumption
                                                           unfold X_isD at hd
                                                           (repeat' split) <;> omega)
                                                        | ((repeat' split) <;> omega)) (by
                                                        rw [X_rv_s (by omega)]
                                                        first
                                                        | (have hd : X_isD (X_at tb len i) := by assumption
                                                           unfold X_isD at hd
                                                           (repeat' split) <;> omega)
                                                        | (have hd : ¬ X_isD (X_at tb len i) := by assumption
                                                           unfold X_isD at hd
                                                           (repeat' split) <;> omega)
                                                        | ((repeat' split) <;> omega)) (fun v h1 h2 => by rw [X_ug_n _ _ (by omega), X_ug_n _ _ (by omega)]; exact hold v h1 h2) (by omega)
                                                · skip
                                                  have c1444 : ¬ (57 < (X_at tb len i)) := c1444
                                                  refine T_p xr_138_12 xn_138 (pc' := 13) (ls' := [(0, .int (iI (X_at tb len i)))]) (st' := [.int (iI 1)]) rfl ?_
                                                  refine T_p xr_138_13 xn_138 (pc' := 17) (ls' := [(0, .int (iI (X_at tb len i)))]) (st' := [.int (iI 1)]) rfl ?_
                                                  refine T_iret xr_138_17 xf_138.2.2 (by decide) ?_
                                                  show X_T sc 170 (233, [(7, .int (iI i)), (6, .int (iI pl)), (5, .int (iI k)), (3, .int (iI len)), (2, .int (iI kz)), (1, .int (iI n)), (0, .ref 530)], [.int (iI 1)], S1423) _
                                                  refine T_zif_eqf xr_170_233 (t := 240) (pc' := 236) rfl rfl (by decide) ?_
                                                  refine T_p xr_170_236 xn_170 (pc' := 237) (ls' := [(7, .int (iI i)), (6, .int (iI pl)), (5, .int (iI k)), (3, .int (iI len)), (2, .int (iI kz)), (1, .int (iI n)), (0, .ref 530)]) (st' := [.int (iI 1)]) rfl ?_
                                                  refine T_p xr_170_237 xn_170 (pc' := 241) (ls' := [(7, .int (iI i)), (6, .int (iI pl)), (5, .int (iI k)), (3, .int (iI len)), (2, .int (iI kz)), (1, .int (iI n)), (0, .ref 530)]) (st' := [.int (iI 1)]) rfl ?_
                                                  refine T_p xr_170_241 xn_170 (pc' := 243) (ls' := [(6, .int (iI 1)), (7, .int (iI i)), (5, .int (iI k)), (3, .int (iI len)), (2, .int (iI kz)), (1, .int (iI n)), (0, .ref 530)]) (st' := []) rfl ?_
                                                  refine T_p xr_170_243 xn_170 (pc' := 244) (ls' := [(6, .int (iI 1)), (7, .int (iI i)), (5, .int (iI k)), (3, .int (iI len)), (2, .int (iI kz)), (1, .int (iI n)), (0, .ref 530)]) (st' := [.ref 530]) rfl ?_
                                                  refine T_get xr_170_244 h1435 rfl (v := .ref 551) rfl (pc' := 247) rfl ?_
                                                  refine T_p xr_170_247 xn_170 (pc' := 248) (ls' := [(6, .int (iI 1)), (7, .int (iI i)), (5, .int (iI k)), (3, .int (iI len)), (2, .int (iI kz)), (1, .int (iI n)), (0, .ref 530)]) (st' := [.int (iI n), .ref 551]) rfl ?_
                                                  refine T_p xr_170_248 xn_170 (pc' := 250) (ls' := [(6, .int (iI 1)), (7, .int (iI i)), (5, .int (iI k)), (3, .int (iI len)), (2, .int (iI kz)), (1, .int (iI n)), (0, .ref 530)]) (st' := [.int (iI 1), .int (iI n), .ref 551]) rfl ?_
                                                  refine T_zif_eqf xr_170_250 (t := 276) (pc' := 253) rfl rfl (by decide) ?_
                                                  refine T_p xr_170_253 xn_170 (pc' := 255) (ls' := [(6, .int (iI 1)), (7, .int (iI i)), (5, .int (iI k)), (3, .int (iI len)), (2, .int (iI kz)), (1, .int (iI n)), (0, .ref 530)]) (st' := [.int (iI 10), .int (iI n), .ref 551]) rfl ?_
                                                  refine T_p xr_170_255 xn_170 (pc' := 256) (ls' := [(6, .int (iI 1)), (7, .int (iI i)), (5, .int (iI k)), (3, .int (iI len)), (2, .int (iI kz)), (1, .int (iI n)), (0, .ref 530)]) (st' := [.ref 530, .int (iI 10), .int (iI n), .ref 551]) rfl ?_
                                                  refine T_get xr_170_256 h1435 rfl (v := .ref 551) rfl (pc' := 259) rfl ?_
                                                  refine T_p xr_170_259 xn_170 (pc' := 260) (ls' := [(6, .int (iI 1)), (7, .int (iI i)), (5, .int (iI k)), (3, .int (iI len)), (2, .int (iI kz)), (1, .int (iI n)), (0, .ref 530)]) (st' := [.int (iI n), .ref 551, .int (iI 10), .int (iI n), .ref 551]) rfl ?_
                                                  have h1451 := (n1425 551 (by decide)).trans (hnu3)
                                                  refine T_ziald xr_170_260 h1451 (pc' := 261) rfl ?_
                                                  refine T_zimul xr_170_261 (z := 10 * (nu3 n)) rfl (pc' := 262) rfl ?_
                                                  refine T_p xr_170_262 xn_170 (pc' := 263) (ls' := [(6, .int (iI 1)), (7, .int (iI i)), (5, .int (iI k)), (3, .int (iI len)), (2, .int (iI kz)), (1, .int (iI n)), (0, .ref 530)]) (st' := [.ref 530, .int (iI (10 * (nu3 n))), .int (iI n), .ref 551]) rfl ?_
                                                  refine T_get xr_170_263 h1435 rfl (v := .ref 531) rfl (pc' := 266) rfl ?_
                                                  refine T_p xr_170_266 xn_170 (pc' := 268) (ls' := [(6, .int (iI 1)), (7, .int (iI i)), (5, .int (iI k)), (3, .int (iI len)), (2, .int (iI kz)), (1, .int (iI n)), (0, .ref 530)]) (st' := [.int (iI i), .ref 531, .int (iI (10 * (nu3 n))), .int (iI n), .ref 551]) rfl ?_
                                                  refine T_zbald xr_170_268 h1436 (pc' := 269) rfl ?_
                                                  refine T_ie (y := iI (X_at tb len i)) (by congr 1; omega) ?_
                                                  refine T_ziadd xr_170_269 (z := (10 * (nu3 n)) + (X_at tb len i)) rfl (pc' := 270) rfl ?_
                                                  refine T_p xr_170_270 xn_170 (pc' := 272) (ls' := [(6, .int (iI 1)), (7, .int (iI i)), (5, .int (iI k)), (3, .int (iI len)), (2, .int (iI kz)), (1, .int (iI n)), (0, .ref 530)]) (st' := [.int (iI 48), .int (iI ((10 * (nu3 n)) + (X_at tb len i))), .int (iI n), .ref 551]) rfl ?_
                                                  refine T_zisub xr_170_272 (z := ((10 * (nu3 n)) + (X_at tb len i)) - 48) rfl (pc' := 273) rfl ?_
                                                  refine T_p xr_170_273 xn_170 (pc' := 277) (ls' := [(6, .int (iI 1)), (7, .int (iI i)), (5, .int (iI k)), (3, .int (iI len)), (2, .int (iI kz)), (1, .int (iI n)), (0, .ref 530)]) (st' := [.int (iI (((10 * (nu3 n)) + (X_at tb len i)) - 48)), .int (iI n), .ref 551]) rfl ?_
                                                  refine T_ziast xr_170_277 h1451 (pc' := 278) rfl (fun S1452 h1453 n1454 e1455 => ?_)
                                                  refine T_ziinc xr_170_278 xn_170 (a := i) (z := i + 1) rfl (Nat.le_of_ble_eq_true rfl) (by omega) (ls' := [(7, .int (iI (i + 1))), (6, .int (iI 1)), (5, .int (iI k)), (3, .int (iI len)), (2, .int (iI kz)), (1, .int (iI n)), (0, .ref 530)]) rfl (pc' := 281) rfl ?_
                                                  refine T_p xr_170_281 xn_170 (pc' := 188) (ls' := [(7, .int (iI (i + 1))), (6, .int (iI 1)), (5, .int (iI k)), (3, .int (iI len)), (2, .int (iI kz)), (1, .int (iI n)), (0, .ref 530)]) (st' := []) rfl ?_
                                                  have h1456 := (n1454 549 (by decide)).trans (h1424)
                                                  exact ih1414 S1452 (i + 1) kz 1 (X_ug nn3 n (((nn3 n) <<< ((iI 8).toInt64 &&& 63)) ||| ((iI (X_at tb len i)).toInt64))) (X_ug nu3 n (((10 * (nu3 n)) + (X_at tb len i)) - 48)) h1456 h1453 (hF1417.tr (((X_Fr.rf).tr (X_Fr.of n1425 e1426 (by omega))).tr (X_Fr.of n1454 e1455 (by omega)))) (by omega) (by omega) hscz hez (by rw [X_ug_s, X_pk_s (by omega), ← hnn]; rfl) (by
                                                        rw [X_ug_s, X_rv_s (by omega)]
                                                        first
                                                        | (have hd : X_isD (X_at tb len i) := by assumption
                                                           unfold X_isD at hd
                                                           (repeat' split) <;> omega)
                                                        | (have hd : ¬ X_isD (X_at tb len i) := by assumption
                                                           unfold X_isD at hd
                                                           (repeat' split) <;> omega)
                                                        | ((repeat' split) <;> omega)) (by
                                                        rw [X_rv_s (by omega)]
                                                        first
                                                        | (have hd : X_isD (X_at tb len i) := by assumption
                                                           unfold X_isD at hd
                                                           (repeat' split) <;> omega)
                                                        | (have hd : ¬ X_isD (X_at tb len i) := by assumption
                                                           unfold X_isD at hd
                                                           (repeat' split) <;> omega)
                                                        | ((repeat' split) <;> omega)) (fun v h1 h2 => by rw [X_ug_n _ _ (by omega), X_ug_n _ _ (by omega)]; exact hold v h1 h2) (by omega)
                                      refine T_sub (ls := [(7, .int (iI k)), (6, .int (iI 1)), (5, .int (iI k)), (3, .int (iI len)), (2, .int (iI k2)), (1, .int (iI n)), (0, .ref 530)]) ⟨rfl, rfl, rfl, rfl, rfl, rfl, rfl, trivial⟩ rfl rfl ?_
                                      exact L1413 (len + 1).toNat S1409 k k2 1 (X_ug nna n (iL 0)) (X_ug nua n 0) h1418 h1410 ((X_Fr.rf)) (by omega) (by omega) (fun q h1 h2 => by first | exact hscan q h1 h2 | exact absurd h2 (by omega)) ⟨fun h1 h2 => by unfold X_ct at *; omega, fun h1 => by unfold X_ct at h1; omega⟩ (by rw [X_ug_s, show (k - k).toNat = 0 by omega]; rfl) (by rw [X_ug_s, show (k - k).toNat = 0 by omega]; rfl) (Or.inl ⟨rfl, by rw [show (k - k).toNat = 0 by omega]; exact (show ¬ (0 : Int) = -1 by omega)⟩) (fun v h1 h2 => by rw [X_ug_n _ _ (by omega), X_ug_n _ _ (by omega)]; exact hX3 v h1 h2) (by omega)
                                    · skip
                                      have c1402 : ¬ ((k2 - k) ≤ 8) := c1402
                                      have hnone : X_sn tb len len.toNat = none := by
                                        first
                                        | (exfalso; omega)
                                        | (have hck : X_ct (X_at tb len k) := by unfold X_ct; omega
                                           refine X_sn_9 (f := k) (by omega) hX1 (by omega) hck ?_ (fun q h1 h2 => hscan q h1 (by omega)) (by omega)
                                           by_cases hz : 0 < z
                                           · exact absurd hck (hX2 hz (by omega))
                                           · omega)
                                      refine T_p xr_170_165 xn_170 (pc' := 166) (ls' := [(5, .int (iI k)), (4, .int (iI (X_at tb len k))), (3, .int (iI len)), (2, .int (iI k2)), (1, .int (iI n)), (0, .ref 530)]) (st' := [.int (iI (-1))]) rfl ?_
                                      refine T_iret xr_170_166 xf_170.2.2 rfl ?_
                                      refine hQ _ _ ?_
                                      exact Or.inl ⟨nna, nua, rfl, hnone, h1053, hnna, hnua, ((X_Fr.rf).tr (X_Fr.of n968 e969 (by omega))).tr (X_Fr.mono ⟨hF974.1, hF974.2⟩ (fun q hq => (by omega)))⟩
                                  · skip
                                    have c1401 : ¬ ((tb k2) = 41) := c1401
                                    refine T_ziinc xr_170_150 xn_170 (a := k2) (z := k2 + 1) rfl (Nat.le_of_ble_eq_true rfl) (by omega) (ls' := [(2, .int (iI (k2 + 1))), (5, .int (iI k)), (4, .int (iI (X_at tb len k))), (3, .int (iI len)), (1, .int (iI n)), (0, .ref 530)]) rfl (pc' := 153) rfl ?_
                                    refine T_p xr_170_153 xn_170 (pc' := 79) (ls' := [(2, .int (iI (k2 + 1))), (5, .int (iI k)), (4, .int (iI (X_at tb len k))), (3, .int (iI len)), (1, .int (iI n)), (0, .ref 530)]) (st' := []) rfl ?_
                                    refine T_p xr_170_79 xn_170 (pc' := 81) (ls' := [(2, .int (iI (k2 + 1))), (5, .int (iI k)), (4, .int (iI (X_at tb len k))), (3, .int (iI len)), (1, .int (iI n)), (0, .ref 530)]) (st' := [.int (iI (X_at tb len k))]) rfl ?_
                                    refine T_p xr_170_81 xn_170 (pc' := 83) (ls' := [(2, .int (iI (k2 + 1))), (5, .int (iI k)), (4, .int (iI (X_at tb len k))), (3, .int (iI len)), (1, .int (iI n)), (0, .ref 530)]) (st' := [.int (iI 40), .int (iI (X_at tb len k))]) rfl ?_
                                    refine T_zicmp_eq xr_170_83 (t := 156) (pc' := 86) rfl rfl (fun c1457 => ?_) (fun c1457 => ?_)
                                    · skip
                                      have c1457 : (X_at tb len k) = 40 := c1457
                                      exact (show False by first | contradiction | omega).elim
                                    · skip
                                      have c1457 : ¬ ((X_at tb len k) = 40) := c1457
                                      refine T_p xr_170_86 xn_170 (pc' := 88) (ls' := [(2, .int (iI (k2 + 1))), (5, .int (iI k)), (4, .int (iI (X_at tb len k))), (3, .int (iI len)), (1, .int (iI n)), (0, .ref 530)]) (st' := [.int (iI (X_at tb len k))]) rfl ?_
                                      refine T_p xr_170_88 xn_170 (pc' := 90) (ls' := [(2, .int (iI (k2 + 1))), (5, .int (iI k)), (4, .int (iI (X_at tb len k))), (3, .int (iI len)), (1, .int (iI n)), (0, .ref 530)]) (st' := [.int (iI 41), .int (iI (X_at tb len k))]) rfl ?_
                                      refine T_zicmp_eq xr_170_90 (t := 156) (pc' := 93) rfl rfl (fun c1458 => ?_) (fun c1458 => ?_)
                                      · skip
                                        have c1458 : (X_at tb len k) = 41 := c1458
                                        exact (show False by first | contradiction | omega).elim
                                      · skip
                                        have c1458 : ¬ ((X_at tb len k) = 41) := c1458
                                        refine T_sub (ls := [(5, .int (iI k)), (4, .int (iI (X_at tb len k))), (3, .int (iI len)), (2, .int (iI (k2 + 1))), (1, .int (iI n)), (0, .ref 530)]) ⟨rfl, rfl, rfl, rfl, rfl, rfl, trivial⟩ rfl rfl ?_
                                        exact ih1173 (k2 + 1)  (by omega) (fun q h1 h2 => by
                                              by_cases hq : q = k2
                                              · rw [hq]; unfold X_ct; omega
                                              · exact hscan q h1 (by omega)) (by omega)
                      refine T_sub (ls := [(5, .int (iI k)), (4, .int (iI (X_at tb len k))), (3, .int (iI len)), (2, .int (iI (k + 1))), (1, .int (iI n)), (0, .ref 530)]) ⟨rfl, rfl, rfl, rfl, rfl, rfl, trivial⟩ rfl rfl ?_
                      exact L1172 (len + 1).toNat (k + 1)  (by omega) (fun q h1 h2 => absurd h2 (by omega)) (by omega)
                · skip
                  have c1059 : ¬ (¬ n = 30) := c1059
                  have hnone : X_sn tb len len.toNat = none := by
                    refine X_sn_x (k := k) (by omega) (by omega) ?_
                    rw [X_sn_s (by omega) hX1]
                    by_cases hc : X_at tb len k < 33 ∨ 126 < X_at tb len k
                    · exact X_sn1_x (by unfold X_isBl; omega) hc
                    · rw [X_sn1_n (by unfold X_isBl; omega) hc (fun y => hX2 y.1 (by omega) (by unfold X_ct; exact ⟨by omega, by omega, y.2⟩)), if_pos (by omega)]
                  refine T_p xr_170_71 xn_170 (pc' := 72) (ls' := [(4, .int (iI (X_at tb len k))), (3, .int (iI len)), (2, .int (iI k)), (1, .int (iI n)), (0, .ref 530)]) (st' := [.int (iI (-1))]) rfl ?_
                  refine T_iret xr_170_72 xf_170.2.2 rfl ?_
                  refine hQ _ _ ?_
                  exact Or.inl ⟨nna, nua, rfl, hnone, h1053, hnna, hnua, ((X_Fr.rf).tr (X_Fr.of n968 e969 (by omega))).tr (X_Fr.mono ⟨hF974.1, hF974.2⟩ (fun q hq => (by omega)))⟩
          · skip
            have c1056 : ¬ (¬ (X_at tb len k) = 10) := c1056
            refine T_ziinc xr_170_45 xn_170 (a := k) (z := k + 1) rfl (Nat.le_of_ble_eq_true rfl) (by omega) (ls' := [(2, .int (iI (k + 1))), (4, .int (iI (X_at tb len k))), (3, .int (iI len)), (1, .int (iI n)), (0, .ref 530)]) rfl (pc' := 48) rfl ?_
            refine T_p xr_170_48 xn_170 (pc' := 14) (ls' := [(2, .int (iI (k + 1))), (4, .int (iI (X_at tb len k))), (3, .int (iI len)), (1, .int (iI n)), (0, .ref 530)]) (st' := []) rfl ?_
            refine T_sub (ls := [(3, .int (iI len)), (2, .int (iI (k + 1))), (1, .int (iI n)), (0, .ref 530)]) ⟨rfl, rfl, rfl, rfl, trivial⟩ rfl rfl ?_
            exact ih971 S977 n (k + 1) nna nua hnna hnua (hF974.tr (X_Fr.rf)) (by omega) (by omega) ⟨0, t, by rw [X_sn_s (by omega) hX1]; exact X_sn1_b (by unfold X_isBl; omega), by omega, fun y => absurd y (by omega), hX3⟩ (by omega)
  exact L970 (len + 1).toNat S966 0 0 nn nu h975 h976 ((X_Fr.rf)) (by omega) (by omega) ⟨0, fun _ => 0, rfl, by omega, fun y => absurd y (by omega), fun v h1 h2 => absurd h2 (by omega)⟩ (by omega)
