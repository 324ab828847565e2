theorem xr_189_0 : X_row 189 0 = some (0, (.bipush 30, 2), (0, 0, 0)) := by decide +kernel
theorem xr_189_2 : X_row 189 2 = some (2, (.aload_n 0, 1), (0, 0, 0)) := by decide +kernel
theorem xr_189_3 : X_row 189 3 = some (3, (.getfield 91, 3), (11, 4, 8)) := by decide +kernel
theorem xr_189_6 : X_row 189 6 = some (6, (.imul, 1), (0, 0, 0)) := by decide +kernel
theorem xr_189_7 : X_row 189 7 = some (7, (.iload_n 1, 1), (0, 0, 0)) := by decide +kernel
theorem xr_189_8 : X_row 189 8 = some (8, (.iadd, 1), (0, 0, 0)) := by decide +kernel
theorem xr_189_9 : X_row 189 9 = some (9, (.istore 7, 2), (0, 0, 0)) := by decide +kernel
theorem xr_189_11 : X_row 189 11 = some (11, (.aload_n 0, 1), (0, 0, 0)) := by decide +kernel
theorem xr_189_12 : X_row 189 12 = some (12, (.iload_n 1, 1), (0, 0, 0)) := by decide +kernel
theorem xr_189_13 : X_row 189 13 = some (13, (.iload_n 3, 1), (0, 0, 0)) := by decide +kernel
theorem xr_189_14 : X_row 189 14 = some (14, (.invokevirtual 396, 3), (188, 84, 0)) := by decide +kernel
theorem xr_189_17 : X_row 189 17 = some (17, (.lload 4, 2), (0, 0, 0)) := by decide +kernel
theorem xr_189_19 : X_row 189 19 = some (19, (.lstore 8, 2), (0, 0, 0)) := by decide +kernel
theorem xr_189_21 : X_row 189 21 = some (21, (.lconst 1, 1), (0, 0, 0)) := by decide +kernel
theorem xr_189_22 : X_row 189 22 = some (22, (.lstore 10, 2), (0, 0, 0)) := by decide +kernel
theorem xr_189_24 : X_row 189 24 = some (24, (.iload_n 2, 1), (0, 0, 0)) := by decide +kernel
theorem xr_189_25 : X_row 189 25 = some (25, (.istore 12, 2), (0, 0, 0)) := by decide +kernel
theorem xr_189_27 : X_row 189 27 = some (27, (.iconst 0, 1), (0, 0, 0)) := by decide +kernel
theorem xr_189_28 : X_row 189 28 = some (28, (.istore 13, 2), (0, 0, 0)) := by decide +kernel
theorem xr_189_30 : X_row 189 30 = some (30, (.iconst 0, 1), (0, 0, 0)) := by decide +kernel
theorem xr_189_31 : X_row 189 31 = some (31, (.istore 14, 2), (0, 0, 0)) := by decide +kernel
theorem xr_189_33 : X_row 189 33 = some (33, (.iload 14, 2), (0, 0, 0)) := by decide +kernel
theorem xr_189_35 : X_row 189 35 = some (35, (.aload_n 0, 1), (0, 0, 0)) := by decide +kernel
theorem xr_189_36 : X_row 189 36 = some (36, (.getfield 150, 3), (11, 20, 40)) := by decide +kernel
theorem xr_189_39 : X_row 189 39 = some (39, (.iload 7, 2), (0, 0, 0)) := by decide +kernel
theorem xr_189_41 : X_row 189 41 = some (41, (.iaload, 1), (0, 0, 0)) := by decide +kernel
theorem xr_189_42 : X_row 189 42 = some (42, (.if_icmp .ge 183, 3), (0, 0, 0)) := by decide +kernel
theorem xr_189_45 : X_row 189 45 = some (45, (.aload_n 0, 1), (0, 0, 0)) := by decide +kernel
theorem xr_189_46 : X_row 189 46 = some (46, (.getfield 168, 3), (11, 25, 50)) := by decide +kernel
theorem xr_189_49 : X_row 189 49 = some (49, (.bipush 8, 2), (0, 0, 0)) := by decide +kernel
theorem xr_189_51 : X_row 189 51 = some (51, (.iload 7, 2), (0, 0, 0)) := by decide +kernel
theorem xr_189_53 : X_row 189 53 = some (53, (.imul, 1), (0, 0, 0)) := by decide +kernel
theorem xr_189_54 : X_row 189 54 = some (54, (.iload 14, 2), (0, 0, 0)) := by decide +kernel
theorem xr_189_56 : X_row 189 56 = some (56, (.iadd, 1), (0, 0, 0)) := by decide +kernel
theorem xr_189_57 : X_row 189 57 = some (57, (.laload, 1), (0, 0, 0)) := by decide +kernel
theorem xr_189_58 : X_row 189 58 = some (58, (.lconst 0, 1), (0, 0, 0)) := by decide +kernel
theorem xr_189_59 : X_row 189 59 = some (59, (.lcmp, 1), (0, 0, 0)) := by decide +kernel
theorem xr_189_60 : X_row 189 60 = some (60, (.ifCond .eq 9, 3), (0, 0, 0)) := by decide +kernel
theorem xr_189_63 : X_row 189 63 = some (63, (.iinc 12 1, 3), (0, 0, 0)) := by decide +kernel
theorem xr_189_66 : X_row 189 66 = some (66, (.goto 153, 3), (0, 0, 0)) := by decide +kernel
theorem xr_189_69 : X_row 189 69 = some (69, (.iload 12, 2), (0, 0, 0)) := by decide +kernel
theorem xr_189_71 : X_row 189 71 = some (71, (.istore 15, 2), (0, 0, 0)) := by decide +kernel
theorem xr_189_73 : X_row 189 73 = some (73, (.iconst 0, 1), (0, 0, 0)) := by decide +kernel
theorem xr_189_74 : X_row 189 74 = some (74, (.istore 16, 2), (0, 0, 0)) := by decide +kernel
theorem xr_189_76 : X_row 189 76 = some (76, (.lconst 0, 1), (0, 0, 0)) := by decide +kernel
theorem xr_189_77 : X_row 189 77 = some (77, (.lstore 17, 2), (0, 0, 0)) := by decide +kernel
theorem xr_189_79 : X_row 189 79 = some (79, (.iload 16, 2), (0, 0, 0)) := by decide +kernel
theorem xr_189_81 : X_row 189 81 = some (81, (.ifCond .ne 95, 3), (0, 0, 0)) := by decide +kernel
theorem xr_189_84 : X_row 189 84 = some (84, (.iinc 15 1, 3), (0, 0, 0)) := by decide +kernel
theorem xr_189_87 : X_row 189 87 = some (87, (.aload_n 0, 1), (0, 0, 0)) := by decide +kernel
theorem xr_189_88 : X_row 189 88 = some (88, (.getfield 213, 3), (11, 41, 82)) := by decide +kernel
theorem xr_189_91 : X_row 189 91 = some (91, (.sipush 961, 3), (0, 0, 0)) := by decide +kernel
theorem xr_189_94 : X_row 189 94 = some (94, (.iconst 4, 1), (0, 0, 0)) := by decide +kernel
theorem xr_189_95 : X_row 189 95 = some (95, (.iload_n 1, 1), (0, 0, 0)) := by decide +kernel
theorem xr_189_96 : X_row 189 96 = some (96, (.imul, 1), (0, 0, 0)) := by decide +kernel
theorem xr_189_97 : X_row 189 97 = some (97, (.iload 13, 2), (0, 0, 0)) := by decide +kernel
theorem xr_189_99 : X_row 189 99 = some (99, (.iadd, 1), (0, 0, 0)) := by decide +kernel
theorem xr_189_100 : X_row 189 100 = some (100, (.imul, 1), (0, 0, 0)) := by decide +kernel
theorem xr_189_101 : X_row 189 101 = some (101, (.iload 12, 2), (0, 0, 0)) := by decide +kernel
theorem xr_189_103 : X_row 189 103 = some (103, (.iload 15, 2), (0, 0, 0)) := by decide +kernel
theorem xr_189_105 : X_row 189 105 = some (105, (.invokestatic 337, 3), (173, 56, 0)) := by decide +kernel
theorem xr_189_108 : X_row 189 108 = some (108, (.iadd, 1), (0, 0, 0)) := by decide +kernel
theorem xr_189_109 : X_row 189 109 = some (109, (.laload, 1), (0, 0, 0)) := by decide +kernel
theorem xr_189_110 : X_row 189 110 = some (110, (.lstore 17, 2), (0, 0, 0)) := by decide +kernel
theorem xr_189_112 : X_row 189 112 = some (112, (.lload 10, 2), (0, 0, 0)) := by decide +kernel
theorem xr_189_114 : X_row 189 114 = some (114, (.lload 17, 2), (0, 0, 0)) := by decide +kernel
theorem xr_189_116 : X_row 189 116 = some (116, (.aload_n 0, 1), (0, 0, 0)) := by decide +kernel
theorem xr_189_117 : X_row 189 117 = some (117, (.getfield 270, 3), (11, 62, 124)) := by decide +kernel
theorem xr_189_120 : X_row 189 120 = some (120, (.bipush 32, 2), (0, 0, 0)) := by decide +kernel
theorem xr_189_122 : X_row 189 122 = some (122, (.iload 14, 2), (0, 0, 0)) := by decide +kernel
theorem xr_189_124 : X_row 189 124 = some (124, (.iconst 1, 1), (0, 0, 0)) := by decide +kernel
theorem xr_189_125 : X_row 189 125 = some (125, (.iadd, 1), (0, 0, 0)) := by decide +kernel
theorem xr_189_126 : X_row 189 126 = some (126, (.imul, 1), (0, 0, 0)) := by decide +kernel
theorem xr_189_127 : X_row 189 127 = some (127, (.iload 15, 2), (0, 0, 0)) := by decide +kernel
theorem xr_189_129 : X_row 189 129 = some (129, (.iadd, 1), (0, 0, 0)) := by decide +kernel
theorem xr_189_130 : X_row 189 130 = some (130, (.laload, 1), (0, 0, 0)) := by decide +kernel
theorem xr_189_131 : X_row 189 131 = some (131, (.invokestatic 366, 3), (172, 62, 0)) := by decide +kernel
theorem xr_189_134 : X_row 189 134 = some (134, (.invokestatic 366, 3), (172, 62, 0)) := by decide +kernel
theorem xr_189_137 : X_row 189 137 = some (137, (.lstore 19, 2), (0, 0, 0)) := by decide +kernel
theorem xr_189_139 : X_row 189 139 = some (139, (.lload 19, 2), (0, 0, 0)) := by decide +kernel
theorem xr_189_141 : X_row 189 141 = some (141, (.lconst 0, 1), (0, 0, 0)) := by decide +kernel
theorem xr_189_142 : X_row 189 142 = some (142, (.lcmp, 1), (0, 0, 0)) := by decide +kernel
theorem xr_189_143 : X_row 189 143 = some (143, (.ifCond .lt 11, 3), (0, 0, 0)) := by decide +kernel
theorem xr_189_146 : X_row 189 146 = some (146, (.lload 8, 2), (0, 0, 0)) := by decide +kernel
theorem xr_189_148 : X_row 189 148 = some (148, (.lload 19, 2), (0, 0, 0)) := by decide +kernel
theorem xr_189_150 : X_row 189 150 = some (150, (.lcmp, 1), (0, 0, 0)) := by decide +kernel
theorem xr_189_151 : X_row 189 151 = some (151, (.ifCond .ge 7, 3), (0, 0, 0)) := by decide +kernel
theorem xr_189_154 : X_row 189 154 = some (154, (.iconst 1, 1), (0, 0, 0)) := by decide +kernel
theorem xr_189_155 : X_row 189 155 = some (155, (.goto 4, 3), (0, 0, 0)) := by decide +kernel
theorem xr_189_158 : X_row 189 158 = some (158, (.iconst 0, 1), (0, 0, 0)) := by decide +kernel
theorem xr_189_159 : X_row 189 159 = some (159, (.istore 16, 2), (0, 0, 0)) := by decide +kernel
theorem xr_189_161 : X_row 189 161 = some (161, (.iload 16, 2), (0, 0, 0)) := by decide +kernel
theorem xr_189_163 : X_row 189 163 = some (163, (.ifCond .ne 10, 3), (0, 0, 0)) := by decide +kernel
theorem xr_189_166 : X_row 189 166 = some (166, (.lload 8, 2), (0, 0, 0)) := by decide +kernel
theorem xr_189_168 : X_row 189 168 = some (168, (.lload 19, 2), (0, 0, 0)) := by decide +kernel
theorem xr_189_170 : X_row 189 170 = some (170, (.lsub, 1), (0, 0, 0)) := by decide +kernel
theorem xr_189_171 : X_row 189 171 = some (171, (.lstore 8, 2), (0, 0, 0)) := by decide +kernel
theorem xr_189_173 : X_row 189 173 = some (173, (.goto (-94), 3), (0, 0, 0)) := by decide +kernel
theorem xr_189_176 : X_row 189 176 = some (176, (.aload_n 0, 1), (0, 0, 0)) := by decide +kernel
theorem xr_189_177 : X_row 189 177 = some (177, (.getfield 261, 3), (11, 59, 118)) := by decide +kernel
theorem xr_189_180 : X_row 189 180 = some (180, (.iload 13, 2), (0, 0, 0)) := by decide +kernel
theorem xr_189_182 : X_row 189 182 = some (182, (.iload 12, 2), (0, 0, 0)) := by decide +kernel
theorem xr_189_184 : X_row 189 184 = some (184, (.iastore, 1), (0, 0, 0)) := by decide +kernel
theorem xr_189_185 : X_row 189 185 = some (185, (.aload_n 0, 1), (0, 0, 0)) := by decide +kernel
theorem xr_189_186 : X_row 189 186 = some (186, (.getfield 264, 3), (11, 60, 120)) := by decide +kernel
theorem xr_189_189 : X_row 189 189 = some (189, (.iload 13, 2), (0, 0, 0)) := by decide +kernel
theorem xr_189_191 : X_row 189 191 = some (191, (.iload 15, 2), (0, 0, 0)) := by decide +kernel
theorem xr_189_193 : X_row 189 193 = some (193, (.iastore, 1), (0, 0, 0)) := by decide +kernel
theorem xr_189_194 : X_row 189 194 = some (194, (.aload_n 0, 1), (0, 0, 0)) := by decide +kernel
theorem xr_189_195 : X_row 189 195 = some (195, (.getfield 267, 3), (11, 61, 122)) := by decide +kernel
theorem xr_189_198 : X_row 189 198 = some (198, (.iload 13, 2), (0, 0, 0)) := by decide +kernel
theorem xr_189_200 : X_row 189 200 = some (200, (.lload 17, 2), (0, 0, 0)) := by decide +kernel
theorem xr_189_202 : X_row 189 202 = some (202, (.lastore, 1), (0, 0, 0)) := by decide +kernel
theorem xr_189_203 : X_row 189 203 = some (203, (.lload 10, 2), (0, 0, 0)) := by decide +kernel
theorem xr_189_205 : X_row 189 205 = some (205, (.lload 17, 2), (0, 0, 0)) := by decide +kernel
theorem xr_189_207 : X_row 189 207 = some (207, (.invokestatic 366, 3), (172, 62, 0)) := by decide +kernel
theorem xr_189_210 : X_row 189 210 = some (210, (.lstore 10, 2), (0, 0, 0)) := by decide +kernel
theorem xr_189_212 : X_row 189 212 = some (212, (.iload 15, 2), (0, 0, 0)) := by decide +kernel
theorem xr_189_214 : X_row 189 214 = some (214, (.istore 12, 2), (0, 0, 0)) := by decide +kernel
theorem xr_189_216 : X_row 189 216 = some (216, (.iinc 13 1, 3), (0, 0, 0)) := by decide +kernel
theorem xr_189_219 : X_row 189 219 = some (219, (.iinc 14 1, 3), (0, 0, 0)) := by decide +kernel
theorem xr_189_222 : X_row 189 222 = some (222, (.goto (-189), 3), (0, 0, 0)) := by decide +kernel
theorem xr_189_225 : X_row 189 225 = some (225, (.iload 13, 2), (0, 0, 0)) := by decide +kernel
theorem xr_189_227 : X_row 189 227 = some (227, (.iconst 1, 1), (0, 0, 0)) := by decide +kernel
theorem xr_189_228 : X_row 189 228 = some (228, (.isub, 1), (0, 0, 0)) := by decide +kernel
theorem xr_189_229 : X_row 189 229 = some (229, (.istore 14, 2), (0, 0, 0)) := by decide +kernel
theorem xr_189_231 : X_row 189 231 = some (231, (.iload 14, 2), (0, 0, 0)) := by decide +kernel
theorem xr_189_233 : X_row 189 233 = some (233, (.ifCond .lt 110, 3), (0, 0, 0)) := by decide +kernel
theorem xr_189_236 : X_row 189 236 = some (236, (.aload_n 0, 1), (0, 0, 0)) := by decide +kernel
theorem xr_189_237 : X_row 189 237 = some (237, (.getfield 267, 3), (11, 61, 122)) := by decide +kernel
theorem xr_189_240 : X_row 189 240 = some (240, (.iload 14, 2), (0, 0, 0)) := by decide +kernel
theorem xr_189_242 : X_row 189 242 = some (242, (.laload, 1), (0, 0, 0)) := by decide +kernel
theorem xr_189_243 : X_row 189 243 = some (243, (.lconst 0, 1), (0, 0, 0)) := by decide +kernel
theorem xr_189_244 : X_row 189 244 = some (244, (.lcmp, 1), (0, 0, 0)) := by decide +kernel
theorem xr_189_245 : X_row 189 245 = some (245, (.ifCond .ge 8, 3), (0, 0, 0)) := by decide +kernel
theorem xr_189_248 : X_row 189 248 = some (248, (.lload 8, 2), (0, 0, 0)) := by decide +kernel
theorem xr_189_250 : X_row 189 250 = some (250, (.goto 13, 3), (0, 0, 0)) := by decide +kernel
theorem xr_189_253 : X_row 189 253 = some (253, (.lload 8, 2), (0, 0, 0)) := by decide +kernel
theorem xr_189_255 : X_row 189 255 = some (255, (.aload_n 0, 1), (0, 0, 0)) := by decide +kernel
theorem xr_189_256 : X_row 189 256 = some (256, (.getfield 267, 3), (11, 61, 122)) := by decide +kernel
theorem xr_189_259 : X_row 189 259 = some (259, (.iload 14, 2), (0, 0, 0)) := by decide +kernel
theorem xr_189_261 : X_row 189 261 = some (261, (.laload, 1), (0, 0, 0)) := by decide +kernel
theorem xr_189_262 : X_row 189 262 = some (262, (.lrem, 1), (0, 0, 0)) := by decide +kernel
theorem xr_189_263 : X_row 189 263 = some (263, (.lstore 15, 2), (0, 0, 0)) := by decide +kernel
theorem xr_189_265 : X_row 189 265 = some (265, (.aload_n 0, 1), (0, 0, 0)) := by decide +kernel
theorem xr_189_266 : X_row 189 266 = some (266, (.getfield 267, 3), (11, 61, 122)) := by decide +kernel
theorem xr_189_269 : X_row 189 269 = some (269, (.iload 14, 2), (0, 0, 0)) := by decide +kernel
theorem xr_189_271 : X_row 189 271 = some (271, (.laload, 1), (0, 0, 0)) := by decide +kernel
theorem xr_189_272 : X_row 189 272 = some (272, (.lconst 0, 1), (0, 0, 0)) := by decide +kernel
theorem xr_189_273 : X_row 189 273 = some (273, (.lcmp, 1), (0, 0, 0)) := by decide +kernel
theorem xr_189_274 : X_row 189 274 = some (274, (.ifCond .ge 7, 3), (0, 0, 0)) := by decide +kernel
theorem xr_189_277 : X_row 189 277 = some (277, (.lconst 0, 1), (0, 0, 0)) := by decide +kernel
theorem xr_189_278 : X_row 189 278 = some (278, (.goto 13, 3), (0, 0, 0)) := by decide +kernel
theorem xr_189_281 : X_row 189 281 = some (281, (.lload 8, 2), (0, 0, 0)) := by decide +kernel
theorem xr_189_283 : X_row 189 283 = some (283, (.aload_n 0, 1), (0, 0, 0)) := by decide +kernel
theorem xr_189_284 : X_row 189 284 = some (284, (.getfield 267, 3), (11, 61, 122)) := by decide +kernel
theorem xr_189_287 : X_row 189 287 = some (287, (.iload 14, 2), (0, 0, 0)) := by decide +kernel
theorem xr_189_289 : X_row 189 289 = some (289, (.laload, 1), (0, 0, 0)) := by decide +kernel
theorem xr_189_290 : X_row 189 290 = some (290, (.ldiv, 1), (0, 0, 0)) := by decide +kernel
theorem xr_189_291 : X_row 189 291 = some (291, (.lstore 8, 2), (0, 0, 0)) := by decide +kernel
theorem xr_189_293 : X_row 189 293 = some (293, (.aload_n 0, 1), (0, 0, 0)) := by decide +kernel
theorem xr_189_294 : X_row 189 294 = some (294, (.aload_n 0, 1), (0, 0, 0)) := by decide +kernel
theorem xr_189_295 : X_row 189 295 = some (295, (.getfield 261, 3), (11, 59, 118)) := by decide +kernel
theorem xr_189_298 : X_row 189 298 = some (298, (.iload 14, 2), (0, 0, 0)) := by decide +kernel
theorem xr_189_300 : X_row 189 300 = some (300, (.iaload, 1), (0, 0, 0)) := by decide +kernel
theorem xr_189_301 : X_row 189 301 = some (301, (.aload_n 0, 1), (0, 0, 0)) := by decide +kernel
theorem xr_189_302 : X_row 189 302 = some (302, (.getfield 264, 3), (11, 60, 120)) := by decide +kernel
theorem xr_189_305 : X_row 189 305 = some (305, (.iload 14, 2), (0, 0, 0)) := by decide +kernel
theorem xr_189_307 : X_row 189 307 = some (307, (.iaload, 1), (0, 0, 0)) := by decide +kernel
theorem xr_189_308 : X_row 189 308 = some (308, (.aload_n 0, 1), (0, 0, 0)) := by decide +kernel
theorem xr_189_309 : X_row 189 309 = some (309, (.getfield 174, 3), (11, 27, 54)) := by decide +kernel
theorem xr_189_312 : X_row 189 312 = some (312, (.iconst 4, 1), (0, 0, 0)) := by decide +kernel
theorem xr_189_313 : X_row 189 313 = some (313, (.iload 7, 2), (0, 0, 0)) := by decide +kernel
theorem xr_189_315 : X_row 189 315 = some (315, (.imul, 1), (0, 0, 0)) := by decide +kernel
theorem xr_189_316 : X_row 189 316 = some (316, (.iload 14, 2), (0, 0, 0)) := by decide +kernel
theorem xr_189_318 : X_row 189 318 = some (318, (.iadd, 1), (0, 0, 0)) := by decide +kernel
theorem xr_189_319 : X_row 189 319 = some (319, (.iaload, 1), (0, 0, 0)) := by decide +kernel
theorem xr_189_320 : X_row 189 320 = some (320, (.iload_n 1, 1), (0, 0, 0)) := by decide +kernel
theorem xr_189_321 : X_row 189 321 = some (321, (.aload_n 0, 1), (0, 0, 0)) := by decide +kernel
theorem xr_189_322 : X_row 189 322 = some (322, (.iload_n 1, 1), (0, 0, 0)) := by decide +kernel
theorem xr_189_323 : X_row 189 323 = some (323, (.iload 14, 2), (0, 0, 0)) := by decide +kernel
theorem xr_189_325 : X_row 189 325 = some (325, (.invokevirtual 369, 3), (180, 72, 0)) := by decide +kernel
theorem xr_189_328 : X_row 189 328 = some (328, (.lload 15, 2), (0, 0, 0)) := by decide +kernel
theorem xr_189_330 : X_row 189 330 = some (330, (.iload 6, 2), (0, 0, 0)) := by decide +kernel
theorem xr_189_332 : X_row 189 332 = some (332, (.iload 14, 2), (0, 0, 0)) := by decide +kernel
theorem xr_189_334 : X_row 189 334 = some (334, (.invokevirtual 385, 3), (185, 78, 0)) := by decide +kernel
theorem xr_189_337 : X_row 189 337 = some (337, (.iinc 14 (-1), 3), (0, 0, 0)) := by decide +kernel
theorem xr_189_340 : X_row 189 340 = some (340, (.goto (-109), 3), (0, 0, 0)) := by decide +kernel
theorem xr_189_343 : X_row 189 343 = some (343, (.return_, 1), (0, 0, 0)) := by decide +kernel
theorem xn_189 : X_nL 189 = 21 := by decide +kernel
theorem xf_189 : X_na 189 = 5 ∧ X_ci 189 = 11 ∧ X_rt 189 = none := by decide +kernel
set_option maxHeartbeats 1600000 in
theorem r_cut (sc : X_Sc) (S : X_S) (wM : Int → Int) (wH : Int → Int) (eP : Int → Int64) (eH : Int → Int) (hK : Int → Int) (tT : Int → Int64) (oW : Int → Int64) (oK : Int → Int64) (oH : Int → Int64) (pF : Int → Int) (pT : Int → Int) (pS : Int → Int) (pH : Int → Int) (pW : Int → Int) (pP : Int → Int) (pQ : Int → Int) (pN : Int → Int64) (cF : Int → Int) (cT : Int → Int) (cN : Int → Int64) (rr : Int → Int64) (o : Nat → Int) (nm : Int64) (b : Int) (rc : Int) (G : X_G) (tn : Int) (hp : Int) (w : Int) (i : Int) (j : Int) (k2 : Nat) (node : Int) (St : Int → X_It) (hO530 : S.1 530 = .inr (11, [.ref 531, .int (iI (o 1)), .ref 532, .int (iI (o 3)), .int (iI b), .int (iI (o 5)), .int (iI (o 6)), .int (iI (o 7)), .int (iI (o 8)), .int (iI (o 9)), .int (iI (o 10)), .int (iI (o 11)), .long nm, .ref 533, .ref 534, .ref 535, .ref 536, .ref 537, .ref 538, .ref 539, .ref 540, .ref 541, .ref 542, .ref 543, .ref 544, .ref 545, .ref 546, .ref 547, .int (iI rc), .int (iI (gk G)), .int (iI (gw G)), .int (iI (o 31)), .int (iI (o 32)), .int (iI (o 33)), .ref 548, .ref 549, .ref 550, .ref 551, .int (iI tn), .ref 552, .ref 553, .ref 554, .ref 555, .ref 556, .ref 557, .ref 558, .ref 559, .ref 560, .ref 561, .int (iI (o 49)), .ref 562, .ref 563, .ref 564, .ref 565, .ref 566, .ref 567, .ref 568, .ref 569, .int (iI hp), .ref 570, .ref 571, .ref 572, .ref 573, .ref 574, .ref 575, .ref 576, .ref 577, .ref 578, .int (iI (o 68)), .int (iI (o 69)), .int (iI (o 70)), .ref 579])) (hA540 : S.1 540 = .inl (.int, 60, .inl fun k : Nat => iI (wM (k : Int)))) (hA541 : S.1 541 = .inl (.int, 60, .inl fun k : Nat => iI (wH (k : Int)))) (hA545 : S.1 545 = .inl (.long, 480, .inr (.inl fun k : Nat => eP (k : Int)))) (hA546 : S.1 546 = .inl (.int, 480, .inl fun k : Nat => iI (eH (k : Int)))) (hA547 : S.1 547 = .inl (.int, 240, .inl fun k : Nat => iI (hK (k : Int)))) (hA548 : S.1 548 = .inl (.long, 30, .inr (.inl fun k : Nat => tT (k : Int)))) (hA552 : S.1 552 = .inl (.long, 28830, .inr (.inl fun k : Nat => oW (k : Int)))) (hA553 : S.1 553 = .inl (.long, 10571, .inr (.inl fun k : Nat => oK (k : Int)))) (hA554 : S.1 554 = .inl (.long, 115320, .inr (.inl fun k : Nat => oH (k : Int)))) (hA562 : S.1 562 = .inl (.int, 160, .inl fun k : Nat => iI (pF (k : Int)))) (hA563 : S.1 563 = .inl (.int, 160, .inl fun k : Nat => iI (pT (k : Int)))) (hA564 : S.1 564 = .inl (.int, 160, .inl fun k : Nat => iI (pS (k : Int)))) (hA565 : S.1 565 = .inl (.int, 160, .inl fun k : Nat => iI (pH (k : Int)))) (hA566 : S.1 566 = .inl (.int, 160, .inl fun k : Nat => iI (pW (k : Int)))) (hA567 : S.1 567 = .inl (.int, 160, .inl fun k : Nat => iI (pP (k : Int)))) (hA568 : S.1 568 = .inl (.int, 160, .inl fun k : Nat => iI (pQ (k : Int)))) (hA569 : S.1 569 = .inl (.long, 160, .inr (.inl fun k : Nat => pN (k : Int)))) (hA570 : S.1 570 = .inl (.int, 4, .inl fun k : Nat => iI (cF (k : Int)))) (hA571 : S.1 571 = .inl (.int, 4, .inl fun k : Nat => iI (cT (k : Int)))) (hA572 : S.1 572 = .inl (.long, 4, .inr (.inl fun k : Nat => cN (k : Int)))) (hA573 : S.1 573 = .inl (.long, 288, .inr (.inl fun k : Nat => rr (k : Int)))) (hbr : 0 ≤ b ∧ b ≤ 1) (hG : X_Gok G) (htn : 0 ≤ tn ∧ tn ≤ 30) (hTT : ∀ t, 0 ≤ t → t < tn → tT t = gt G t) (hWM : ∀ w, 0 ≤ w → w < gw G → wM (30 * b + w) = gD G w 3 0) (hWH : ∀ w, 0 ≤ w → w < gw G → wH (30 * b + w) = gD G w 4 0) (hEP : ∀ w, 0 ≤ w → w < gw G → ∀ e, 0 ≤ e → e < gD G w 3 0 → eP (8 * (30 * b + w) + e) = gW G w e) (hEH : ∀ w, 0 ≤ w → w < gw G → ∀ e, 0 ≤ e → e < gD G w 3 0 → gW G w e = 0 → eH (8 * (30 * b + w) + e) = gD G w 8 e) (hHK : ∀ w, 0 ≤ w → w < gw G → ∀ h, 0 ≤ h → h < gD G w 4 0 → hK (4 * (30 * b + w) + h) = gD G w 9 h) (hw : 0 ≤ w ∧ w < gw G) (hij : 0 ≤ i ∧ i < j ∧ j ≤ tn) (hCt : R_ct G tn oW oK oH) (hk2 : k2 < (X_T_ G).1 w i j) (hkm : k2 ≤ 9223372036854775807) (hhp : 0 ≤ hp ∧ hp < 60) (hpl : R_pl hp St pF pT pS pH pW pP pQ pN) : X_T sc 189 (0, [(0, .ref 530), (1, .int (iI w)), (2, .int (iI i)), (3, .int (iI j)), (4, .long (iL (k2 : Int))), (6, .int (iI node))], [], S) (fun v S' => ∃ (l1 : Nat) (HF : Int → Int) (HE : Int → Int) (hp1 : Int) (St1 : Int → X_It) (pF1 : Int → Int) (pT1 : Int → Int) (pS1 : Int → Int) (pH1 : Int → Int) (pW1 : Int → Int) (pP1 : Int → Int) (pQ1 : Int → Int) (pN1 : Int → Int64) (cF1 : Int → Int) (cT1 : Int → Int) (cN1 : Int → Int64) (rr1 : Int → Int64), v = none ∧ X_spl G w j (gD G w 3 0).toNat 0 i k2 1 (fun _ => 0) (fun _ => 0) = (l1, HF, HE) ∧ X_pus G w node HF HE (gD G w 4 0).toNat l1 (hp, St) = (hp1, St1) ∧ R_pl hp1 St1 pF1 pT1 pS1 pH1 pW1 pP1 pQ1 pN1 ∧ l1 ≤ 9223372036854775807 ∧ S'.1 530 = .inr (11, [.ref 531, .int (iI (o 1)), .ref 532, .int (iI (o 3)), .int (iI b), .int (iI (o 5)), .int (iI (o 6)), .int (iI (o 7)), .int (iI (o 8)), .int (iI (o 9)), .int (iI (o 10)), .int (iI (o 11)), .long nm, .ref 533, .ref 534, .ref 535, .ref 536, .ref 537, .ref 538, .ref 539, .ref 540, .ref 541, .ref 542, .ref 543, .ref 544, .ref 545, .ref 546, .ref 547, .int (iI rc), .int (iI (gk G)), .int (iI (gw G)), .int (iI (o 31)), .int (iI (o 32)), .int (iI (o 33)), .ref 548, .ref 549, .ref 550, .ref 551, .int (iI tn), .ref 552, .ref 553, .ref 554, .ref 555, .ref 556, .ref 557, .ref 558, .ref 559, .ref 560, .ref 561, .int (iI (o 49)), .ref 562, .ref 563, .ref 564, .ref 565, .ref 566, .ref 567, .ref 568, .ref 569, .int (iI hp1), .ref 570, .ref 571, .ref 572, .ref 573, .ref 574, .ref 575, .ref 576, .ref 577, .ref 578, .int (iI (o 68)), .int (iI (o 69)), .int (iI (o 70)), .ref 579]) ∧ S'.1 562 = .inl (.int, 160, .inl fun k : Nat => iI (pF1 (k : Int))) ∧ S'.1 563 = .inl (.int, 160, .inl fun k : Nat => iI (pT1 (k : Int))) ∧ S'.1 564 = .inl (.int, 160, .inl fun k : Nat => iI (pS1 (k : Int))) ∧ S'.1 565 = .inl (.int, 160, .inl fun k : Nat => iI (pH1 (k : Int))) ∧ S'.1 566 = .inl (.int, 160, .inl fun k : Nat => iI (pW1 (k : Int))) ∧ S'.1 567 = .inl (.int, 160, .inl fun k : Nat => iI (pP1 (k : Int))) ∧ S'.1 568 = .inl (.int, 160, .inl fun k : Nat => iI (pQ1 (k : Int))) ∧ S'.1 569 = .inl (.long, 160, .inr (.inl fun k : Nat => pN1 (k : Int))) ∧ S'.1 570 = .inl (.int, 4, .inl fun k : Nat => iI (cF1 (k : Int))) ∧ S'.1 571 = .inl (.int, 4, .inl fun k : Nat => iI (cT1 (k : Int))) ∧ S'.1 572 = .inl (.long, 4, .inr (.inl fun k : Nat => cN1 (k : Int))) ∧ S'.1 573 = .inl (.long, 288, .inr (.inl fun k : Nat => rr1 (k : Int))) ∧ (X_Fr (fun q => q = 530 ∨ (562 ≤ q ∧ q ≤ 573)) S S')) := by
  have hgw := hG.2.2.2 w hw.1 hw.2
  have hsz := hgw.1
  have hgh := hgw.2.1
  have hc1 := hG.1
  have hE0 : k2 < 1 * X_Ew G (X_T_ G) w 0 i j := by rw [Nat.one_mul, ← X_T_W hgw.2.2.1 hij.2.1 (by omega)]; exact hk2
  have h4n := hgw.2.2.2.2.2.2.1
  refine X_QI (fun Q hQ => ?_)
  refine T_p xr_189_0 xn_189 (pc' := 2) (ls' := [(0, .ref 530), (1, .int (iI w)), (2, .int (iI i)), (3, .int (iI j)), (4, .long (iL (k2 : Int))), (6, .int (iI node))]) (st' := [.int (iI 30)]) rfl ?_
  refine T_p xr_189_2 xn_189 (pc' := 3) (ls' := [(0, .ref 530), (1, .int (iI w)), (2, .int (iI i)), (3, .int (iI j)), (4, .long (iL (k2 : Int))), (6, .int (iI node))]) (st' := [.ref 530, .int (iI 30)]) rfl ?_
  refine T_get xr_189_3 hO530 rfl (v := .int (iI b)) rfl (pc' := 6) rfl ?_
  refine T_zimul xr_189_6 (z := 30 * b) rfl (pc' := 7) rfl ?_
  refine T_p xr_189_7 xn_189 (pc' := 8) (ls' := [(0, .ref 530), (1, .int (iI w)), (2, .int (iI i)), (3, .int (iI j)), (4, .long (iL (k2 : Int))), (6, .int (iI node))]) (st' := [.int (iI w), .int (iI (30 * b))]) rfl ?_
  refine T_ziadd xr_189_8 (z := (30 * b) + w) rfl (pc' := 9) rfl ?_
  refine T_p xr_189_9 xn_189 (pc' := 11) (ls' := [(7, .int (iI ((30 * b) + w))), (0, .ref 530), (1, .int (iI w)), (2, .int (iI i)), (3, .int (iI j)), (4, .long (iL (k2 : Int))), (6, .int (iI node))]) (st' := []) rfl ?_
  refine T_p xr_189_11 xn_189 (pc' := 12) (ls' := [(7, .int (iI ((30 * b) + w))), (0, .ref 530), (1, .int (iI w)), (2, .int (iI i)), (3, .int (iI j)), (4, .long (iL (k2 : Int))), (6, .int (iI node))]) (st' := [.ref 530]) rfl ?_
  refine T_p xr_189_12 xn_189 (pc' := 13) (ls' := [(7, .int (iI ((30 * b) + w))), (0, .ref 530), (1, .int (iI w)), (2, .int (iI i)), (3, .int (iI j)), (4, .long (iL (k2 : Int))), (6, .int (iI node))]) (st' := [.int (iI w), .ref 530]) rfl ?_
  refine T_p xr_189_13 xn_189 (pc' := 14) (ls' := [(7, .int (iI ((30 * b) + w))), (0, .ref 530), (1, .int (iI w)), (2, .int (iI i)), (3, .int (iI j)), (4, .long (iL (k2 : Int))), (6, .int (iI node))]) (st' := [.int (iI j), .int (iI w), .ref 530]) rfl ?_
  refine T_cv (S := S) (q := 530) xr_189_14 xf_188.1 xf_188.2.1 xn_188 (as := [.int (iI w), .int (iI j)]) (r := []) rfl hO530 (Nat.le_of_ble_eq_true rfl) (Nat.le_of_ble_eq_true rfl) (pc' := 17) rfl (ls' := [(0, .ref 530), (1, .int (iI w)), (2, .int (iI j))]) rfl ?_
  refine T_mono (r_restWays sc S wM eP eH tT oW oK oH rr (X_ou o 58 hp) nm b rc G tn w j hO530 hA540 hA545 hA546 hA548 hA552 hA553 hA554 hA573 (by omega) hG (by omega) hTT hWM hEP hEH (by omega) (by omega) hCt) (fun v1596 S1597 h1598 => ?_)
  rcases h1598 with ⟨rr1599, hv1600, hp1601, ha1602, hf1603⟩
  rw [hv1600]
  have hrr1 := hp1601
  show X_T sc 189 (17, [(7, .int (iI ((30 * b) + w))), (0, .ref 530), (1, .int (iI w)), (2, .int (iI i)), (3, .int (iI j)), (4, .long (iL (k2 : Int))), (6, .int (iI node))], [], S1597) _
  refine T_p xr_189_17 xn_189 (pc' := 19) (ls' := [(7, .int (iI ((30 * b) + w))), (0, .ref 530), (1, .int (iI w)), (2, .int (iI i)), (3, .int (iI j)), (4, .long (iL (k2 : Int))), (6, .int (iI node))]) (st' := [.long (iL (k2 : Int))]) rfl ?_
  refine T_p xr_189_19 xn_189 (pc' := 21) (ls' := [(8, .long (iL (k2 : Int))), (7, .int (iI ((30 * b) + w))), (0, .ref 530), (1, .int (iI w)), (2, .int (iI i)), (3, .int (iI j)), (4, .long (iL (k2 : Int))), (6, .int (iI node))]) (st' := []) rfl ?_
  refine T_p xr_189_21 xn_189 (pc' := 22) (ls' := [(8, .long (iL (k2 : Int))), (7, .int (iI ((30 * b) + w))), (0, .ref 530), (1, .int (iI w)), (2, .int (iI i)), (3, .int (iI j)), (4, .long (iL (k2 : Int))), (6, .int (iI node))]) (st' := [.long (iL 1)]) rfl ?_
  refine T_p xr_189_22 xn_189 (pc' := 24) (ls' := [(10, .long (iL 1)), (8, .long (iL (k2 : Int))), (7, .int (iI ((30 * b) + w))), (0, .ref 530), (1, .int (iI w)), (2, .int (iI i)), (3, .int (iI j)), (4, .long (iL (k2 : Int))), (6, .int (iI node))]) (st' := []) rfl ?_
  refine T_p xr_189_24 xn_189 (pc' := 25) (ls' := [(10, .long (iL 1)), (8, .long (iL (k2 : Int))), (7, .int (iI ((30 * b) + w))), (0, .ref 530), (1, .int (iI w)), (2, .int (iI i)), (3, .int (iI j)), (4, .long (iL (k2 : Int))), (6, .int (iI node))]) (st' := [.int (iI i)]) rfl ?_
  refine T_p xr_189_25 xn_189 (pc' := 27) (ls' := [(12, .int (iI i)), (10, .long (iL 1)), (8, .long (iL (k2 : Int))), (7, .int (iI ((30 * b) + w))), (0, .ref 530), (1, .int (iI w)), (2, .int (iI i)), (3, .int (iI j)), (4, .long (iL (k2 : Int))), (6, .int (iI node))]) (st' := []) rfl ?_
  refine T_p xr_189_27 xn_189 (pc' := 28) (ls' := [(12, .int (iI i)), (10, .long (iL 1)), (8, .long (iL (k2 : Int))), (7, .int (iI ((30 * b) + w))), (0, .ref 530), (1, .int (iI w)), (2, .int (iI i)), (3, .int (iI j)), (4, .long (iL (k2 : Int))), (6, .int (iI node))]) (st' := [.int (iI 0)]) rfl ?_
  refine T_p xr_189_28 xn_189 (pc' := 30) (ls' := [(13, .int (iI 0)), (12, .int (iI i)), (10, .long (iL 1)), (8, .long (iL (k2 : Int))), (7, .int (iI ((30 * b) + w))), (0, .ref 530), (1, .int (iI w)), (2, .int (iI i)), (3, .int (iI j)), (4, .long (iL (k2 : Int))), (6, .int (iI node))]) (st' := []) rfl ?_
  refine T_p xr_189_30 xn_189 (pc' := 31) (ls' := [(13, .int (iI 0)), (12, .int (iI i)), (10, .long (iL 1)), (8, .long (iL (k2 : Int))), (7, .int (iI ((30 * b) + w))), (0, .ref 530), (1, .int (iI w)), (2, .int (iI i)), (3, .int (iI j)), (4, .long (iL (k2 : Int))), (6, .int (iI node))]) (st' := [.int (iI 0)]) rfl ?_
  refine T_p xr_189_31 xn_189 (pc' := 33) (ls' := [(14, .int (iI 0)), (13, .int (iI 0)), (12, .int (iI i)), (10, .long (iL 1)), (8, .long (iL (k2 : Int))), (7, .int (iI ((30 * b) + w))), (0, .ref 530), (1, .int (iI w)), (2, .int (iI i)), (3, .int (iI j)), (4, .long (iL (k2 : Int))), (6, .int (iI node))]) (st' := []) rfl ?_
  have h1609 := (hf1603.1 570 (by omega)).trans (hA570)
  have h1610 := (hf1603.1 571 (by omega)).trans (hA571)
  have h1611 := (hf1603.1 572 (by omega)).trans (hA572)
  have L1604 : ∀ (m1606 : Nat) (S1612 : X_S) (e : Int) (pl : Int) (hc : Int) (l : Nat) (bb : Nat) (HF : Int → Int) (HE : Int → Int) (cFa : Int → Int) (cTa : Int → Int) (cNa : Int → Int64) (hcFa : S1612.1 570 = .inl (.int, 4, .inl fun k : Nat => iI (cFa (k : Int)))) (hcTa : S1612.1 571 = .inl (.int, 4, .inl fun k : Nat => iI (cTa (k : Int)))) (hcNa : S1612.1 572 = .inl (.long, 4, .inr (.inl fun k : Nat => cNa (k : Int)))) (hF1608 : X_Fr (fun q => 570 ≤ q ∧ q ≤ 572) S1597 S1612) (he : 0 ≤ e ∧ e ≤ gD G w 3 0 ∧ i + e ≤ pl ∧ pl ≤ j) (hhc : hc = X_hn (gW G w) e) (hl : l < bb * X_Ew G (X_T_ G) w e pl j) (hlm : l ≤ 9223372036854775807) (hX : X_spl G w j ((gD G w 3 0 - e).toNat) e pl l bb HF HE = X_spl G w j (gD G w 3 0).toNat 0 i k2 1 (fun _ => 0) (fun _ => 0)) (hA : ∀ h, 0 ≤ h → h < X_hn (gW G w) e → cFa h = HF h ∧ cTa h = HE h ∧ cNa h = X_st (-1) (X_Hh G w h (HF h) (HE h))) (hm1607 : gD G w 3 0 - e < m1606), X_T sc 189 (33, [(14, .int (iI e)), (13, .int (iI hc)), (12, .int (iI pl)), (10, .long (X_st (-1) bb)), (8, .long (iL (l : Int))), (7, .int (iI (30 * b + w))), (6, .int (iI node)), (3, .int (iI j)), (2, .int (iI i)), (1, .int (iI w)), (0, .ref 530)], [], S1612) Q := by
    intro m1606
    induction m1606 with
    | zero =>
      intro S1612 e pl hc l bb HF HE cFa cTa cNa hcFa hcTa hcNa hF1608 he hhc hl hlm hX hA hm1607
      exact (show False by omega).elim
    | succ m1606 ih1605 =>
      intro S1612 e pl hc l bb HF HE cFa cTa cNa hcFa hcTa hcNa hF1608 he hhc hl hlm hX hA hm1607
      refine T_p xr_189_33 xn_189 (pc' := 35) (ls' := [(14, .int (iI e)), (13, .int (iI hc)), (12, .int (iI pl)), (10, .long (X_st (-1) bb)), (8, .long (iL (l : Int))), (7, .int (iI (30 * b + w))), (6, .int (iI node)), (3, .int (iI j)), (2, .int (iI i)), (1, .int (iI w)), (0, .ref 530)]) (st' := [.int (iI e)]) rfl ?_
      refine T_p xr_189_35 xn_189 (pc' := 36) (ls' := [(14, .int (iI e)), (13, .int (iI hc)), (12, .int (iI pl)), (10, .long (X_st (-1) bb)), (8, .long (iL (l : Int))), (7, .int (iI (30 * b + w))), (6, .int (iI node)), (3, .int (iI j)), (2, .int (iI i)), (1, .int (iI w)), (0, .ref 530)]) (st' := [.ref 530, .int (iI e)]) rfl ?_
      have h1613 := (hF1608.1 530 (by omega)).trans ((hf1603.1 530 (by omega)).trans (hO530))
      refine T_get xr_189_36 h1613 rfl (v := .ref 540) rfl (pc' := 39) rfl ?_
      refine T_p xr_189_39 xn_189 (pc' := 41) (ls' := [(14, .int (iI e)), (13, .int (iI hc)), (12, .int (iI pl)), (10, .long (X_st (-1) bb)), (8, .long (iL (l : Int))), (7, .int (iI (30 * b + w))), (6, .int (iI node)), (3, .int (iI j)), (2, .int (iI i)), (1, .int (iI w)), (0, .ref 530)]) (st' := [.int (iI (30 * b + w)), .ref 540, .int (iI e)]) rfl ?_
      have h1614 := (hF1608.1 540 (by omega)).trans ((hf1603.1 540 (by omega)).trans (hA540))
      refine T_ziald xr_189_41 h1614 (pc' := 42) rfl ?_
      refine T_ie (y := iI (gD G w 3 0)) (by rw [hWM w hw.1 hw.2]) ?_
      refine T_zicmp_ge xr_189_42 (t := 225) (pc' := 45) rfl rfl (fun c1615 => ?_) (fun c1615 => ?_)
      · skip
        have c1615 : (gD G w 3 0) ≤ e := c1615
        have he1 : e = gD G w 3 0 := by omega
        rw [he1, show (gD G w 3 0 - gD G w 3 0).toNat = 0 by omega] at hX
        have hXe : X_spl G w j (gD G w 3 0).toNat 0 i k2 1 (fun _ => 0) (fun _ => 0) = (l, HF, HE) := hX.symm
        have hA2 : ∀ h, 0 ≤ h → h < gD G w 4 0 → cFa h = HF h ∧ cTa h = HE h ∧ cNa h = X_st (-1) (X_Hh G w h (HF h) (HE h)) := fun h h1 h2 => hA h h1 (by rw [he1, ← h4n]; exact h2)
        have hpos : ∀ h, 0 ≤ h → h < gD G w 4 0 → (i ≤ HF h ∧ HF h < HE h ∧ HE h ≤ j) ∧ 0 < X_Hh G w h (HF h) (HE h) := by
          have hq := (X_spl_ok (j := j) hgw (gD G w 3 0).toNat 0 i k2 1 (fun _ => 0) (fun _ => 0) (Int.le_refl 0) (by omega) (by omega) hE0).2.1
          rw [hXe] at hq
          intro h h1 h2
          obtain ⟨q1, q2, q3, q4⟩ := hq h (by have z : X_hn (gW G w) 0 = 0 := rfl; omega) h2
          exact ⟨⟨q1, q2, q3⟩, q4⟩
        have hc4 : hc = gD G w 4 0 := by rw [hhc, he1, ← h4n]
        refine T_p xr_189_225 xn_189 (pc' := 227) (ls' := [(14, .int (iI e)), (13, .int (iI hc)), (12, .int (iI pl)), (10, .long (X_st (-1) bb)), (8, .long (iL (l : Int))), (7, .int (iI (30 * b + w))), (6, .int (iI node)), (3, .int (iI j)), (2, .int (iI i)), (1, .int (iI w)), (0, .ref 530)]) (st' := [.int (iI hc)]) rfl ?_
        refine T_p xr_189_227 xn_189 (pc' := 228) (ls' := [(14, .int (iI e)), (13, .int (iI hc)), (12, .int (iI pl)), (10, .long (X_st (-1) bb)), (8, .long (iL (l : Int))), (7, .int (iI (30 * b + w))), (6, .int (iI node)), (3, .int (iI j)), (2, .int (iI i)), (1, .int (iI w)), (0, .ref 530)]) (st' := [.int (iI 1), .int (iI hc)]) rfl ?_
        refine T_zisub xr_189_228 (z := hc - 1) rfl (pc' := 229) rfl ?_
        refine T_p xr_189_229 xn_189 (pc' := 231) (ls' := [(14, .int (iI (hc - 1))), (13, .int (iI hc)), (12, .int (iI pl)), (10, .long (X_st (-1) bb)), (8, .long (iL (l : Int))), (7, .int (iI (30 * b + w))), (6, .int (iI node)), (3, .int (iI j)), (2, .int (iI i)), (1, .int (iI w)), (0, .ref 530)]) (st' := []) rfl ?_
        have h1621 := (hF1608.1 562 (by omega)).trans ((hf1603.1 562 (by omega)).trans (hA562))
        have h1622 := (hF1608.1 563 (by omega)).trans ((hf1603.1 563 (by omega)).trans (hA563))
        have h1623 := (hF1608.1 564 (by omega)).trans ((hf1603.1 564 (by omega)).trans (hA564))
        have h1624 := (hF1608.1 565 (by omega)).trans ((hf1603.1 565 (by omega)).trans (hA565))
        have h1625 := (hF1608.1 566 (by omega)).trans ((hf1603.1 566 (by omega)).trans (hA566))
        have h1626 := (hF1608.1 567 (by omega)).trans ((hf1603.1 567 (by omega)).trans (hA567))
        have h1627 := (hF1608.1 568 (by omega)).trans ((hf1603.1 568 (by omega)).trans (hA568))
        have h1628 := (hF1608.1 569 (by omega)).trans ((hf1603.1 569 (by omega)).trans (hA569))
        have L1616 : ∀ (m1618 : Nat) (S1629 : X_S) (h : Int) (l1 : Nat) (hp2 : Int) (St2 : Int → X_It) (pF2 : Int → Int) (pT2 : Int → Int) (pS2 : Int → Int) (pH2 : Int → Int) (pW2 : Int → Int) (pP2 : Int → Int) (pQ2 : Int → Int) (pN2 : Int → Int64) (hO5 : S1629.1 530 = .inr (11, [.ref 531, .int (iI (o 1)), .ref 532, .int (iI (o 3)), .int (iI b), .int (iI (o 5)), .int (iI (o 6)), .int (iI (o 7)), .int (iI (o 8)), .int (iI (o 9)), .int (iI (o 10)), .int (iI (o 11)), .long nm, .ref 533, .ref 534, .ref 535, .ref 536, .ref 537, .ref 538, .ref 539, .ref 540, .ref 541, .ref 542, .ref 543, .ref 544, .ref 545, .ref 546, .ref 547, .int (iI rc), .int (iI (gk G)), .int (iI (gw G)), .int (iI (o 31)), .int (iI (o 32)), .int (iI (o 33)), .ref 548, .ref 549, .ref 550, .ref 551, .int (iI tn), .ref 552, .ref 553, .ref 554, .ref 555, .ref 556, .ref 557, .ref 558, .ref 559, .ref 560, .ref 561, .int (iI (o 49)), .ref 562, .ref 563, .ref 564, .ref 565, .ref 566, .ref 567, .ref 568, .ref 569, .int (iI hp2), .ref 570, .ref 571, .ref 572, .ref 573, .ref 574, .ref 575, .ref 576, .ref 577, .ref 578, .int (iI (o 68)), .int (iI (o 69)), .int (iI (o 70)), .ref 579])) (hpF2 : S1629.1 562 = .inl (.int, 160, .inl fun k : Nat => iI (pF2 (k : Int)))) (hpT2 : S1629.1 563 = .inl (.int, 160, .inl fun k : Nat => iI (pT2 (k : Int)))) (hpS2 : S1629.1 564 = .inl (.int, 160, .inl fun k : Nat => iI (pS2 (k : Int)))) (hpH2 : S1629.1 565 = .inl (.int, 160, .inl fun k : Nat => iI (pH2 (k : Int)))) (hpW2 : S1629.1 566 = .inl (.int, 160, .inl fun k : Nat => iI (pW2 (k : Int)))) (hpP2 : S1629.1 567 = .inl (.int, 160, .inl fun k : Nat => iI (pP2 (k : Int)))) (hpQ2 : S1629.1 568 = .inl (.int, 160, .inl fun k : Nat => iI (pQ2 (k : Int)))) (hpN2 : S1629.1 569 = .inl (.long, 160, .inr (.inl fun k : Nat => pN2 (k : Int)))) (hF1620 : X_Fr (fun q => q = 530 ∨ (562 ≤ q ∧ q ≤ 569)) S1612 S1629) (hh : -1 ≤ h ∧ h < gD G w 4 0) (hl1m : l1 ≤ 9223372036854775807) (hP : X_pus G w node HF HE (h + 1).toNat l1 (hp2, St2) = X_pus G w node HF HE (gD G w 4 0).toNat l (hp, St)) (hpl2 : R_pl hp2 St2 pF2 pT2 pS2 pH2 pW2 pP2 pQ2 pN2) (hhp2 : 0 ≤ hp2 ∧ hp2 + h + 1 ≤ hp + gD G w 4 0) (hm1619 : h + 1 < m1618), X_T sc 189 (231, [(14, .int (iI h)), (8, .long (iL (l1 : Int))), (7, .int (iI (30 * b + w))), (6, .int (iI node)), (3, .int (iI j)), (2, .int (iI i)), (1, .int (iI w)), (0, .ref 530)], [], S1629) Q := by
          intro m1618
          induction m1618 with
          | zero =>
            intro S1629 h l1 hp2 St2 pF2 pT2 pS2 pH2 pW2 pP2 pQ2 pN2 hO5 hpF2 hpT2 hpS2 hpH2 hpW2 hpP2 hpQ2 hpN2 hF1620 hh hl1m hP hpl2 hhp2 hm1619
            exact (show False by omega).elim
          | succ m1618 ih1617 =>
            intro S1629 h l1 hp2 St2 pF2 pT2 pS2 pH2 pW2 pP2 pQ2 pN2 hO5 hpF2 hpT2 hpS2 hpH2 hpW2 hpP2 hpQ2 hpN2 hF1620 hh hl1m hP hpl2 hhp2 hm1619
            refine T_p xr_189_231 xn_189 (pc' := 233) (ls' := [(14, .int (iI h)), (8, .long (iL (l1 : Int))), (7, .int (iI (30 * b + w))), (6, .int (iI node)), (3, .int (iI j)), (2, .int (iI i)), (1, .int (iI w)), (0, .ref 530)]) (st' := [.int (iI h)]) rfl ?_
            refine T_zif_lt xr_189_233 (t := 343) (pc' := 236) rfl rfl (fun c1630 => ?_) (fun c1630 => ?_)
            · skip
              have c1630 : h < 0 := c1630
              refine T_vret xr_189_343 xf_189.2.2 ?_
              refine hQ _ _ ?_
              have h1631 := (hF1620.1 570 (by omega)).trans (hcFa)
              have h1632 := (hF1620.1 571 (by omega)).trans (hcTa)
              have h1633 := (hF1620.1 572 (by omega)).trans (hcNa)
              have h1634 := (hF1620.1 573 (by omega)).trans ((hF1608.1 573 (by omega)).trans (ha1602))
              exact ⟨l, HF, HE, hp2, St2, pF2, pT2, pS2, pH2, pW2, pP2, pQ2, pN2, cFa, cTa, cNa, rr1599, rfl, hXe, (by rw [← hP, show (h + 1).toNat = 0 by omega]; rfl), hpl2, hlm, hO5, hpF2, hpT2, hpS2, hpH2, hpW2, hpP2, hpQ2, hpN2, h1631, h1632, h1633, h1634, (((X_Fr.rf).tr (X_Fr.mono ⟨hf1603.1, hf1603.2⟩ (fun q hq => (by omega)))).tr (X_Fr.mono ⟨hF1608.1, hF1608.2⟩ (fun q hq => (by omega)))).tr (X_Fr.mono ⟨hF1620.1, hF1620.2⟩ (fun q hq => (by omega)))⟩
            · skip
              have c1630 : ¬ (h < 0) := c1630
              have hH := hA2 h (by omega) (by omega)
              have hHp := (hpos h (by omega) (by omega)).2
              have hHr := (hpos h (by omega) (by omega)).1
              have J1635 : X_T sc 189 (263, [(14, .int (iI h)), (8, .long (iL (l1 : Int))), (7, .int (iI (30 * b + w))), (6, .int (iI node)), (3, .int (iI j)), (2, .int (iI i)), (1, .int (iI w)), (0, .ref 530)], [.long (iL ((l1 % X_Hh G w h (HF h) (HE h) : Nat) : Int))], S1629) Q := by
                refine T_p xr_189_263 xn_189 (pc' := 265) (ls' := [(15, .long (iL ((l1 % X_Hh G w h (HF h) (HE h) : Nat) : Int))), (14, .int (iI h)), (8, .long (iL (l1 : Int))), (7, .int (iI (30 * b + w))), (6, .int (iI node)), (3, .int (iI j)), (2, .int (iI i)), (1, .int (iI w)), (0, .ref 530)]) (st' := []) rfl ?_
                refine T_p xr_189_265 xn_189 (pc' := 266) (ls' := [(15, .long (iL ((l1 % X_Hh G w h (HF h) (HE h) : Nat) : Int))), (14, .int (iI h)), (8, .long (iL (l1 : Int))), (7, .int (iI (30 * b + w))), (6, .int (iI node)), (3, .int (iI j)), (2, .int (iI i)), (1, .int (iI w)), (0, .ref 530)]) (st' := [.ref 530]) rfl ?_
                have J1636 : X_T sc 189 (291, [(15, .long (iL ((l1 % X_Hh G w h (HF h) (HE h) : Nat) : Int))), (14, .int (iI h)), (8, .long (iL (l1 : Int))), (7, .int (iI (30 * b + w))), (6, .int (iI node)), (3, .int (iI j)), (2, .int (iI i)), (1, .int (iI w)), (0, .ref 530)], [.long (iL ((l1 / X_Hh G w h (HF h) (HE h) : Nat) : Int))], S1629) Q := by
                  refine T_p xr_189_291 xn_189 (pc' := 293) (ls' := [(8, .long (iL ((l1 / X_Hh G w h (HF h) (HE h) : Nat) : Int))), (15, .long (iL ((l1 % X_Hh G w h (HF h) (HE h) : Nat) : Int))), (14, .int (iI h)), (7, .int (iI (30 * b + w))), (6, .int (iI node)), (3, .int (iI j)), (2, .int (iI i)), (1, .int (iI w)), (0, .ref 530)]) (st' := []) rfl ?_
                  refine T_p xr_189_293 xn_189 (pc' := 294) (ls' := [(8, .long (iL ((l1 / X_Hh G w h (HF h) (HE h) : Nat) : Int))), (15, .long (iL ((l1 % X_Hh G w h (HF h) (HE h) : Nat) : Int))), (14, .int (iI h)), (7, .int (iI (30 * b + w))), (6, .int (iI node)), (3, .int (iI j)), (2, .int (iI i)), (1, .int (iI w)), (0, .ref 530)]) (st' := [.ref 530]) rfl ?_
                  refine T_p xr_189_294 xn_189 (pc' := 295) (ls' := [(8, .long (iL ((l1 / X_Hh G w h (HF h) (HE h) : Nat) : Int))), (15, .long (iL ((l1 % X_Hh G w h (HF h) (HE h) : Nat) : Int))), (14, .int (iI h)), (7, .int (iI (30 * b + w))), (6, .int (iI node)), (3, .int (iI j)), (2, .int (iI i)), (1, .int (iI w)), (0, .ref 530)]) (st' := [.ref 530, .ref 530]) rfl ?_
                  refine T_get xr_189_295 hO5 rfl (v := .ref 570) rfl (pc' := 298) rfl ?_
                  refine T_p xr_189_298 xn_189 (pc' := 300) (ls' := [(8, .long (iL ((l1 / X_Hh G w h (HF h) (HE h) : Nat) : Int))), (15, .long (iL ((l1 % X_Hh G w h (HF h) (HE h) : Nat) : Int))), (14, .int (iI h)), (7, .int (iI (30 * b + w))), (6, .int (iI node)), (3, .int (iI j)), (2, .int (iI i)), (1, .int (iI w)), (0, .ref 530)]) (st' := [.int (iI h), .ref 570, .ref 530]) rfl ?_
                  have h1637 := (hF1620.1 570 (by omega)).trans (hcFa)
                  refine T_ziald xr_189_300 h1637 (pc' := 301) rfl ?_
                  refine T_ie (y := iI (HF h)) (by rw [hH.1]) ?_
                  refine T_p xr_189_301 xn_189 (pc' := 302) (ls' := [(8, .long (iL ((l1 / X_Hh G w h (HF h) (HE h) : Nat) : Int))), (15, .long (iL ((l1 % X_Hh G w h (HF h) (HE h) : Nat) : Int))), (14, .int (iI h)), (7, .int (iI (30 * b + w))), (6, .int (iI node)), (3, .int (iI j)), (2, .int (iI i)), (1, .int (iI w)), (0, .ref 530)]) (st' := [.ref 530, .int (iI (HF h)), .ref 530]) rfl ?_
                  refine T_get xr_189_302 hO5 rfl (v := .ref 571) rfl (pc' := 305) rfl ?_
                  refine T_p xr_189_305 xn_189 (pc' := 307) (ls' := [(8, .long (iL ((l1 / X_Hh G w h (HF h) (HE h) : Nat) : Int))), (15, .long (iL ((l1 % X_Hh G w h (HF h) (HE h) : Nat) : Int))), (14, .int (iI h)), (7, .int (iI (30 * b + w))), (6, .int (iI node)), (3, .int (iI j)), (2, .int (iI i)), (1, .int (iI w)), (0, .ref 530)]) (st' := [.int (iI h), .ref 571, .int (iI (HF h)), .ref 530]) rfl ?_
                  have h1638 := (hF1620.1 571 (by omega)).trans (hcTa)
                  refine T_ziald xr_189_307 h1638 (pc' := 308) rfl ?_
                  refine T_ie (y := iI (HE h)) (by rw [hH.2.1]) ?_
                  refine T_p xr_189_308 xn_189 (pc' := 309) (ls' := [(8, .long (iL ((l1 / X_Hh G w h (HF h) (HE h) : Nat) : Int))), (15, .long (iL ((l1 % X_Hh G w h (HF h) (HE h) : Nat) : Int))), (14, .int (iI h)), (7, .int (iI (30 * b + w))), (6, .int (iI node)), (3, .int (iI j)), (2, .int (iI i)), (1, .int (iI w)), (0, .ref 530)]) (st' := [.ref 530, .int (iI (HE h)), .int (iI (HF h)), .ref 530]) rfl ?_
                  refine T_get xr_189_309 hO5 rfl (v := .ref 547) rfl (pc' := 312) rfl ?_
                  refine T_p xr_189_312 xn_189 (pc' := 313) (ls' := [(8, .long (iL ((l1 / X_Hh G w h (HF h) (HE h) : Nat) : Int))), (15, .long (iL ((l1 % X_Hh G w h (HF h) (HE h) : Nat) : Int))), (14, .int (iI h)), (7, .int (iI (30 * b + w))), (6, .int (iI node)), (3, .int (iI j)), (2, .int (iI i)), (1, .int (iI w)), (0, .ref 530)]) (st' := [.int (iI 4), .ref 547, .int (iI (HE h)), .int (iI (HF h)), .ref 530]) rfl ?_
                  refine T_p xr_189_313 xn_189 (pc' := 315) (ls' := [(8, .long (iL ((l1 / X_Hh G w h (HF h) (HE h) : Nat) : Int))), (15, .long (iL ((l1 % X_Hh G w h (HF h) (HE h) : Nat) : Int))), (14, .int (iI h)), (7, .int (iI (30 * b + w))), (6, .int (iI node)), (3, .int (iI j)), (2, .int (iI i)), (1, .int (iI w)), (0, .ref 530)]) (st' := [.int (iI (30 * b + w)), .int (iI 4), .ref 547, .int (iI (HE h)), .int (iI (HF h)), .ref 530]) rfl ?_
                  refine T_zimul xr_189_315 (z := 4 * (30 * b + w)) rfl (pc' := 316) rfl ?_
                  refine T_p xr_189_316 xn_189 (pc' := 318) (ls' := [(8, .long (iL ((l1 / X_Hh G w h (HF h) (HE h) : Nat) : Int))), (15, .long (iL ((l1 % X_Hh G w h (HF h) (HE h) : Nat) : Int))), (14, .int (iI h)), (7, .int (iI (30 * b + w))), (6, .int (iI node)), (3, .int (iI j)), (2, .int (iI i)), (1, .int (iI w)), (0, .ref 530)]) (st' := [.int (iI h), .int (iI (4 * (30 * b + w))), .ref 547, .int (iI (HE h)), .int (iI (HF h)), .ref 530]) rfl ?_
                  refine T_ziadd xr_189_318 (z := (4 * (30 * b + w)) + h) rfl (pc' := 319) rfl ?_
                  have h1639 := (hF1620.1 547 (by omega)).trans ((hF1608.1 547 (by omega)).trans ((hf1603.1 547 (by omega)).trans (hA547)))
                  refine T_ziald xr_189_319 h1639 (pc' := 320) rfl ?_
                  refine T_ie (y := iI (gD G w 9 h)) (by rw [← hHK w hw.1 hw.2 h (by omega) (by omega)]) ?_
                  refine T_p xr_189_320 xn_189 (pc' := 321) (ls' := [(8, .long (iL ((l1 / X_Hh G w h (HF h) (HE h) : Nat) : Int))), (15, .long (iL ((l1 % X_Hh G w h (HF h) (HE h) : Nat) : Int))), (14, .int (iI h)), (7, .int (iI (30 * b + w))), (6, .int (iI node)), (3, .int (iI j)), (2, .int (iI i)), (1, .int (iI w)), (0, .ref 530)]) (st' := [.int (iI w), .int (iI (gD G w 9 h)), .int (iI (HE h)), .int (iI (HF h)), .ref 530]) rfl ?_
                  refine T_p xr_189_321 xn_189 (pc' := 322) (ls' := [(8, .long (iL ((l1 / X_Hh G w h (HF h) (HE h) : Nat) : Int))), (15, .long (iL ((l1 % X_Hh G w h (HF h) (HE h) : Nat) : Int))), (14, .int (iI h)), (7, .int (iI (30 * b + w))), (6, .int (iI node)), (3, .int (iI j)), (2, .int (iI i)), (1, .int (iI w)), (0, .ref 530)]) (st' := [.ref 530, .int (iI w), .int (iI (gD G w 9 h)), .int (iI (HE h)), .int (iI (HF h)), .ref 530]) rfl ?_
                  refine T_p xr_189_322 xn_189 (pc' := 323) (ls' := [(8, .long (iL ((l1 / X_Hh G w h (HF h) (HE h) : Nat) : Int))), (15, .long (iL ((l1 % X_Hh G w h (HF h) (HE h) : Nat) : Int))), (14, .int (iI h)), (7, .int (iI (30 * b + w))), (6, .int (iI node)), (3, .int (iI j)), (2, .int (iI i)), (1, .int (iI w)), (0, .ref 530)]) (st' := [.int (iI w), .ref 530, .int (iI w), .int (iI (gD G w 9 h)), .int (iI (HE h)), .int (iI (HF h)), .ref 530]) rfl ?_
                  refine T_p xr_189_323 xn_189 (pc' := 325) (ls' := [(8, .long (iL ((l1 / X_Hh G w h (HF h) (HE h) : Nat) : Int))), (15, .long (iL ((l1 % X_Hh G w h (HF h) (HE h) : Nat) : Int))), (14, .int (iI h)), (7, .int (iI (30 * b + w))), (6, .int (iI node)), (3, .int (iI j)), (2, .int (iI i)), (1, .int (iI w)), (0, .ref 530)]) (st' := [.int (iI h), .int (iI w), .ref 530, .int (iI w), .int (iI (gD G w 9 h)), .int (iI (HE h)), .int (iI (HF h)), .ref 530]) rfl ?_
                  refine T_cv (S := S1629) (q := 530) xr_189_325 xf_180.1 xf_180.2.1 xn_180 (as := [.int (iI w), .int (iI h)]) (r := [.int (iI w), .int (iI (gD G w 9 h)), .int (iI (HE h)), .int (iI (HF h)), .ref 530]) rfl hO5 (Nat.le_of_ble_eq_true rfl) (Nat.le_of_ble_eq_true rfl) (pc' := 328) rfl (ls' := [(0, .ref 530), (1, .int (iI w)), (2, .int (iI h))]) rfl ?_
                  have h1640 := (hF1620.1 540 (by omega)).trans (h1614)
                  have h1641 := (hF1620.1 541 (by omega)).trans ((hF1608.1 541 (by omega)).trans ((hf1603.1 541 (by omega)).trans (hA541)))
                  have h1642 := (hF1620.1 545 (by omega)).trans ((hF1608.1 545 (by omega)).trans ((hf1603.1 545 (by omega)).trans (hA545)))
                  refine T_mono (r_endOf sc S1629 wM wH eP (X_ou o 58 hp2) nm b rc G tn w h hO5 h1640 h1641 h1642 (by omega) hG hWM hWH hEP (by omega) (by omega)) (fun v1643 S1644 h1645 => ?_)
                  rcases h1645 with ⟨hv1646, hf1647⟩
                  rw [hv1646]
                  rw [hf1647]
                  have heh1648 := X_eh_r (G := G) (w := w) (h := h)
                  show X_T sc 189 (328, [(8, .long (iL ((l1 / X_Hh G w h (HF h) (HE h) : Nat) : Int))), (15, .long (iL ((l1 % X_Hh G w h (HF h) (HE h) : Nat) : Int))), (14, .int (iI h)), (7, .int (iI (30 * b + w))), (6, .int (iI node)), (3, .int (iI j)), (2, .int (iI i)), (1, .int (iI w)), (0, .ref 530)], [.int (iI (X_eh G w h)), .int (iI w), .int (iI (gD G w 9 h)), .int (iI (HE h)), .int (iI (HF h)), .ref 530], S1629) _
                  refine T_p xr_189_328 xn_189 (pc' := 330) (ls' := [(8, .long (iL ((l1 / X_Hh G w h (HF h) (HE h) : Nat) : Int))), (15, .long (iL ((l1 % X_Hh G w h (HF h) (HE h) : Nat) : Int))), (14, .int (iI h)), (7, .int (iI (30 * b + w))), (6, .int (iI node)), (3, .int (iI j)), (2, .int (iI i)), (1, .int (iI w)), (0, .ref 530)]) (st' := [.long (iL ((l1 % X_Hh G w h (HF h) (HE h) : Nat) : Int)), .int (iI (X_eh G w h)), .int (iI w), .int (iI (gD G w 9 h)), .int (iI (HE h)), .int (iI (HF h)), .ref 530]) rfl ?_
                  refine T_p xr_189_330 xn_189 (pc' := 332) (ls' := [(8, .long (iL ((l1 / X_Hh G w h (HF h) (HE h) : Nat) : Int))), (15, .long (iL ((l1 % X_Hh G w h (HF h) (HE h) : Nat) : Int))), (14, .int (iI h)), (7, .int (iI (30 * b + w))), (6, .int (iI node)), (3, .int (iI j)), (2, .int (iI i)), (1, .int (iI w)), (0, .ref 530)]) (st' := [.int (iI node), .long (iL ((l1 % X_Hh G w h (HF h) (HE h) : Nat) : Int)), .int (iI (X_eh G w h)), .int (iI w), .int (iI (gD G w 9 h)), .int (iI (HE h)), .int (iI (HF h)), .ref 530]) rfl ?_
                  refine T_p xr_189_332 xn_189 (pc' := 334) (ls' := [(8, .long (iL ((l1 / X_Hh G w h (HF h) (HE h) : Nat) : Int))), (15, .long (iL ((l1 % X_Hh G w h (HF h) (HE h) : Nat) : Int))), (14, .int (iI h)), (7, .int (iI (30 * b + w))), (6, .int (iI node)), (3, .int (iI j)), (2, .int (iI i)), (1, .int (iI w)), (0, .ref 530)]) (st' := [.int (iI h), .int (iI node), .long (iL ((l1 % X_Hh G w h (HF h) (HE h) : Nat) : Int)), .int (iI (X_eh G w h)), .int (iI w), .int (iI (gD G w 9 h)), .int (iI (HE h)), .int (iI (HF h)), .ref 530]) rfl ?_
                  refine T_cv (S := S1629) (q := 530) xr_189_334 xf_185.1 xf_185.2.1 xn_185 (as := [.int (iI (HF h)), .int (iI (HE h)), .int (iI (gD G w 9 h)), .int (iI w), .int (iI (X_eh G w h)), .long (iL ((l1 % X_Hh G w h (HF h) (HE h) : Nat) : Int)), .int (iI node), .int (iI h)]) (r := []) rfl hO5 (Nat.le_of_ble_eq_true rfl) (Nat.le_of_ble_eq_true rfl) (pc' := 337) rfl (ls' := [(0, .ref 530), (1, .int (iI (HF h))), (2, .int (iI (HE h))), (3, .int (iI (gD G w 9 h))), (4, .int (iI w)), (5, .int (iI (X_eh G w h))), (6, .long (iL ((l1 % X_Hh G w h (HF h) (HE h) : Nat) : Int))), (8, .int (iI node)), (9, .int (iI h))]) rfl ?_
                  refine T_mono (r_pile sc S1629 pF2 pT2 pS2 pH2 pW2 pP2 pQ2 pN2 (X_ou o 58 hp2) nm b rc G tn hp2 (HF h) (HE h) (gD G w 9 h) w (X_eh G w h) node h (iL ((l1 % X_Hh G w h (HF h) (HE h) : Nat) : Int)) hO5 hpF2 hpT2 hpS2 hpH2 hpW2 hpP2 hpQ2 hpN2 (by omega)) (fun v1649 S1650 h1651 => ?_)
                  rcases h1651 with ⟨pF1652, pT1653, pS1654, pH1655, pW1656, pP1657, pQ1658, pN1659, hv1660, hp1661, hp1662, hp1663, hp1664, hp1665, hp1666, hp1667, hp1668, ho1669, ha1670, ha1671, ha1672, ha1673, ha1674, ha1675, ha1676, ha1677, hf1678⟩
                  rw [hv1660]
                  show X_T sc 189 (337, [(8, .long (iL ((l1 / X_Hh G w h (HF h) (HE h) : Nat) : Int))), (15, .long (iL ((l1 % X_Hh G w h (HF h) (HE h) : Nat) : Int))), (14, .int (iI h)), (7, .int (iI (30 * b + w))), (6, .int (iI node)), (3, .int (iI j)), (2, .int (iI i)), (1, .int (iI w)), (0, .ref 530)], [], S1650) _
                  refine T_ziinc xr_189_337 xn_189 (a := h) (z := h - 1) rfl (Nat.le_of_ble_eq_true rfl) (by omega) (ls' := [(14, .int (iI (h - 1))), (8, .long (iL ((l1 / X_Hh G w h (HF h) (HE h) : Nat) : Int))), (15, .long (iL ((l1 % X_Hh G w h (HF h) (HE h) : Nat) : Int))), (7, .int (iI (30 * b + w))), (6, .int (iI node)), (3, .int (iI j)), (2, .int (iI i)), (1, .int (iI w)), (0, .ref 530)]) rfl (pc' := 340) rfl ?_
                  refine T_p xr_189_340 xn_189 (pc' := 231) (ls' := [(14, .int (iI (h - 1))), (8, .long (iL ((l1 / X_Hh G w h (HF h) (HE h) : Nat) : Int))), (15, .long (iL ((l1 % X_Hh G w h (HF h) (HE h) : Nat) : Int))), (7, .int (iI (30 * b + w))), (6, .int (iI node)), (3, .int (iI j)), (2, .int (iI i)), (1, .int (iI w)), (0, .ref 530)]) (st' := []) rfl ?_
                  refine T_sub (ls := [(14, .int (iI (h - 1))), (8, .long (iL ((l1 / X_Hh G w h (HF h) (HE h) : Nat) : Int))), (7, .int (iI (30 * b + w))), (6, .int (iI node)), (3, .int (iI j)), (2, .int (iI i)), (1, .int (iI w)), (0, .ref 530)]) ⟨rfl, rfl, rfl, rfl, rfl, rfl, rfl, rfl, trivial⟩ rfl rfl ?_
                  exact ih1617 S1650 (h - 1) (l1 / X_Hh G w h (HF h) (HE h)) (hp2 + 1) (X_ug St2 hp2 (HF h, HE h, node, h, gD G w 9 h, w, X_eh G w h, l1 % X_Hh G w h (HF h) (HE h))) pF1652 pT1653 pS1654 pH1655 pW1656 pP1657 pQ1658 pN1659 ho1669 ha1670 ha1671 ha1672 ha1673 ha1674 ha1675 ha1676 ha1677 (hF1620.tr ((X_Fr.rf).tr (X_Fr.mono ⟨hf1678.1, hf1678.2⟩ (fun q hq => (by omega))))) (by omega) (Nat.le_trans (Nat.div_le_self _ _) hl1m) (by
                        rw [X_pus_s (show 0 ≤ h by omega)] at hP
                        rw [show (h - 1 + 1).toNat = h.toNat by omega]
                        exact hP) (by rw [hp1661, hp1662, hp1663, hp1664, hp1665, hp1666, hp1667, hp1668]; exact hpl2.add _ _ _ _ _ _ _ _) (by omega) (by omega)
                refine T_get xr_189_266 hO5 rfl (v := .ref 572) rfl (pc' := 269) rfl ?_
                refine T_p xr_189_269 xn_189 (pc' := 271) (ls' := [(15, .long (iL ((l1 % X_Hh G w h (HF h) (HE h) : Nat) : Int))), (14, .int (iI h)), (8, .long (iL (l1 : Int))), (7, .int (iI (30 * b + w))), (6, .int (iI node)), (3, .int (iI j)), (2, .int (iI i)), (1, .int (iI w)), (0, .ref 530)]) (st' := [.int (iI h), .ref 572]) rfl ?_
                have h1679 := (hF1620.1 572 (by omega)).trans (hcNa)
                refine T_zlald xr_189_271 h1679 (pc' := 272) rfl ?_
                refine T_le (y := (X_st (-1) (X_Hh G w h (HF h) (HE h)))) hH.2.2 ?_
                refine T_p xr_189_272 xn_189 (pc' := 273) (ls' := [(15, .long (iL ((l1 % X_Hh G w h (HF h) (HE h) : Nat) : Int))), (14, .int (iI h)), (8, .long (iL (l1 : Int))), (7, .int (iI (30 * b + w))), (6, .int (iI node)), (3, .int (iI j)), (2, .int (iI i)), (1, .int (iI w)), (0, .ref 530)]) (st' := [.long (iL 0), .long (X_st (-1) (X_Hh G w h (HF h) (HE h)))]) rfl ?_
                refine T_lc_ge xr_189_273 xr_189_274 (t := 281) (pc' := 277) rfl rfl (fun c1680 => ?_) (fun c1680 => ?_)
                · skip
                  have c1680 : (iL 0) ≤ (X_st (-1) (X_Hh G w h (HF h) (HE h))) := c1680
                  refine T_p xr_189_281 xn_189 (pc' := 283) (ls' := [(15, .long (iL ((l1 % X_Hh G w h (HF h) (HE h) : Nat) : Int))), (14, .int (iI h)), (8, .long (iL (l1 : Int))), (7, .int (iI (30 * b + w))), (6, .int (iI node)), (3, .int (iI j)), (2, .int (iI i)), (1, .int (iI w)), (0, .ref 530)]) (st' := [.long (iL (l1 : Int))]) rfl ?_
                  refine T_p xr_189_283 xn_189 (pc' := 284) (ls' := [(15, .long (iL ((l1 % X_Hh G w h (HF h) (HE h) : Nat) : Int))), (14, .int (iI h)), (8, .long (iL (l1 : Int))), (7, .int (iI (30 * b + w))), (6, .int (iI node)), (3, .int (iI j)), (2, .int (iI i)), (1, .int (iI w)), (0, .ref 530)]) (st' := [.ref 530, .long (iL (l1 : Int))]) rfl ?_
                  refine T_get xr_189_284 hO5 rfl (v := .ref 572) rfl (pc' := 287) rfl ?_
                  refine T_p xr_189_287 xn_189 (pc' := 289) (ls' := [(15, .long (iL ((l1 % X_Hh G w h (HF h) (HE h) : Nat) : Int))), (14, .int (iI h)), (8, .long (iL (l1 : Int))), (7, .int (iI (30 * b + w))), (6, .int (iI node)), (3, .int (iI j)), (2, .int (iI i)), (1, .int (iI w)), (0, .ref 530)]) (st' := [.int (iI h), .ref 572, .long (iL (l1 : Int))]) rfl ?_
                  refine T_zlald xr_189_289 h1679 (pc' := 290) rfl ?_
                  refine T_le (y := (X_st (-1) (X_Hh G w h (HF h) (HE h)))) hH.2.2 ?_
                  refine T_p xr_189_290 xn_189 (pc' := 291) (ls' := [(15, .long (iL ((l1 % X_Hh G w h (HF h) (HE h) : Nat) : Int))), (14, .int (iI h)), (8, .long (iL (l1 : Int))), (7, .int (iI (30 * b + w))), (6, .int (iI node)), (3, .int (iI j)), (2, .int (iI i)), (1, .int (iI w)), (0, .ref 530)]) (st' := .long ((iL (l1 : Int)) / (X_st (-1) (X_Hh G w h (HF h) (HE h)))) :: []) (by simp only [X_pstep, X_l2]; rw [if_neg (by exact fun z => absurd ((X_st_z (m := -1) (by omega)).mp z) (by omega))]) ?_
                  refine T_le (y := (iL ((l1 / X_Hh G w h (HF h) (HE h) : Nat) : Int))) (by rw [X_st_lo (Nat.le_of_not_lt (fun z => absurd ((X_st_n (m := -1) (a := X_Hh G w h (HF h) (HE h)) (by omega)).mpr z) (by first | assumption | exact Int64.not_lt.mpr (by assumption) | exact Classical.not_not.mp (by assumption))))]; exact (iL_rem hl1m ⟨hHp, (Nat.le_of_not_lt (fun z => absurd ((X_st_n (m := -1) (a := X_Hh G w h (HF h) (HE h)) (by omega)).mpr z) (by first | assumption | exact Int64.not_lt.mpr (by assumption) | exact Classical.not_not.mp (by assumption))))⟩).2) ?_
                  exact J1636
                · skip
                  have c1680 : ¬ ((iL 0) ≤ (X_st (-1) (X_Hh G w h (HF h) (HE h)))) := c1680
                  refine T_p xr_189_277 xn_189 (pc' := 278) (ls' := [(15, .long (iL ((l1 % X_Hh G w h (HF h) (HE h) : Nat) : Int))), (14, .int (iI h)), (8, .long (iL (l1 : Int))), (7, .int (iI (30 * b + w))), (6, .int (iI node)), (3, .int (iI j)), (2, .int (iI i)), (1, .int (iI w)), (0, .ref 530)]) (st' := [.long (iL 0)]) rfl ?_
                  refine T_p xr_189_278 xn_189 (pc' := 291) (ls' := [(15, .long (iL ((l1 % X_Hh G w h (HF h) (HE h) : Nat) : Int))), (14, .int (iI h)), (8, .long (iL (l1 : Int))), (7, .int (iI (30 * b + w))), (6, .int (iI node)), (3, .int (iI j)), (2, .int (iI i)), (1, .int (iI w)), (0, .ref 530)]) (st' := [.long (iL 0)]) rfl ?_
                  refine T_le (y := (iL ((l1 / X_Hh G w h (HF h) (HE h) : Nat) : Int))) (by rw [Nat.div_eq_of_lt (show l1 < X_Hh G w h (HF h) (HE h) from Nat.lt_of_le_of_lt hl1m ((X_st_n (m := -1) (a := X_Hh G w h (HF h) (HE h)) (by omega)).mp (by first | assumption | exact Int64.not_le.mp (by assumption) | exact Classical.not_not.mp (by assumption))))]; rfl) ?_
                  exact J1636
              refine T_p xr_189_236 xn_189 (pc' := 237) (ls' := [(14, .int (iI h)), (8, .long (iL (l1 : Int))), (7, .int (iI (30 * b + w))), (6, .int (iI node)), (3, .int (iI j)), (2, .int (iI i)), (1, .int (iI w)), (0, .ref 530)]) (st' := [.ref 530]) rfl ?_
              refine T_get xr_189_237 hO5 rfl (v := .ref 572) rfl (pc' := 240) rfl ?_
              refine T_p xr_189_240 xn_189 (pc' := 242) (ls' := [(14, .int (iI h)), (8, .long (iL (l1 : Int))), (7, .int (iI (30 * b + w))), (6, .int (iI node)), (3, .int (iI j)), (2, .int (iI i)), (1, .int (iI w)), (0, .ref 530)]) (st' := [.int (iI h), .ref 572]) rfl ?_
              have h1681 := (hF1620.1 572 (by omega)).trans (hcNa)
              refine T_zlald xr_189_242 h1681 (pc' := 243) rfl ?_
              refine T_le (y := (X_st (-1) (X_Hh G w h (HF h) (HE h)))) hH.2.2 ?_
              refine T_p xr_189_243 xn_189 (pc' := 244) (ls' := [(14, .int (iI h)), (8, .long (iL (l1 : Int))), (7, .int (iI (30 * b + w))), (6, .int (iI node)), (3, .int (iI j)), (2, .int (iI i)), (1, .int (iI w)), (0, .ref 530)]) (st' := [.long (iL 0), .long (X_st (-1) (X_Hh G w h (HF h) (HE h)))]) rfl ?_
              refine T_lc_ge xr_189_244 xr_189_245 (t := 253) (pc' := 248) rfl rfl (fun c1682 => ?_) (fun c1682 => ?_)
              · skip
                have c1682 : (iL 0) ≤ (X_st (-1) (X_Hh G w h (HF h) (HE h))) := c1682
                refine T_p xr_189_253 xn_189 (pc' := 255) (ls' := [(14, .int (iI h)), (8, .long (iL (l1 : Int))), (7, .int (iI (30 * b + w))), (6, .int (iI node)), (3, .int (iI j)), (2, .int (iI i)), (1, .int (iI w)), (0, .ref 530)]) (st' := [.long (iL (l1 : Int))]) rfl ?_
                refine T_p xr_189_255 xn_189 (pc' := 256) (ls' := [(14, .int (iI h)), (8, .long (iL (l1 : Int))), (7, .int (iI (30 * b + w))), (6, .int (iI node)), (3, .int (iI j)), (2, .int (iI i)), (1, .int (iI w)), (0, .ref 530)]) (st' := [.ref 530, .long (iL (l1 : Int))]) rfl ?_
                refine T_get xr_189_256 hO5 rfl (v := .ref 572) rfl (pc' := 259) rfl ?_
                refine T_p xr_189_259 xn_189 (pc' := 261) (ls' := [(14, .int (iI h)), (8, .long (iL (l1 : Int))), (7, .int (iI (30 * b + w))), (6, .int (iI node)), (3, .int (iI j)), (2, .int (iI i)), (1, .int (iI w)), (0, .ref 530)]) (st' := [.int (iI h), .ref 572, .long (iL (l1 : Int))]) rfl ?_
                refine T_zlald xr_189_261 h1681 (pc' := 262) rfl ?_
                refine T_le (y := (X_st (-1) (X_Hh G w h (HF h) (HE h)))) hH.2.2 ?_
                refine T_p xr_189_262 xn_189 (pc' := 263) (ls' := [(14, .int (iI h)), (8, .long (iL (l1 : Int))), (7, .int (iI (30 * b + w))), (6, .int (iI node)), (3, .int (iI j)), (2, .int (iI i)), (1, .int (iI w)), (0, .ref 530)]) (st' := .long ((iL (l1 : Int)) - (iL (l1 : Int)) / (X_st (-1) (X_Hh G w h (HF h) (HE h))) * (X_st (-1) (X_Hh G w h (HF h) (HE h)))) :: []) (by simp only [X_pstep, X_l2]; rw [if_neg (by exact fun z => absurd ((X_st_z (m := -1) (by omega)).mp z) (by omega))]) ?_
                refine T_le (y := (iL ((l1 % X_Hh G w h (HF h) (HE h) : Nat) : Int))) (by rw [X_st_lo (Nat.le_of_not_lt (fun z => absurd ((X_st_n (m := -1) (a := X_Hh G w h (HF h) (HE h)) (by omega)).mpr z) (by first | assumption | exact Int64.not_lt.mpr (by assumption) | exact Classical.not_not.mp (by assumption))))]; exact (iL_rem hl1m ⟨hHp, (Nat.le_of_not_lt (fun z => absurd ((X_st_n (m := -1) (a := X_Hh G w h (HF h) (HE h)) (by omega)).mpr z) (by first | assumption | exact Int64.not_lt.mpr (by assumption) | exact Classical.not_not.mp (by assumption))))⟩).1) ?_
                exact J1635
              · skip
                have c1682 : ¬ ((iL 0) ≤ (X_st (-1) (X_Hh G w h (HF h) (HE h)))) := c1682
                refine T_p xr_189_248 xn_189 (pc' := 250) (ls' := [(14, .int (iI h)), (8, .long (iL (l1 : Int))), (7, .int (iI (30 * b + w))), (6, .int (iI node)), (3, .int (iI j)), (2, .int (iI i)), (1, .int (iI w)), (0, .ref 530)]) (st' := [.long (iL (l1 : Int))]) rfl ?_
                refine T_p xr_189_250 xn_189 (pc' := 263) (ls' := [(14, .int (iI h)), (8, .long (iL (l1 : Int))), (7, .int (iI (30 * b + w))), (6, .int (iI node)), (3, .int (iI j)), (2, .int (iI i)), (1, .int (iI w)), (0, .ref 530)]) (st' := [.long (iL (l1 : Int))]) rfl ?_
                refine T_le (y := (iL ((l1 % X_Hh G w h (HF h) (HE h) : Nat) : Int))) (by rw [Nat.mod_eq_of_lt (show l1 < X_Hh G w h (HF h) (HE h) from Nat.lt_of_le_of_lt hl1m ((X_st_n (m := -1) (a := X_Hh G w h (HF h) (HE h)) (by omega)).mp (by first | assumption | exact Int64.not_le.mp (by assumption) | exact Classical.not_not.mp (by assumption))))]) ?_
                exact J1635
        refine T_sub (ls := [(14, .int (iI (hc - 1))), (8, .long (iL (l : Int))), (7, .int (iI (30 * b + w))), (6, .int (iI node)), (3, .int (iI j)), (2, .int (iI i)), (1, .int (iI w)), (0, .ref 530)]) ⟨rfl, rfl, rfl, rfl, rfl, rfl, rfl, rfl, trivial⟩ rfl rfl ?_
        exact L1616 ((gD G w 4 0) + 1).toNat S1612 (hc - 1) l hp St pF pT pS pH pW pP pQ pN h1613 h1621 h1622 h1623 h1624 h1625 h1626 h1627 h1628 ((X_Fr.rf)) (by omega) hlm (by rw [show (hc - 1 + 1).toNat = (gD G w 4 0).toNat by omega]) hpl (by omega) (by omega)
      · skip
        have c1615 : ¬ ((gD G w 3 0) ≤ e) := c1615
        refine T_p xr_189_45 xn_189 (pc' := 46) (ls' := [(14, .int (iI e)), (13, .int (iI hc)), (12, .int (iI pl)), (10, .long (X_st (-1) bb)), (8, .long (iL (l : Int))), (7, .int (iI (30 * b + w))), (6, .int (iI node)), (3, .int (iI j)), (2, .int (iI i)), (1, .int (iI w)), (0, .ref 530)]) (st' := [.ref 530]) rfl ?_
        refine T_get xr_189_46 h1613 rfl (v := .ref 545) rfl (pc' := 49) rfl ?_
        refine T_p xr_189_49 xn_189 (pc' := 51) (ls' := [(14, .int (iI e)), (13, .int (iI hc)), (12, .int (iI pl)), (10, .long (X_st (-1) bb)), (8, .long (iL (l : Int))), (7, .int (iI (30 * b + w))), (6, .int (iI node)), (3, .int (iI j)), (2, .int (iI i)), (1, .int (iI w)), (0, .ref 530)]) (st' := [.int (iI 8), .ref 545]) rfl ?_
        refine T_p xr_189_51 xn_189 (pc' := 53) (ls' := [(14, .int (iI e)), (13, .int (iI hc)), (12, .int (iI pl)), (10, .long (X_st (-1) bb)), (8, .long (iL (l : Int))), (7, .int (iI (30 * b + w))), (6, .int (iI node)), (3, .int (iI j)), (2, .int (iI i)), (1, .int (iI w)), (0, .ref 530)]) (st' := [.int (iI (30 * b + w)), .int (iI 8), .ref 545]) rfl ?_
        refine T_zimul xr_189_53 (z := 8 * (30 * b + w)) rfl (pc' := 54) rfl ?_
        refine T_p xr_189_54 xn_189 (pc' := 56) (ls' := [(14, .int (iI e)), (13, .int (iI hc)), (12, .int (iI pl)), (10, .long (X_st (-1) bb)), (8, .long (iL (l : Int))), (7, .int (iI (30 * b + w))), (6, .int (iI node)), (3, .int (iI j)), (2, .int (iI i)), (1, .int (iI w)), (0, .ref 530)]) (st' := [.int (iI e), .int (iI (8 * (30 * b + w))), .ref 545]) rfl ?_
        refine T_ziadd xr_189_56 (z := (8 * (30 * b + w)) + e) rfl (pc' := 57) rfl ?_
        have h1683 := (hF1608.1 545 (by omega)).trans ((hf1603.1 545 (by omega)).trans (hA545))
        refine T_zlald xr_189_57 h1683 (pc' := 58) rfl ?_
        refine T_le (y := (gW G w e)) (by rw [← hEP w hw.1 hw.2 e (by omega) (by omega)]) ?_
        refine T_p xr_189_58 xn_189 (pc' := 59) (ls' := [(14, .int (iI e)), (13, .int (iI hc)), (12, .int (iI pl)), (10, .long (X_st (-1) bb)), (8, .long (iL (l : Int))), (7, .int (iI (30 * b + w))), (6, .int (iI node)), (3, .int (iI j)), (2, .int (iI i)), (1, .int (iI w)), (0, .ref 530)]) (st' := [.long (iL 0), .long (gW G w e)]) rfl ?_
        refine T_lc_eq xr_189_59 xr_189_60 (t := 69) (pc' := 63) rfl rfl (fun c1684 => ?_) (fun c1684 => ?_)
        · skip
          have c1684 : (gW G w e) = (iL 0) := c1684
          have hq0 : gW G w e = 0 := by first | assumption | exact Classical.not_not.mp (by assumption)
          have hh8 := hgw.hole (show 0 ≤ e by omega) (show e < gD G w 3 0 by omega) hq0
          have hX0 := hX
          rw [show (gD G w 3 0 - e).toNat = (gD G w 3 0 - (e + 1)).toNat + 1 by omega] at hX0
          have hs1 := X_hn_s (q := gW G w) (e := e) (show 0 ≤ e by omega)
          rw [if_pos hq0] at hs1
          have h8e := hgw.2.2.2.2.2.2.2.1 e (by omega) (by omega) hq0
          have hSE := X_sF_e (b := bb) (p := pl) (j := j) (show e < gD G w 3 0 by omega) hq0
          refine T_p xr_189_69 xn_189 (pc' := 71) (ls' := [(14, .int (iI e)), (13, .int (iI hc)), (12, .int (iI pl)), (10, .long (X_st (-1) bb)), (8, .long (iL (l : Int))), (7, .int (iI (30 * b + w))), (6, .int (iI node)), (3, .int (iI j)), (2, .int (iI i)), (1, .int (iI w)), (0, .ref 530)]) (st' := [.int (iI pl)]) rfl ?_
          refine T_p xr_189_71 xn_189 (pc' := 73) (ls' := [(15, .int (iI pl)), (14, .int (iI e)), (13, .int (iI hc)), (12, .int (iI pl)), (10, .long (X_st (-1) bb)), (8, .long (iL (l : Int))), (7, .int (iI (30 * b + w))), (6, .int (iI node)), (3, .int (iI j)), (2, .int (iI i)), (1, .int (iI w)), (0, .ref 530)]) (st' := []) rfl ?_
          refine T_p xr_189_73 xn_189 (pc' := 74) (ls' := [(15, .int (iI pl)), (14, .int (iI e)), (13, .int (iI hc)), (12, .int (iI pl)), (10, .long (X_st (-1) bb)), (8, .long (iL (l : Int))), (7, .int (iI (30 * b + w))), (6, .int (iI node)), (3, .int (iI j)), (2, .int (iI i)), (1, .int (iI w)), (0, .ref 530)]) (st' := [.int (iI 0)]) rfl ?_
          refine T_p xr_189_74 xn_189 (pc' := 76) (ls' := [(16, .int (iI 0)), (15, .int (iI pl)), (14, .int (iI e)), (13, .int (iI hc)), (12, .int (iI pl)), (10, .long (X_st (-1) bb)), (8, .long (iL (l : Int))), (7, .int (iI (30 * b + w))), (6, .int (iI node)), (3, .int (iI j)), (2, .int (iI i)), (1, .int (iI w)), (0, .ref 530)]) (st' := []) rfl ?_
          refine T_p xr_189_76 xn_189 (pc' := 77) (ls' := [(16, .int (iI 0)), (15, .int (iI pl)), (14, .int (iI e)), (13, .int (iI hc)), (12, .int (iI pl)), (10, .long (X_st (-1) bb)), (8, .long (iL (l : Int))), (7, .int (iI (30 * b + w))), (6, .int (iI node)), (3, .int (iI j)), (2, .int (iI i)), (1, .int (iI w)), (0, .ref 530)]) (st' := [.long (iL 0)]) rfl ?_
          refine T_p xr_189_77 xn_189 (pc' := 79) (ls' := [(17, .long (iL 0)), (16, .int (iI 0)), (15, .int (iI pl)), (14, .int (iI e)), (13, .int (iI hc)), (12, .int (iI pl)), (10, .long (X_st (-1) bb)), (8, .long (iL (l : Int))), (7, .int (iI (30 * b + w))), (6, .int (iI node)), (3, .int (iI j)), (2, .int (iI i)), (1, .int (iI w)), (0, .ref 530)]) (st' := []) rfl ?_
          have L1685 : ∀ (m1687 : Nat) (m : Int) (fd : Int) (c17 : Int64) (l2 : Nat) (hm : pl ≤ m ∧ m ≤ j) (hl2m : l2 ≤ 9223372036854775807) (hfd : (fd = 0 ∧ l = X_Su (X_sF G w e pl j bb) (pl + 1) (m + 1) + l2) ∨ (fd = 1 ∧ pl < m ∧ l = X_Su (X_sF G w e pl j bb) (pl + 1) m + l2 ∧ l2 < X_sF G w e pl j bb m ∧ c17 = X_st (-1) (X_Hw G (X_T_ G) w e pl m))) (hm1688 : j + 1 - m < m1687), X_T sc 189 (79, [(17, .long c17), (16, .int (iI fd)), (15, .int (iI m)), (14, .int (iI e)), (13, .int (iI hc)), (12, .int (iI pl)), (10, .long (X_st (-1) bb)), (8, .long (iL (l2 : Int))), (7, .int (iI (30 * b + w))), (6, .int (iI node)), (3, .int (iI j)), (2, .int (iI i)), (1, .int (iI w)), (0, .ref 530)], [], S1612) Q := by
            intro m1687
            induction m1687 with
            | zero =>
              intro m fd c17 l2 hm hl2m hfd hm1688
              exact (show False by omega).elim
            | succ m1687 ih1686 =>
              intro m fd c17 l2 hm hl2m hfd hm1688
              refine T_p xr_189_79 xn_189 (pc' := 81) (ls' := [(17, .long c17), (16, .int (iI fd)), (15, .int (iI m)), (14, .int (iI e)), (13, .int (iI hc)), (12, .int (iI pl)), (10, .long (X_st (-1) bb)), (8, .long (iL (l2 : Int))), (7, .int (iI (30 * b + w))), (6, .int (iI node)), (3, .int (iI j)), (2, .int (iI i)), (1, .int (iI w)), (0, .ref 530)]) (st' := [.int (iI fd)]) rfl ?_
              refine T_zif_ne xr_189_81 (t := 176) (pc' := 84) rfl rfl (fun c1690 => ?_) (fun c1690 => ?_)
              · skip
                have c1690 : ¬ fd = 0 := c1690
                have hf1 : pl < m ∧ l = X_Su (X_sF G w e pl j bb) (pl + 1) m + l2 ∧ l2 < X_sF G w e pl j bb m ∧ c17 = X_st (-1) (X_Hw G (X_T_ G) w e pl m) := by
                  rcases hfd with h | h
                  · exact absurd h.1 (by omega)
                  · exact h.2
                have hfd2 := X_sp_u ⟨hf1.1, hm.2⟩ hf1.2.1 hf1.2.2.1
                rw [X_spl_h hq0 hfd2] at hX0
                refine T_p xr_189_176 xn_189 (pc' := 177) (ls' := [(17, .long c17), (16, .int (iI fd)), (15, .int (iI m)), (14, .int (iI e)), (13, .int (iI hc)), (12, .int (iI pl)), (10, .long (X_st (-1) bb)), (8, .long (iL (l2 : Int))), (7, .int (iI (30 * b + w))), (6, .int (iI node)), (3, .int (iI j)), (2, .int (iI i)), (1, .int (iI w)), (0, .ref 530)]) (st' := [.ref 530]) rfl ?_
                refine T_get xr_189_177 h1613 rfl (v := .ref 570) rfl (pc' := 180) rfl ?_
                refine T_p xr_189_180 xn_189 (pc' := 182) (ls' := [(17, .long c17), (16, .int (iI fd)), (15, .int (iI m)), (14, .int (iI e)), (13, .int (iI hc)), (12, .int (iI pl)), (10, .long (X_st (-1) bb)), (8, .long (iL (l2 : Int))), (7, .int (iI (30 * b + w))), (6, .int (iI node)), (3, .int (iI j)), (2, .int (iI i)), (1, .int (iI w)), (0, .ref 530)]) (st' := [.int (iI hc), .ref 570]) rfl ?_
                refine T_p xr_189_182 xn_189 (pc' := 184) (ls' := [(17, .long c17), (16, .int (iI fd)), (15, .int (iI m)), (14, .int (iI e)), (13, .int (iI hc)), (12, .int (iI pl)), (10, .long (X_st (-1) bb)), (8, .long (iL (l2 : Int))), (7, .int (iI (30 * b + w))), (6, .int (iI node)), (3, .int (iI j)), (2, .int (iI i)), (1, .int (iI w)), (0, .ref 530)]) (st' := [.int (iI pl), .int (iI hc), .ref 570]) rfl ?_
                refine T_ziast xr_189_184 hcFa (pc' := 185) rfl (fun S1691 h1692 n1693 e1694 => ?_)
                refine T_p xr_189_185 xn_189 (pc' := 186) (ls' := [(17, .long c17), (16, .int (iI fd)), (15, .int (iI m)), (14, .int (iI e)), (13, .int (iI hc)), (12, .int (iI pl)), (10, .long (X_st (-1) bb)), (8, .long (iL (l2 : Int))), (7, .int (iI (30 * b + w))), (6, .int (iI node)), (3, .int (iI j)), (2, .int (iI i)), (1, .int (iI w)), (0, .ref 530)]) (st' := [.ref 530]) rfl ?_
                have h1695 := (n1693 530 (by decide)).trans (h1613)
                refine T_get xr_189_186 h1695 rfl (v := .ref 571) rfl (pc' := 189) rfl ?_
                refine T_p xr_189_189 xn_189 (pc' := 191) (ls' := [(17, .long c17), (16, .int (iI fd)), (15, .int (iI m)), (14, .int (iI e)), (13, .int (iI hc)), (12, .int (iI pl)), (10, .long (X_st (-1) bb)), (8, .long (iL (l2 : Int))), (7, .int (iI (30 * b + w))), (6, .int (iI node)), (3, .int (iI j)), (2, .int (iI i)), (1, .int (iI w)), (0, .ref 530)]) (st' := [.int (iI hc), .ref 571]) rfl ?_
                refine T_p xr_189_191 xn_189 (pc' := 193) (ls' := [(17, .long c17), (16, .int (iI fd)), (15, .int (iI m)), (14, .int (iI e)), (13, .int (iI hc)), (12, .int (iI pl)), (10, .long (X_st (-1) bb)), (8, .long (iL (l2 : Int))), (7, .int (iI (30 * b + w))), (6, .int (iI node)), (3, .int (iI j)), (2, .int (iI i)), (1, .int (iI w)), (0, .ref 530)]) (st' := [.int (iI m), .int (iI hc), .ref 571]) rfl ?_
                have h1696 := (n1693 571 (by decide)).trans (hcTa)
                refine T_ziast xr_189_193 h1696 (pc' := 194) rfl (fun S1697 h1698 n1699 e1700 => ?_)
                refine T_p xr_189_194 xn_189 (pc' := 195) (ls' := [(17, .long c17), (16, .int (iI fd)), (15, .int (iI m)), (14, .int (iI e)), (13, .int (iI hc)), (12, .int (iI pl)), (10, .long (X_st (-1) bb)), (8, .long (iL (l2 : Int))), (7, .int (iI (30 * b + w))), (6, .int (iI node)), (3, .int (iI j)), (2, .int (iI i)), (1, .int (iI w)), (0, .ref 530)]) (st' := [.ref 530]) rfl ?_
                have h1701 := (n1699 530 (by decide)).trans (h1695)
                refine T_get xr_189_195 h1701 rfl (v := .ref 572) rfl (pc' := 198) rfl ?_
                refine T_p xr_189_198 xn_189 (pc' := 200) (ls' := [(17, .long c17), (16, .int (iI fd)), (15, .int (iI m)), (14, .int (iI e)), (13, .int (iI hc)), (12, .int (iI pl)), (10, .long (X_st (-1) bb)), (8, .long (iL (l2 : Int))), (7, .int (iI (30 * b + w))), (6, .int (iI node)), (3, .int (iI j)), (2, .int (iI i)), (1, .int (iI w)), (0, .ref 530)]) (st' := [.int (iI hc), .ref 572]) rfl ?_
                refine T_p xr_189_200 xn_189 (pc' := 202) (ls' := [(17, .long c17), (16, .int (iI fd)), (15, .int (iI m)), (14, .int (iI e)), (13, .int (iI hc)), (12, .int (iI pl)), (10, .long (X_st (-1) bb)), (8, .long (iL (l2 : Int))), (7, .int (iI (30 * b + w))), (6, .int (iI node)), (3, .int (iI j)), (2, .int (iI i)), (1, .int (iI w)), (0, .ref 530)]) (st' := [.long c17, .int (iI hc), .ref 572]) rfl ?_
                refine T_le (y := (X_st (-1) (X_Hw G (X_T_ G) w e pl m))) hf1.2.2.2 ?_
                have h1702 := (n1699 572 (by decide)).trans ((n1693 572 (by decide)).trans (hcNa))
                refine T_zlast xr_189_202 h1702 (pc' := 203) rfl (fun S1703 h1704 n1705 e1706 => ?_)
                refine T_p xr_189_203 xn_189 (pc' := 205) (ls' := [(17, .long c17), (16, .int (iI fd)), (15, .int (iI m)), (14, .int (iI e)), (13, .int (iI hc)), (12, .int (iI pl)), (10, .long (X_st (-1) bb)), (8, .long (iL (l2 : Int))), (7, .int (iI (30 * b + w))), (6, .int (iI node)), (3, .int (iI j)), (2, .int (iI i)), (1, .int (iI w)), (0, .ref 530)]) (st' := [.long (X_st (-1) bb)]) rfl ?_
                refine T_p xr_189_205 xn_189 (pc' := 207) (ls' := [(17, .long c17), (16, .int (iI fd)), (15, .int (iI m)), (14, .int (iI e)), (13, .int (iI hc)), (12, .int (iI pl)), (10, .long (X_st (-1) bb)), (8, .long (iL (l2 : Int))), (7, .int (iI (30 * b + w))), (6, .int (iI node)), (3, .int (iI j)), (2, .int (iI i)), (1, .int (iI w)), (0, .ref 530)]) (st' := [.long c17, .long (X_st (-1) bb)]) rfl ?_
                refine T_le (y := (X_st (-1) (X_Hw G (X_T_ G) w e pl m))) hf1.2.2.2 ?_
                refine T_cs xr_189_207 (by decide) xf_172.1 xn_172 (as := [.long (X_st (-1) bb), .long (X_st (-1) (X_Hw G (X_T_ G) w e pl m))]) (r := []) rfl (Nat.le_of_ble_eq_true rfl) (Nat.le_of_ble_eq_true rfl) (pc' := 210) rfl (ls' := [(0, .long (X_st (-1) bb)), (2, .long (X_st (-1) (X_Hw G (X_T_ G) w e pl m)))]) rfl ?_
                refine T_mono (r_product sc S1703 bb (X_Hw G (X_T_ G) w e pl m)) (fun v1707 S1708 h1709 => ?_)
                rcases h1709 with ⟨hv1710, hf1711⟩
                rw [hv1710]
                rw [hf1711]
                show X_T sc 189 (210, [(17, .long c17), (16, .int (iI fd)), (15, .int (iI m)), (14, .int (iI e)), (13, .int (iI hc)), (12, .int (iI pl)), (10, .long (X_st (-1) bb)), (8, .long (iL (l2 : Int))), (7, .int (iI (30 * b + w))), (6, .int (iI node)), (3, .int (iI j)), (2, .int (iI i)), (1, .int (iI w)), (0, .ref 530)], [.long (X_st (-1) (bb * (X_Hw G (X_T_ G) w e pl m)))], S1703) _
                refine T_p xr_189_210 xn_189 (pc' := 212) (ls' := [(10, .long (X_st (-1) (bb * (X_Hw G (X_T_ G) w e pl m)))), (17, .long c17), (16, .int (iI fd)), (15, .int (iI m)), (14, .int (iI e)), (13, .int (iI hc)), (12, .int (iI pl)), (8, .long (iL (l2 : Int))), (7, .int (iI (30 * b + w))), (6, .int (iI node)), (3, .int (iI j)), (2, .int (iI i)), (1, .int (iI w)), (0, .ref 530)]) (st' := []) rfl ?_
                refine T_p xr_189_212 xn_189 (pc' := 214) (ls' := [(10, .long (X_st (-1) (bb * (X_Hw G (X_T_ G) w e pl m)))), (17, .long c17), (16, .int (iI fd)), (15, .int (iI m)), (14, .int (iI e)), (13, .int (iI hc)), (12, .int (iI pl)), (8, .long (iL (l2 : Int))), (7, .int (iI (30 * b + w))), (6, .int (iI node)), (3, .int (iI j)), (2, .int (iI i)), (1, .int (iI w)), (0, .ref 530)]) (st' := [.int (iI m)]) rfl ?_
                refine T_p xr_189_214 xn_189 (pc' := 216) (ls' := [(12, .int (iI m)), (10, .long (X_st (-1) (bb * (X_Hw G (X_T_ G) w e pl m)))), (17, .long c17), (16, .int (iI fd)), (15, .int (iI m)), (14, .int (iI e)), (13, .int (iI hc)), (8, .long (iL (l2 : Int))), (7, .int (iI (30 * b + w))), (6, .int (iI node)), (3, .int (iI j)), (2, .int (iI i)), (1, .int (iI w)), (0, .ref 530)]) (st' := []) rfl ?_
                refine T_ziinc xr_189_216 xn_189 (a := hc) (z := hc + 1) rfl (Nat.le_of_ble_eq_true rfl) (by omega) (ls' := [(13, .int (iI (hc + 1))), (12, .int (iI m)), (10, .long (X_st (-1) (bb * (X_Hw G (X_T_ G) w e pl m)))), (17, .long c17), (16, .int (iI fd)), (15, .int (iI m)), (14, .int (iI e)), (8, .long (iL (l2 : Int))), (7, .int (iI (30 * b + w))), (6, .int (iI node)), (3, .int (iI j)), (2, .int (iI i)), (1, .int (iI w)), (0, .ref 530)]) rfl (pc' := 219) rfl ?_
                refine T_ziinc xr_189_219 xn_189 (a := e) (z := e + 1) rfl (Nat.le_of_ble_eq_true rfl) (by omega) (ls' := [(14, .int (iI (e + 1))), (13, .int (iI (hc + 1))), (12, .int (iI m)), (10, .long (X_st (-1) (bb * (X_Hw G (X_T_ G) w e pl m)))), (17, .long c17), (16, .int (iI fd)), (15, .int (iI m)), (8, .long (iL (l2 : Int))), (7, .int (iI (30 * b + w))), (6, .int (iI node)), (3, .int (iI j)), (2, .int (iI i)), (1, .int (iI w)), (0, .ref 530)]) rfl (pc' := 222) rfl ?_
                refine T_p xr_189_222 xn_189 (pc' := 33) (ls' := [(14, .int (iI (e + 1))), (13, .int (iI (hc + 1))), (12, .int (iI m)), (10, .long (X_st (-1) (bb * (X_Hw G (X_T_ G) w e pl m)))), (17, .long c17), (16, .int (iI fd)), (15, .int (iI m)), (8, .long (iL (l2 : Int))), (7, .int (iI (30 * b + w))), (6, .int (iI node)), (3, .int (iI j)), (2, .int (iI i)), (1, .int (iI w)), (0, .ref 530)]) (st' := []) rfl ?_
                have h1712 := (n1705 570 (by decide)).trans ((n1699 570 (by decide)).trans (h1692))
                have h1713 := (n1705 571 (by decide)).trans (h1698)
                refine T_sub (ls := [(14, .int (iI (e + 1))), (13, .int (iI (hc + 1))), (12, .int (iI m)), (10, .long (X_st (-1) (bb * (X_Hw G (X_T_ G) w e pl m)))), (8, .long (iL (l2 : Int))), (7, .int (iI (30 * b + w))), (6, .int (iI node)), (3, .int (iI j)), (2, .int (iI i)), (1, .int (iI w)), (0, .ref 530)]) ⟨rfl, rfl, rfl, rfl, rfl, rfl, rfl, rfl, rfl, rfl, rfl, trivial⟩ rfl rfl ?_
                exact ih1605 S1703 (e + 1) m (hc + 1) l2 (bb * (X_Hw G (X_T_ G) w e pl m)) (X_ug HF (gD G w 8 e) pl) (X_ug HE (gD G w 8 e) m) (X_ug cFa hc pl) (X_ug cTa hc m) (X_ug cNa hc (X_st (-1) (X_Hw G (X_T_ G) w e pl m))) h1712 h1713 h1704 (hF1608.tr ((((X_Fr.rf).tr (X_Fr.of n1693 e1694 (by omega))).tr (X_Fr.of n1699 e1700 (by omega))).tr (X_Fr.of n1705 e1706 (by omega)))) (by omega) (by omega) hf1.2.2.1 hl2m hX0 (fun h h1 h2 => by
                      by_cases hh : h = gD G w 8 e
                      · subst hh
                        rw [hhc, ← h8e]; simp only [X_ug_s]
                        exact ⟨trivial, trivial, by rw [X_Hw_h hgw (by omega) (by omega) hq0]⟩
                      · have hh2 : ¬ h = hc := by omega
                        simp only [X_ug_n _ _ hh, X_ug_n _ _ hh2]; exact hA h h1 (by omega)) (by omega)
              · skip
                have c1690 : ¬ (¬ fd = 0) := c1690
                have hmj : m < j ∧ l = X_Su (X_sF G w e pl j bb) (pl + 1) (m + 1) + l2 := by
                  rcases hfd with h | h
                  · refine ⟨?_, h.2⟩
                    by_cases hj : m = j
                    · rw [hj, hSE] at h; omega
                    · omega
                  · exact absurd h.1 (by omega)
                refine T_ziinc xr_189_84 xn_189 (a := m) (z := m + 1) rfl (Nat.le_of_ble_eq_true rfl) (by omega) (ls' := [(15, .int (iI (m + 1))), (17, .long c17), (16, .int (iI fd)), (14, .int (iI e)), (13, .int (iI hc)), (12, .int (iI pl)), (10, .long (X_st (-1) bb)), (8, .long (iL (l2 : Int))), (7, .int (iI (30 * b + w))), (6, .int (iI node)), (3, .int (iI j)), (2, .int (iI i)), (1, .int (iI w)), (0, .ref 530)]) rfl (pc' := 87) rfl ?_
                refine T_p xr_189_87 xn_189 (pc' := 88) (ls' := [(15, .int (iI (m + 1))), (17, .long c17), (16, .int (iI fd)), (14, .int (iI e)), (13, .int (iI hc)), (12, .int (iI pl)), (10, .long (X_st (-1) bb)), (8, .long (iL (l2 : Int))), (7, .int (iI (30 * b + w))), (6, .int (iI node)), (3, .int (iI j)), (2, .int (iI i)), (1, .int (iI w)), (0, .ref 530)]) (st' := [.ref 530]) rfl ?_
                refine T_get xr_189_88 h1613 rfl (v := .ref 554) rfl (pc' := 91) rfl ?_
                refine T_p xr_189_91 xn_189 (pc' := 94) (ls' := [(15, .int (iI (m + 1))), (17, .long c17), (16, .int (iI fd)), (14, .int (iI e)), (13, .int (iI hc)), (12, .int (iI pl)), (10, .long (X_st (-1) bb)), (8, .long (iL (l2 : Int))), (7, .int (iI (30 * b + w))), (6, .int (iI node)), (3, .int (iI j)), (2, .int (iI i)), (1, .int (iI w)), (0, .ref 530)]) (st' := [.int (iI 961), .ref 554]) rfl ?_
                refine T_p xr_189_94 xn_189 (pc' := 95) (ls' := [(15, .int (iI (m + 1))), (17, .long c17), (16, .int (iI fd)), (14, .int (iI e)), (13, .int (iI hc)), (12, .int (iI pl)), (10, .long (X_st (-1) bb)), (8, .long (iL (l2 : Int))), (7, .int (iI (30 * b + w))), (6, .int (iI node)), (3, .int (iI j)), (2, .int (iI i)), (1, .int (iI w)), (0, .ref 530)]) (st' := [.int (iI 4), .int (iI 961), .ref 554]) rfl ?_
                refine T_p xr_189_95 xn_189 (pc' := 96) (ls' := [(15, .int (iI (m + 1))), (17, .long c17), (16, .int (iI fd)), (14, .int (iI e)), (13, .int (iI hc)), (12, .int (iI pl)), (10, .long (X_st (-1) bb)), (8, .long (iL (l2 : Int))), (7, .int (iI (30 * b + w))), (6, .int (iI node)), (3, .int (iI j)), (2, .int (iI i)), (1, .int (iI w)), (0, .ref 530)]) (st' := [.int (iI w), .int (iI 4), .int (iI 961), .ref 554]) rfl ?_
                refine T_zimul xr_189_96 (z := 4 * w) rfl (pc' := 97) rfl ?_
                refine T_p xr_189_97 xn_189 (pc' := 99) (ls' := [(15, .int (iI (m + 1))), (17, .long c17), (16, .int (iI fd)), (14, .int (iI e)), (13, .int (iI hc)), (12, .int (iI pl)), (10, .long (X_st (-1) bb)), (8, .long (iL (l2 : Int))), (7, .int (iI (30 * b + w))), (6, .int (iI node)), (3, .int (iI j)), (2, .int (iI i)), (1, .int (iI w)), (0, .ref 530)]) (st' := [.int (iI hc), .int (iI (4 * w)), .int (iI 961), .ref 554]) rfl ?_
                refine T_ie (y := iI (gD G w 8 e)) (by rw [hhc, h8e]) ?_
                refine T_ziadd xr_189_99 (z := (4 * w) + (gD G w 8 e)) rfl (pc' := 100) rfl ?_
                refine T_zimul xr_189_100 (z := 961 * ((4 * w) + (gD G w 8 e))) rfl (pc' := 101) rfl ?_
                refine T_p xr_189_101 xn_189 (pc' := 103) (ls' := [(15, .int (iI (m + 1))), (17, .long c17), (16, .int (iI fd)), (14, .int (iI e)), (13, .int (iI hc)), (12, .int (iI pl)), (10, .long (X_st (-1) bb)), (8, .long (iL (l2 : Int))), (7, .int (iI (30 * b + w))), (6, .int (iI node)), (3, .int (iI j)), (2, .int (iI i)), (1, .int (iI w)), (0, .ref 530)]) (st' := [.int (iI pl), .int (iI (961 * ((4 * w) + (gD G w 8 e)))), .ref 554]) rfl ?_
                refine T_p xr_189_103 xn_189 (pc' := 105) (ls' := [(15, .int (iI (m + 1))), (17, .long c17), (16, .int (iI fd)), (14, .int (iI e)), (13, .int (iI hc)), (12, .int (iI pl)), (10, .long (X_st (-1) bb)), (8, .long (iL (l2 : Int))), (7, .int (iI (30 * b + w))), (6, .int (iI node)), (3, .int (iI j)), (2, .int (iI i)), (1, .int (iI w)), (0, .ref 530)]) (st' := [.int (iI (m + 1)), .int (iI pl), .int (iI (961 * ((4 * w) + (gD G w 8 e)))), .ref 554]) rfl ?_
                refine T_cs xr_189_105 (by decide) xf_173.1 xn_173 (as := [.int (iI pl), .int (iI (m + 1))]) (r := [.int (iI (961 * ((4 * w) + (gD G w 8 e)))), .ref 554]) rfl (Nat.le_of_ble_eq_true rfl) (Nat.le_of_ble_eq_true rfl) (pc' := 108) rfl (ls' := [(0, .int (iI pl)), (1, .int (iI (m + 1)))]) rfl ?_
                refine T_p xr_173_0 xn_173 (pc' := 2) (ls' := [(0, .int (iI pl)), (1, .int (iI (m + 1)))]) (st' := [.int (iI 31)]) rfl ?_
                refine T_p xr_173_2 xn_173 (pc' := 3) (ls' := [(0, .int (iI pl)), (1, .int (iI (m + 1)))]) (st' := [.int (iI pl), .int (iI 31)]) rfl ?_
                refine T_zimul xr_173_3 (z := 31 * pl) rfl (pc' := 4) rfl ?_
                refine T_p xr_173_4 xn_173 (pc' := 5) (ls' := [(0, .int (iI pl)), (1, .int (iI (m + 1)))]) (st' := [.int (iI (m + 1)), .int (iI (31 * pl))]) rfl ?_
                refine T_ziadd xr_173_5 (z := (31 * pl) + (m + 1)) rfl (pc' := 6) rfl ?_
                refine T_iret xr_173_6 xf_173.2.2 rfl ?_
                show X_T sc 189 (108, [(15, .int (iI (m + 1))), (17, .long c17), (16, .int (iI fd)), (14, .int (iI e)), (13, .int (iI hc)), (12, .int (iI pl)), (10, .long (X_st (-1) bb)), (8, .long (iL (l2 : Int))), (7, .int (iI (30 * b + w))), (6, .int (iI node)), (3, .int (iI j)), (2, .int (iI i)), (1, .int (iI w)), (0, .ref 530)], [.int (iI ((31 * pl) + (m + 1))), .int (iI (961 * ((4 * w) + (gD G w 8 e)))), .ref 554], S1612) _
                refine T_ziadd xr_189_108 (z := (961 * ((4 * w) + (gD G w 8 e))) + ((31 * pl) + (m + 1))) rfl (pc' := 109) rfl ?_
                have h1714 := (hF1608.1 554 (by omega)).trans ((hf1603.1 554 (by omega)).trans (hA554))
                refine T_zlald xr_189_109 h1714 (pc' := 110) rfl ?_
                refine T_le (y := (X_st (-1) (X_Hw G (X_T_ G) w e pl (m + 1)))) (by
                        have hr := (hCt pl (m + 1) (by omega) (by omega) (by omega)).2.2 w (by omega) (by omega) (gD G w 8 e) hh8.1 hh8.2
                        rw [h8e] at hr ⊢
                        rw [hr, ← h8e, X_Hw_h hgw (by omega) (by omega) hq0]) ?_
                refine T_p xr_189_110 xn_189 (pc' := 112) (ls' := [(17, .long (X_st (-1) (X_Hw G (X_T_ G) w e pl (m + 1)))), (15, .int (iI (m + 1))), (16, .int (iI fd)), (14, .int (iI e)), (13, .int (iI hc)), (12, .int (iI pl)), (10, .long (X_st (-1) bb)), (8, .long (iL (l2 : Int))), (7, .int (iI (30 * b + w))), (6, .int (iI node)), (3, .int (iI j)), (2, .int (iI i)), (1, .int (iI w)), (0, .ref 530)]) (st' := []) rfl ?_
                refine T_p xr_189_112 xn_189 (pc' := 114) (ls' := [(17, .long (X_st (-1) (X_Hw G (X_T_ G) w e pl (m + 1)))), (15, .int (iI (m + 1))), (16, .int (iI fd)), (14, .int (iI e)), (13, .int (iI hc)), (12, .int (iI pl)), (10, .long (X_st (-1) bb)), (8, .long (iL (l2 : Int))), (7, .int (iI (30 * b + w))), (6, .int (iI node)), (3, .int (iI j)), (2, .int (iI i)), (1, .int (iI w)), (0, .ref 530)]) (st' := [.long (X_st (-1) bb)]) rfl ?_
                refine T_p xr_189_114 xn_189 (pc' := 116) (ls' := [(17, .long (X_st (-1) (X_Hw G (X_T_ G) w e pl (m + 1)))), (15, .int (iI (m + 1))), (16, .int (iI fd)), (14, .int (iI e)), (13, .int (iI hc)), (12, .int (iI pl)), (10, .long (X_st (-1) bb)), (8, .long (iL (l2 : Int))), (7, .int (iI (30 * b + w))), (6, .int (iI node)), (3, .int (iI j)), (2, .int (iI i)), (1, .int (iI w)), (0, .ref 530)]) (st' := [.long (X_st (-1) (X_Hw G (X_T_ G) w e pl (m + 1))), .long (X_st (-1) bb)]) rfl ?_
                refine T_p xr_189_116 xn_189 (pc' := 117) (ls' := [(17, .long (X_st (-1) (X_Hw G (X_T_ G) w e pl (m + 1)))), (15, .int (iI (m + 1))), (16, .int (iI fd)), (14, .int (iI e)), (13, .int (iI hc)), (12, .int (iI pl)), (10, .long (X_st (-1) bb)), (8, .long (iL (l2 : Int))), (7, .int (iI (30 * b + w))), (6, .int (iI node)), (3, .int (iI j)), (2, .int (iI i)), (1, .int (iI w)), (0, .ref 530)]) (st' := [.ref 530, .long (X_st (-1) (X_Hw G (X_T_ G) w e pl (m + 1))), .long (X_st (-1) bb)]) rfl ?_
                refine T_get xr_189_117 h1613 rfl (v := .ref 573) rfl (pc' := 120) rfl ?_
                refine T_p xr_189_120 xn_189 (pc' := 122) (ls' := [(17, .long (X_st (-1) (X_Hw G (X_T_ G) w e pl (m + 1)))), (15, .int (iI (m + 1))), (16, .int (iI fd)), (14, .int (iI e)), (13, .int (iI hc)), (12, .int (iI pl)), (10, .long (X_st (-1) bb)), (8, .long (iL (l2 : Int))), (7, .int (iI (30 * b + w))), (6, .int (iI node)), (3, .int (iI j)), (2, .int (iI i)), (1, .int (iI w)), (0, .ref 530)]) (st' := [.int (iI 32), .ref 573, .long (X_st (-1) (X_Hw G (X_T_ G) w e pl (m + 1))), .long (X_st (-1) bb)]) rfl ?_
                refine T_p xr_189_122 xn_189 (pc' := 124) (ls' := [(17, .long (X_st (-1) (X_Hw G (X_T_ G) w e pl (m + 1)))), (15, .int (iI (m + 1))), (16, .int (iI fd)), (14, .int (iI e)), (13, .int (iI hc)), (12, .int (iI pl)), (10, .long (X_st (-1) bb)), (8, .long (iL (l2 : Int))), (7, .int (iI (30 * b + w))), (6, .int (iI node)), (3, .int (iI j)), (2, .int (iI i)), (1, .int (iI w)), (0, .ref 530)]) (st' := [.int (iI e), .int (iI 32), .ref 573, .long (X_st (-1) (X_Hw G (X_T_ G) w e pl (m + 1))), .long (X_st (-1) bb)]) rfl ?_
                refine T_p xr_189_124 xn_189 (pc' := 125) (ls' := [(17, .long (X_st (-1) (X_Hw G (X_T_ G) w e pl (m + 1)))), (15, .int (iI (m + 1))), (16, .int (iI fd)), (14, .int (iI e)), (13, .int (iI hc)), (12, .int (iI pl)), (10, .long (X_st (-1) bb)), (8, .long (iL (l2 : Int))), (7, .int (iI (30 * b + w))), (6, .int (iI node)), (3, .int (iI j)), (2, .int (iI i)), (1, .int (iI w)), (0, .ref 530)]) (st' := [.int (iI 1), .int (iI e), .int (iI 32), .ref 573, .long (X_st (-1) (X_Hw G (X_T_ G) w e pl (m + 1))), .long (X_st (-1) bb)]) rfl ?_
                refine T_ziadd xr_189_125 (z := e + 1) rfl (pc' := 126) rfl ?_
                refine T_zimul xr_189_126 (z := 32 * (e + 1)) rfl (pc' := 127) rfl ?_
                refine T_p xr_189_127 xn_189 (pc' := 129) (ls' := [(17, .long (X_st (-1) (X_Hw G (X_T_ G) w e pl (m + 1)))), (15, .int (iI (m + 1))), (16, .int (iI fd)), (14, .int (iI e)), (13, .int (iI hc)), (12, .int (iI pl)), (10, .long (X_st (-1) bb)), (8, .long (iL (l2 : Int))), (7, .int (iI (30 * b + w))), (6, .int (iI node)), (3, .int (iI j)), (2, .int (iI i)), (1, .int (iI w)), (0, .ref 530)]) (st' := [.int (iI (m + 1)), .int (iI (32 * (e + 1))), .ref 573, .long (X_st (-1) (X_Hw G (X_T_ G) w e pl (m + 1))), .long (X_st (-1) bb)]) rfl ?_
                refine T_ziadd xr_189_129 (z := (32 * (e + 1)) + (m + 1)) rfl (pc' := 130) rfl ?_
                have h1715 := (hF1608.1 573 (by omega)).trans (ha1602)
                refine T_zlald xr_189_130 h1715 (pc' := 131) rfl ?_
                refine T_le (y := (X_st (-1) (X_Ew G (X_T_ G) w (e + 1) (m + 1) j))) (hrr1 (e + 1) (m + 1) (by omega) (by omega) (by omega) (by omega)) ?_
                refine T_cs xr_189_131 (by decide) xf_172.1 xn_172 (as := [.long (X_st (-1) (X_Hw G (X_T_ G) w e pl (m + 1))), .long (X_st (-1) (X_Ew G (X_T_ G) w (e + 1) (m + 1) j))]) (r := [.long (X_st (-1) bb)]) rfl (Nat.le_of_ble_eq_true rfl) (Nat.le_of_ble_eq_true rfl) (pc' := 134) rfl (ls' := [(0, .long (X_st (-1) (X_Hw G (X_T_ G) w e pl (m + 1)))), (2, .long (X_st (-1) (X_Ew G (X_T_ G) w (e + 1) (m + 1) j)))]) rfl ?_
                refine T_mono (r_product sc S1612 (X_Hw G (X_T_ G) w e pl (m + 1)) (X_Ew G (X_T_ G) w (e + 1) (m + 1) j)) (fun v1716 S1717 h1718 => ?_)
                rcases h1718 with ⟨hv1719, hf1720⟩
                rw [hv1719]
                rw [hf1720]
                show X_T sc 189 (134, [(17, .long (X_st (-1) (X_Hw G (X_T_ G) w e pl (m + 1)))), (15, .int (iI (m + 1))), (16, .int (iI fd)), (14, .int (iI e)), (13, .int (iI hc)), (12, .int (iI pl)), (10, .long (X_st (-1) bb)), (8, .long (iL (l2 : Int))), (7, .int (iI (30 * b + w))), (6, .int (iI node)), (3, .int (iI j)), (2, .int (iI i)), (1, .int (iI w)), (0, .ref 530)], [.long (X_st (-1) ((X_Hw G (X_T_ G) w e pl (m + 1)) * (X_Ew G (X_T_ G) w (e + 1) (m + 1) j))), .long (X_st (-1) bb)], S1612) _
                refine T_cs xr_189_134 (by decide) xf_172.1 xn_172 (as := [.long (X_st (-1) bb), .long (X_st (-1) ((X_Hw G (X_T_ G) w e pl (m + 1)) * (X_Ew G (X_T_ G) w (e + 1) (m + 1) j)))]) (r := []) rfl (Nat.le_of_ble_eq_true rfl) (Nat.le_of_ble_eq_true rfl) (pc' := 137) rfl (ls' := [(0, .long (X_st (-1) bb)), (2, .long (X_st (-1) ((X_Hw G (X_T_ G) w e pl (m + 1)) * (X_Ew G (X_T_ G) w (e + 1) (m + 1) j))))]) rfl ?_
                refine T_mono (r_product sc S1612 bb ((X_Hw G (X_T_ G) w e pl (m + 1)) * (X_Ew G (X_T_ G) w (e + 1) (m + 1) j))) (fun v1721 S1722 h1723 => ?_)
                rcases h1723 with ⟨hv1724, hf1725⟩
                rw [hv1724]
                rw [hf1725]
                show X_T sc 189 (137, [(17, .long (X_st (-1) (X_Hw G (X_T_ G) w e pl (m + 1)))), (15, .int (iI (m + 1))), (16, .int (iI fd)), (14, .int (iI e)), (13, .int (iI hc)), (12, .int (iI pl)), (10, .long (X_st (-1) bb)), (8, .long (iL (l2 : Int))), (7, .int (iI (30 * b + w))), (6, .int (iI node)), (3, .int (iI j)), (2, .int (iI i)), (1, .int (iI w)), (0, .ref 530)], [.long (X_st (-1) (bb * ((X_Hw G (X_T_ G) w e pl (m + 1)) * (X_Ew G (X_T_ G) w (e + 1) (m + 1) j))))], S1612) _
                refine T_le (y := (X_st (-1) (X_sF G w e pl j bb (m + 1)))) (by congr 1; show _ = bb * X_Hw G (X_T_ G) w e pl (m + 1) * X_Ew G (X_T_ G) w (e + 1) (m + 1) j; rw [Nat.mul_assoc]) ?_
                refine T_p xr_189_137 xn_189 (pc' := 139) (ls' := [(19, .long (X_st (-1) (X_sF G w e pl j bb (m + 1)))), (17, .long (X_st (-1) (X_Hw G (X_T_ G) w e pl (m + 1)))), (15, .int (iI (m + 1))), (16, .int (iI fd)), (14, .int (iI e)), (13, .int (iI hc)), (12, .int (iI pl)), (10, .long (X_st (-1) bb)), (8, .long (iL (l2 : Int))), (7, .int (iI (30 * b + w))), (6, .int (iI node)), (3, .int (iI j)), (2, .int (iI i)), (1, .int (iI w)), (0, .ref 530)]) (st' := []) rfl ?_
                refine T_p xr_189_139 xn_189 (pc' := 141) (ls' := [(19, .long (X_st (-1) (X_sF G w e pl j bb (m + 1)))), (17, .long (X_st (-1) (X_Hw G (X_T_ G) w e pl (m + 1)))), (15, .int (iI (m + 1))), (16, .int (iI fd)), (14, .int (iI e)), (13, .int (iI hc)), (12, .int (iI pl)), (10, .long (X_st (-1) bb)), (8, .long (iL (l2 : Int))), (7, .int (iI (30 * b + w))), (6, .int (iI node)), (3, .int (iI j)), (2, .int (iI i)), (1, .int (iI w)), (0, .ref 530)]) (st' := [.long (X_st (-1) (X_sF G w e pl j bb (m + 1)))]) rfl ?_
                refine T_p xr_189_141 xn_189 (pc' := 142) (ls' := [(19, .long (X_st (-1) (X_sF G w e pl j bb (m + 1)))), (17, .long (X_st (-1) (X_Hw G (X_T_ G) w e pl (m + 1)))), (15, .int (iI (m + 1))), (16, .int (iI fd)), (14, .int (iI e)), (13, .int (iI hc)), (12, .int (iI pl)), (10, .long (X_st (-1) bb)), (8, .long (iL (l2 : Int))), (7, .int (iI (30 * b + w))), (6, .int (iI node)), (3, .int (iI j)), (2, .int (iI i)), (1, .int (iI w)), (0, .ref 530)]) (st' := [.long (iL 0), .long (X_st (-1) (X_sF G w e pl j bb (m + 1)))]) rfl ?_
                refine T_lc_lt xr_189_142 xr_189_143 (t := 154) (pc' := 146) rfl rfl (fun c1726 => ?_) (fun c1726 => ?_)
                · skip
                  have c1726 : (X_st (-1) (X_sF G w e pl j bb (m + 1))) < (iL 0) := c1726
                  have hlF : l2 < X_sF G w e pl j bb (m + 1) := by
                    by_cases hmx : X_sF G w e pl j bb (m + 1) ≤ 9223372036854775807
                    · have h1 : iL (l2 : Int) < X_st (-1) (X_sF G w e pl j bb (m + 1)) := by
                        first
                        | assumption
                        | exact Int64.not_le.mp (by assumption)
                        | exact absurd ((X_st_n (m := -1) (a := X_sF G w e pl j bb (m + 1)) (by omega)).mp (by assumption)) (by omega)
                      rw [X_st_lo hmx, iL_lt (by omega) (by omega) (by omega) (by omega)] at h1
                      omega
                    · omega
                  refine T_p xr_189_154 xn_189 (pc' := 155) (ls' := [(19, .long (X_st (-1) (X_sF G w e pl j bb (m + 1)))), (17, .long (X_st (-1) (X_Hw G (X_T_ G) w e pl (m + 1)))), (15, .int (iI (m + 1))), (16, .int (iI fd)), (14, .int (iI e)), (13, .int (iI hc)), (12, .int (iI pl)), (10, .long (X_st (-1) bb)), (8, .long (iL (l2 : Int))), (7, .int (iI (30 * b + w))), (6, .int (iI node)), (3, .int (iI j)), (2, .int (iI i)), (1, .int (iI w)), (0, .ref 530)]) (st' := [.int (iI 1)]) rfl ?_
                  refine T_p xr_189_155 xn_189 (pc' := 159) (ls' := [(19, .long (X_st (-1) (X_sF G w e pl j bb (m + 1)))), (17, .long (X_st (-1) (X_Hw G (X_T_ G) w e pl (m + 1)))), (15, .int (iI (m + 1))), (16, .int (iI fd)), (14, .int (iI e)), (13, .int (iI hc)), (12, .int (iI pl)), (10, .long (X_st (-1) bb)), (8, .long (iL (l2 : Int))), (7, .int (iI (30 * b + w))), (6, .int (iI node)), (3, .int (iI j)), (2, .int (iI i)), (1, .int (iI w)), (0, .ref 530)]) (st' := [.int (iI 1)]) rfl ?_
                  refine T_p xr_189_159 xn_189 (pc' := 161) (ls' := [(16, .int (iI 1)), (19, .long (X_st (-1) (X_sF G w e pl j bb (m + 1)))), (17, .long (X_st (-1) (X_Hw G (X_T_ G) w e pl (m + 1)))), (15, .int (iI (m + 1))), (14, .int (iI e)), (13, .int (iI hc)), (12, .int (iI pl)), (10, .long (X_st (-1) bb)), (8, .long (iL (l2 : Int))), (7, .int (iI (30 * b + w))), (6, .int (iI node)), (3, .int (iI j)), (2, .int (iI i)), (1, .int (iI w)), (0, .ref 530)]) (st' := []) rfl ?_
                  refine T_p xr_189_161 xn_189 (pc' := 163) (ls' := [(16, .int (iI 1)), (19, .long (X_st (-1) (X_sF G w e pl j bb (m + 1)))), (17, .long (X_st (-1) (X_Hw G (X_T_ G) w e pl (m + 1)))), (15, .int (iI (m + 1))), (14, .int (iI e)), (13, .int (iI hc)), (12, .int (iI pl)), (10, .long (X_st (-1) bb)), (8, .long (iL (l2 : Int))), (7, .int (iI (30 * b + w))), (6, .int (iI node)), (3, .int (iI j)), (2, .int (iI i)), (1, .int (iI w)), (0, .ref 530)]) (st' := [.int (iI 1)]) rfl ?_
                  refine T_zif_net xr_189_163 (t := 173) rfl (by decide) ?_
                  refine T_p xr_189_173 xn_189 (pc' := 79) (ls' := [(16, .int (iI 1)), (19, .long (X_st (-1) (X_sF G w e pl j bb (m + 1)))), (17, .long (X_st (-1) (X_Hw G (X_T_ G) w e pl (m + 1)))), (15, .int (iI (m + 1))), (14, .int (iI e)), (13, .int (iI hc)), (12, .int (iI pl)), (10, .long (X_st (-1) bb)), (8, .long (iL (l2 : Int))), (7, .int (iI (30 * b + w))), (6, .int (iI node)), (3, .int (iI j)), (2, .int (iI i)), (1, .int (iI w)), (0, .ref 530)]) (st' := []) rfl ?_
                  refine T_sub (ls := [(17, .long (X_st (-1) (X_Hw G (X_T_ G) w e pl (m + 1)))), (16, .int (iI 1)), (15, .int (iI (m + 1))), (14, .int (iI e)), (13, .int (iI hc)), (12, .int (iI pl)), (10, .long (X_st (-1) bb)), (8, .long (iL (l2 : Int))), (7, .int (iI (30 * b + w))), (6, .int (iI node)), (3, .int (iI j)), (2, .int (iI i)), (1, .int (iI w)), (0, .ref 530)]) ⟨rfl, rfl, rfl, rfl, rfl, rfl, rfl, rfl, rfl, rfl, rfl, rfl, rfl, rfl, trivial⟩ rfl rfl ?_
                  exact ih1686 (m + 1) 1 (X_st (-1) (X_Hw G (X_T_ G) w e pl (m + 1))) l2  (by omega) hl2m (Or.inr ⟨rfl, by omega, hmj.2, hlF, rfl⟩) (by omega)
                · skip
                  have c1726 : ¬ ((X_st (-1) (X_sF G w e pl j bb (m + 1))) < (iL 0)) := c1726
                  refine T_p xr_189_146 xn_189 (pc' := 148) (ls' := [(19, .long (X_st (-1) (X_sF G w e pl j bb (m + 1)))), (17, .long (X_st (-1) (X_Hw G (X_T_ G) w e pl (m + 1)))), (15, .int (iI (m + 1))), (16, .int (iI fd)), (14, .int (iI e)), (13, .int (iI hc)), (12, .int (iI pl)), (10, .long (X_st (-1) bb)), (8, .long (iL (l2 : Int))), (7, .int (iI (30 * b + w))), (6, .int (iI node)), (3, .int (iI j)), (2, .int (iI i)), (1, .int (iI w)), (0, .ref 530)]) (st' := [.long (iL (l2 : Int))]) rfl ?_
                  refine T_p xr_189_148 xn_189 (pc' := 150) (ls' := [(19, .long (X_st (-1) (X_sF G w e pl j bb (m + 1)))), (17, .long (X_st (-1) (X_Hw G (X_T_ G) w e pl (m + 1)))), (15, .int (iI (m + 1))), (16, .int (iI fd)), (14, .int (iI e)), (13, .int (iI hc)), (12, .int (iI pl)), (10, .long (X_st (-1) bb)), (8, .long (iL (l2 : Int))), (7, .int (iI (30 * b + w))), (6, .int (iI node)), (3, .int (iI j)), (2, .int (iI i)), (1, .int (iI w)), (0, .ref 530)]) (st' := [.long (X_st (-1) (X_sF G w e pl j bb (m + 1))), .long (iL (l2 : Int))]) rfl ?_
                  refine T_lc_ge xr_189_150 xr_189_151 (t := 158) (pc' := 154) rfl rfl (fun c1727 => ?_) (fun c1727 => ?_)
                  · skip
                    have c1727 : (X_st (-1) (X_sF G w e pl j bb (m + 1))) ≤ (iL (l2 : Int)) := c1727
                    refine T_p xr_189_158 xn_189 (pc' := 159) (ls' := [(19, .long (X_st (-1) (X_sF G w e pl j bb (m + 1)))), (17, .long (X_st (-1) (X_Hw G (X_T_ G) w e pl (m + 1)))), (15, .int (iI (m + 1))), (16, .int (iI fd)), (14, .int (iI e)), (13, .int (iI hc)), (12, .int (iI pl)), (10, .long (X_st (-1) bb)), (8, .long (iL (l2 : Int))), (7, .int (iI (30 * b + w))), (6, .int (iI node)), (3, .int (iI j)), (2, .int (iI i)), (1, .int (iI w)), (0, .ref 530)]) (st' := [.int (iI 0)]) rfl ?_
                    refine T_p xr_189_159 xn_189 (pc' := 161) (ls' := [(16, .int (iI 0)), (19, .long (X_st (-1) (X_sF G w e pl j bb (m + 1)))), (17, .long (X_st (-1) (X_Hw G (X_T_ G) w e pl (m + 1)))), (15, .int (iI (m + 1))), (14, .int (iI e)), (13, .int (iI hc)), (12, .int (iI pl)), (10, .long (X_st (-1) bb)), (8, .long (iL (l2 : Int))), (7, .int (iI (30 * b + w))), (6, .int (iI node)), (3, .int (iI j)), (2, .int (iI i)), (1, .int (iI w)), (0, .ref 530)]) (st' := []) rfl ?_
                    refine T_p xr_189_161 xn_189 (pc' := 163) (ls' := [(16, .int (iI 0)), (19, .long (X_st (-1) (X_sF G w e pl j bb (m + 1)))), (17, .long (X_st (-1) (X_Hw G (X_T_ G) w e pl (m + 1)))), (15, .int (iI (m + 1))), (14, .int (iI e)), (13, .int (iI hc)), (12, .int (iI pl)), (10, .long (X_st (-1) bb)), (8, .long (iL (l2 : Int))), (7, .int (iI (30 * b + w))), (6, .int (iI node)), (3, .int (iI j)), (2, .int (iI i)), (1, .int (iI w)), (0, .ref 530)]) (st' := [.int (iI 0)]) rfl ?_
                    refine T_zif_nef xr_189_163 (t := 173) (pc' := 166) rfl rfl (by decide) ?_
                    refine T_p xr_189_166 xn_189 (pc' := 168) (ls' := [(16, .int (iI 0)), (19, .long (X_st (-1) (X_sF G w e pl j bb (m + 1)))), (17, .long (X_st (-1) (X_Hw G (X_T_ G) w e pl (m + 1)))), (15, .int (iI (m + 1))), (14, .int (iI e)), (13, .int (iI hc)), (12, .int (iI pl)), (10, .long (X_st (-1) bb)), (8, .long (iL (l2 : Int))), (7, .int (iI (30 * b + w))), (6, .int (iI node)), (3, .int (iI j)), (2, .int (iI i)), (1, .int (iI w)), (0, .ref 530)]) (st' := [.long (iL (l2 : Int))]) rfl ?_
                    refine T_p xr_189_168 xn_189 (pc' := 170) (ls' := [(16, .int (iI 0)), (19, .long (X_st (-1) (X_sF G w e pl j bb (m + 1)))), (17, .long (X_st (-1) (X_Hw G (X_T_ G) w e pl (m + 1)))), (15, .int (iI (m + 1))), (14, .int (iI e)), (13, .int (iI hc)), (12, .int (iI pl)), (10, .long (X_st (-1) bb)), (8, .long (iL (l2 : Int))), (7, .int (iI (30 * b + w))), (6, .int (iI node)), (3, .int (iI j)), (2, .int (iI i)), (1, .int (iI w)), (0, .ref 530)]) (st' := [.long (X_st (-1) (X_sF G w e pl j bb (m + 1))), .long (iL (l2 : Int))]) rfl ?_
                    refine T_p xr_189_170 xn_189 (pc' := 171) (ls' := [(16, .int (iI 0)), (19, .long (X_st (-1) (X_sF G w e pl j bb (m + 1)))), (17, .long (X_st (-1) (X_Hw G (X_T_ G) w e pl (m + 1)))), (15, .int (iI (m + 1))), (14, .int (iI e)), (13, .int (iI hc)), (12, .int (iI pl)), (10, .long (X_st (-1) bb)), (8, .long (iL (l2 : Int))), (7, .int (iI (30 * b + w))), (6, .int (iI node)), (3, .int (iI j)), (2, .int (iI i)), (1, .int (iI w)), (0, .ref 530)]) (st' := [.long ((iL (l2 : Int)) - (X_st (-1) (X_sF G w e pl j bb (m + 1))))]) rfl ?_
                    have hlF : X_sF G w e pl j bb (m + 1) ≤ l2 ∧ X_st (-1) (X_sF G w e pl j bb (m + 1)) = iL ((X_sF G w e pl j bb (m + 1) : Nat) : Int) := by
                      have hmx : X_sF G w e pl j bb (m + 1) ≤ 9223372036854775807 := Nat.le_of_not_lt (fun z => absurd ((X_st_n (m := -1) (a := X_sF G w e pl j bb (m + 1)) (by omega)).mpr (by omega)) (by assumption))
                      refine ⟨?_, X_st_lo hmx⟩
                      have h1 : ¬ iL (l2 : Int) < X_st (-1) (X_sF G w e pl j bb (m + 1)) := by first | assumption | exact Int64.not_lt.mpr (by first | assumption | exact Classical.not_not.mp (by assumption))
                      rw [X_st_lo hmx, iL_lt (by omega) (by omega) (by omega) (by omega)] at h1
                      omega
                    refine T_le (y := (iL ((l2 - X_sF G w e pl j bb (m + 1) : Nat) : Int))) (by rw [hlF.2]; exact iL_sub hlF.1) ?_
                    refine T_p xr_189_171 xn_189 (pc' := 173) (ls' := [(8, .long (iL ((l2 - X_sF G w e pl j bb (m + 1) : Nat) : Int))), (16, .int (iI 0)), (19, .long (X_st (-1) (X_sF G w e pl j bb (m + 1)))), (17, .long (X_st (-1) (X_Hw G (X_T_ G) w e pl (m + 1)))), (15, .int (iI (m + 1))), (14, .int (iI e)), (13, .int (iI hc)), (12, .int (iI pl)), (10, .long (X_st (-1) bb)), (7, .int (iI (30 * b + w))), (6, .int (iI node)), (3, .int (iI j)), (2, .int (iI i)), (1, .int (iI w)), (0, .ref 530)]) (st' := []) rfl ?_
                    refine T_p xr_189_173 xn_189 (pc' := 79) (ls' := [(8, .long (iL ((l2 - X_sF G w e pl j bb (m + 1) : Nat) : Int))), (16, .int (iI 0)), (19, .long (X_st (-1) (X_sF G w e pl j bb (m + 1)))), (17, .long (X_st (-1) (X_Hw G (X_T_ G) w e pl (m + 1)))), (15, .int (iI (m + 1))), (14, .int (iI e)), (13, .int (iI hc)), (12, .int (iI pl)), (10, .long (X_st (-1) bb)), (7, .int (iI (30 * b + w))), (6, .int (iI node)), (3, .int (iI j)), (2, .int (iI i)), (1, .int (iI w)), (0, .ref 530)]) (st' := []) rfl ?_
                    refine T_sub (ls := [(17, .long (X_st (-1) (X_Hw G (X_T_ G) w e pl (m + 1)))), (16, .int (iI 0)), (15, .int (iI (m + 1))), (14, .int (iI e)), (13, .int (iI hc)), (12, .int (iI pl)), (10, .long (X_st (-1) bb)), (8, .long (iL ((l2 - X_sF G w e pl j bb (m + 1) : Nat) : Int))), (7, .int (iI (30 * b + w))), (6, .int (iI node)), (3, .int (iI j)), (2, .int (iI i)), (1, .int (iI w)), (0, .ref 530)]) ⟨rfl, rfl, rfl, rfl, rfl, rfl, rfl, rfl, rfl, rfl, rfl, rfl, rfl, rfl, trivial⟩ rfl rfl ?_
                    exact ih1686 (m + 1) 0 (X_st (-1) (X_Hw G (X_T_ G) w e pl (m + 1))) (l2 - X_sF G w e pl j bb (m + 1))  (by omega) (by omega) (Or.inl ⟨rfl, by rw [X_Su_s (by omega)]; omega⟩) (by omega)
                  · skip
                    have c1727 : ¬ ((X_st (-1) (X_sF G w e pl j bb (m + 1))) ≤ (iL (l2 : Int))) := c1727
                    have hlF : l2 < X_sF G w e pl j bb (m + 1) := by
                      by_cases hmx : X_sF G w e pl j bb (m + 1) ≤ 9223372036854775807
                      · have h1 : iL (l2 : Int) < X_st (-1) (X_sF G w e pl j bb (m + 1)) := by
                          first
                          | assumption
                          | exact Int64.not_le.mp (by assumption)
                          | exact absurd ((X_st_n (m := -1) (a := X_sF G w e pl j bb (m + 1)) (by omega)).mp (by assumption)) (by omega)
                        rw [X_st_lo hmx, iL_lt (by omega) (by omega) (by omega) (by omega)] at h1
                        omega
                      · omega
                    refine T_p xr_189_154 xn_189 (pc' := 155) (ls' := [(19, .long (X_st (-1) (X_sF G w e pl j bb (m + 1)))), (17, .long (X_st (-1) (X_Hw G (X_T_ G) w e pl (m + 1)))), (15, .int (iI (m + 1))), (16, .int (iI fd)), (14, .int (iI e)), (13, .int (iI hc)), (12, .int (iI pl)), (10, .long (X_st (-1) bb)), (8, .long (iL (l2 : Int))), (7, .int (iI (30 * b + w))), (6, .int (iI node)), (3, .int (iI j)), (2, .int (iI i)), (1, .int (iI w)), (0, .ref 530)]) (st' := [.int (iI 1)]) rfl ?_
                    refine T_p xr_189_155 xn_189 (pc' := 159) (ls' := [(19, .long (X_st (-1) (X_sF G w e pl j bb (m + 1)))), (17, .long (X_st (-1) (X_Hw G (X_T_ G) w e pl (m + 1)))), (15, .int (iI (m + 1))), (16, .int (iI fd)), (14, .int (iI e)), (13, .int (iI hc)), (12, .int (iI pl)), (10, .long (X_st (-1) bb)), (8, .long (iL (l2 : Int))), (7, .int (iI (30 * b + w))), (6, .int (iI node)), (3, .int (iI j)), (2, .int (iI i)), (1, .int (iI w)), (0, .ref 530)]) (st' := [.int (iI 1)]) rfl ?_
                    refine T_p xr_189_159 xn_189 (pc' := 161) (ls' := [(16, .int (iI 1)), (19, .long (X_st (-1) (X_sF G w e pl j bb (m + 1)))), (17, .long (X_st (-1) (X_Hw G (X_T_ G) w e pl (m + 1)))), (15, .int (iI (m + 1))), (14, .int (iI e)), (13, .int (iI hc)), (12, .int (iI pl)), (10, .long (X_st (-1) bb)), (8, .long (iL (l2 : Int))), (7, .int (iI (30 * b + w))), (6, .int (iI node)), (3, .int (iI j)), (2, .int (iI i)), (1, .int (iI w)), (0, .ref 530)]) (st' := []) rfl ?_
                    refine T_p xr_189_161 xn_189 (pc' := 163) (ls' := [(16, .int (iI 1)), (19, .long (X_st (-1) (X_sF G w e pl j bb (m + 1)))), (17, .long (X_st (-1) (X_Hw G (X_T_ G) w e pl (m + 1)))), (15, .int (iI (m + 1))), (14, .int (iI e)), (13, .int (iI hc)), (12, .int (iI pl)), (10, .long (X_st (-1) bb)), (8, .long (iL (l2 : Int))), (7, .int (iI (30 * b + w))), (6, .int (iI node)), (3, .int (iI j)), (2, .int (iI i)), (1, .int (iI w)), (0, .ref 530)]) (st' := [.int (iI 1)]) rfl ?_
                    refine T_zif_net xr_189_163 (t := 173) rfl (by decide) ?_
                    refine T_p xr_189_173 xn_189 (pc' := 79) (ls' := [(16, .int (iI 1)), (19, .long (X_st (-1) (X_sF G w e pl j bb (m + 1)))), (17, .long (X_st (-1) (X_Hw G (X_T_ G) w e pl (m + 1)))), (15, .int (iI (m + 1))), (14, .int (iI e)), (13, .int (iI hc)), (12, .int (iI pl)), (10, .long (X_st (-1) bb)), (8, .long (iL (l2 : Int))), (7, .int (iI (30 * b + w))), (6, .int (iI node)), (3, .int (iI j)), (2, .int (iI i)), (1, .int (iI w)), (0, .ref 530)]) (st' := []) rfl ?_
                    refine T_sub (ls := [(17, .long (X_st (-1) (X_Hw G (X_T_ G) w e pl (m + 1)))), (16, .int (iI 1)), (15, .int (iI (m + 1))), (14, .int (iI e)), (13, .int (iI hc)), (12, .int (iI pl)), (10, .long (X_st (-1) bb)), (8, .long (iL (l2 : Int))), (7, .int (iI (30 * b + w))), (6, .int (iI node)), (3, .int (iI j)), (2, .int (iI i)), (1, .int (iI w)), (0, .ref 530)]) ⟨rfl, rfl, rfl, rfl, rfl, rfl, rfl, rfl, rfl, rfl, rfl, rfl, rfl, rfl, trivial⟩ rfl rfl ?_
                    exact ih1686 (m + 1) 1 (X_st (-1) (X_Hw G (X_T_ G) w e pl (m + 1))) l2  (by omega) hl2m (Or.inr ⟨rfl, by omega, hmj.2, hlF, rfl⟩) (by omega)
          exact L1685 ((j + 1) + 1).toNat pl 0 (iL 0) l  (by omega) hlm (Or.inl ⟨rfl, by rw [X_Su_e (Int.le_refl _)]; omega⟩) (by omega)
        · skip
          have c1684 : ¬ ((gW G w e) = (iL 0)) := c1684
          have hqn : ¬ gW G w e = 0 := by first | assumption | exact fun z => absurd z (by assumption)
          have hpp := X_sp_p (show e < gD G w 3 0 by omega) hqn hl
          have hX0 := hX
          rw [show (gD G w 3 0 - e).toNat = (gD G w 3 0 - (e + 1)).toNat + 1 by omega, X_spl_p hqn] at hX0
          have hs1 := X_hn_s (q := gW G w) (e := e) (show 0 ≤ e by omega)
          rw [if_neg hqn, Int.add_zero] at hs1
          refine T_ziinc xr_189_63 xn_189 (a := pl) (z := pl + 1) rfl (Nat.le_of_ble_eq_true rfl) (by omega) (ls' := [(12, .int (iI (pl + 1))), (14, .int (iI e)), (13, .int (iI hc)), (10, .long (X_st (-1) bb)), (8, .long (iL (l : Int))), (7, .int (iI (30 * b + w))), (6, .int (iI node)), (3, .int (iI j)), (2, .int (iI i)), (1, .int (iI w)), (0, .ref 530)]) rfl (pc' := 66) rfl ?_
          refine T_p xr_189_66 xn_189 (pc' := 219) (ls' := [(12, .int (iI (pl + 1))), (14, .int (iI e)), (13, .int (iI hc)), (10, .long (X_st (-1) bb)), (8, .long (iL (l : Int))), (7, .int (iI (30 * b + w))), (6, .int (iI node)), (3, .int (iI j)), (2, .int (iI i)), (1, .int (iI w)), (0, .ref 530)]) (st' := []) rfl ?_
          refine T_ziinc xr_189_219 xn_189 (a := e) (z := e + 1) rfl (Nat.le_of_ble_eq_true rfl) (by omega) (ls' := [(14, .int (iI (e + 1))), (12, .int (iI (pl + 1))), (13, .int (iI hc)), (10, .long (X_st (-1) bb)), (8, .long (iL (l : Int))), (7, .int (iI (30 * b + w))), (6, .int (iI node)), (3, .int (iI j)), (2, .int (iI i)), (1, .int (iI w)), (0, .ref 530)]) rfl (pc' := 222) rfl ?_
          refine T_p xr_189_222 xn_189 (pc' := 33) (ls' := [(14, .int (iI (e + 1))), (12, .int (iI (pl + 1))), (13, .int (iI hc)), (10, .long (X_st (-1) bb)), (8, .long (iL (l : Int))), (7, .int (iI (30 * b + w))), (6, .int (iI node)), (3, .int (iI j)), (2, .int (iI i)), (1, .int (iI w)), (0, .ref 530)]) (st' := []) rfl ?_
          refine T_sub (ls := [(14, .int (iI (e + 1))), (13, .int (iI hc)), (12, .int (iI (pl + 1))), (10, .long (X_st (-1) bb)), (8, .long (iL (l : Int))), (7, .int (iI (30 * b + w))), (6, .int (iI node)), (3, .int (iI j)), (2, .int (iI i)), (1, .int (iI w)), (0, .ref 530)]) ⟨rfl, rfl, rfl, rfl, rfl, rfl, rfl, rfl, rfl, rfl, rfl, trivial⟩ rfl rfl ?_
          exact ih1605 S1612 (e + 1) (pl + 1) hc l bb HF HE cFa cTa cNa hcFa hcTa hcNa (hF1608.tr (X_Fr.rf)) (by omega) (by omega) hpp.2.2 hlm hX0 (fun h h1 h2 => hA h h1 (by omega)) (by omega)
  refine T_sub (ls := [(14, .int (iI 0)), (13, .int (iI 0)), (12, .int (iI i)), (10, .long (iL 1)), (8, .long (iL (k2 : Int))), (7, .int (iI ((30 * b) + w))), (6, .int (iI node)), (3, .int (iI j)), (2, .int (iI i)), (1, .int (iI w)), (0, .ref 530)]) ⟨rfl, rfl, rfl, rfl, rfl, rfl, rfl, rfl, rfl, rfl, rfl, trivial⟩ rfl rfl ?_
  exact L1604 ((gD G w 3 0) + 1).toNat S1597 0 i 0 k2 1 (fun _ => 0) (fun _ => 0) cF cT cN h1609 h1610 h1611 ((X_Fr.rf)) (by omega) rfl hE0 hkm (by rw [Int.sub_zero]) (fun h h1 h2 => absurd h2 (by have z : X_hn (gW G w) 0 = 0 := rfl; omega)) (by omega)
