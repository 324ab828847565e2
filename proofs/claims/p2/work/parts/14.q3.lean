theorem xr_178_0 : X_row 178 0 = some (0, (.bipush 30, 2), (0, 0, 0)) := by decide +kernel
theorem xr_178_2 : X_row 178 2 = some (2, (.aload_n 0, 1), (0, 0, 0)) := by decide +kernel
theorem xr_178_3 : X_row 178 3 = some (3, (.getfield 91, 3), (11, 4, 8)) := by decide +kernel
theorem xr_178_6 : X_row 178 6 = some (6, (.imul, 1), (0, 0, 0)) := by decide +kernel
theorem xr_178_7 : X_row 178 7 = some (7, (.iload_n 1, 1), (0, 0, 0)) := by decide +kernel
theorem xr_178_8 : X_row 178 8 = some (8, (.iadd, 1), (0, 0, 0)) := by decide +kernel
theorem xr_178_9 : X_row 178 9 = some (9, (.istore 4, 2), (0, 0, 0)) := by decide +kernel
theorem xr_178_11 : X_row 178 11 = some (11, (.iload_n 3, 1), (0, 0, 0)) := by decide +kernel
theorem xr_178_12 : X_row 178 12 = some (12, (.iload_n 2, 1), (0, 0, 0)) := by decide +kernel
theorem xr_178_13 : X_row 178 13 = some (13, (.isub, 1), (0, 0, 0)) := by decide +kernel
theorem xr_178_14 : X_row 178 14 = some (14, (.aload_n 0, 1), (0, 0, 0)) := by decide +kernel
theorem xr_178_15 : X_row 178 15 = some (15, (.getfield 150, 3), (11, 20, 40)) := by decide +kernel
theorem xr_178_18 : X_row 178 18 = some (18, (.iload 4, 2), (0, 0, 0)) := by decide +kernel
theorem xr_178_20 : X_row 178 20 = some (20, (.iaload, 1), (0, 0, 0)) := by decide +kernel
theorem xr_178_21 : X_row 178 21 = some (21, (.if_icmp .ge 5, 3), (0, 0, 0)) := by decide +kernel
theorem xr_178_24 : X_row 178 24 = some (24, (.lconst 0, 1), (0, 0, 0)) := by decide +kernel
theorem xr_178_25 : X_row 178 25 = some (25, (.lreturn, 1), (0, 0, 0)) := by decide +kernel
theorem xr_178_26 : X_row 178 26 = some (26, (.iload_n 2, 1), (0, 0, 0)) := by decide +kernel
theorem xr_178_27 : X_row 178 27 = some (27, (.istore 5, 2), (0, 0, 0)) := by decide +kernel
theorem xr_178_29 : X_row 178 29 = some (29, (.iload 5, 2), (0, 0, 0)) := by decide +kernel
theorem xr_178_31 : X_row 178 31 = some (31, (.iload_n 3, 1), (0, 0, 0)) := by decide +kernel
theorem xr_178_32 : X_row 178 32 = some (32, (.if_icmp .gt 27, 3), (0, 0, 0)) := by decide +kernel
theorem xr_178_35 : X_row 178 35 = some (35, (.aload_n 0, 1), (0, 0, 0)) := by decide +kernel
theorem xr_178_36 : X_row 178 36 = some (36, (.getfield 216, 3), (11, 42, 84)) := by decide +kernel
theorem xr_178_39 : X_row 178 39 = some (39, (.iload 5, 2), (0, 0, 0)) := by decide +kernel
theorem xr_178_41 : X_row 178 41 = some (41, (.iload 5, 2), (0, 0, 0)) := by decide +kernel
theorem xr_178_43 : X_row 178 43 = some (43, (.iload_n 2, 1), (0, 0, 0)) := by decide +kernel
theorem xr_178_44 : X_row 178 44 = some (44, (.if_icmp .ne 7, 3), (0, 0, 0)) := by decide +kernel
theorem xr_178_47 : X_row 178 47 = some (47, (.lconst 1, 1), (0, 0, 0)) := by decide +kernel
theorem xr_178_48 : X_row 178 48 = some (48, (.goto 4, 3), (0, 0, 0)) := by decide +kernel
theorem xr_178_51 : X_row 178 51 = some (51, (.lconst 0, 1), (0, 0, 0)) := by decide +kernel
theorem xr_178_52 : X_row 178 52 = some (52, (.lastore, 1), (0, 0, 0)) := by decide +kernel
theorem xr_178_53 : X_row 178 53 = some (53, (.iinc 5 1, 3), (0, 0, 0)) := by decide +kernel
theorem xr_178_56 : X_row 178 56 = some (56, (.goto (-27), 3), (0, 0, 0)) := by decide +kernel
theorem xr_178_59 : X_row 178 59 = some (59, (.iconst 0, 1), (0, 0, 0)) := by decide +kernel
theorem xr_178_60 : X_row 178 60 = some (60, (.istore 5, 2), (0, 0, 0)) := by decide +kernel
theorem xr_178_62 : X_row 178 62 = some (62, (.iload 5, 2), (0, 0, 0)) := by decide +kernel
theorem xr_178_64 : X_row 178 64 = some (64, (.aload_n 0, 1), (0, 0, 0)) := by decide +kernel
theorem xr_178_65 : X_row 178 65 = some (65, (.getfield 150, 3), (11, 20, 40)) := by decide +kernel
theorem xr_178_68 : X_row 178 68 = some (68, (.iload 4, 2), (0, 0, 0)) := by decide +kernel
theorem xr_178_70 : X_row 178 70 = some (70, (.iaload, 1), (0, 0, 0)) := by decide +kernel
theorem xr_178_71 : X_row 178 71 = some (71, (.if_icmp .ge 251, 3), (0, 0, 0)) := by decide +kernel
theorem xr_178_74 : X_row 178 74 = some (74, (.aload_n 0, 1), (0, 0, 0)) := by decide +kernel
theorem xr_178_75 : X_row 178 75 = some (75, (.getfield 168, 3), (11, 25, 50)) := by decide +kernel
theorem xr_178_78 : X_row 178 78 = some (78, (.bipush 8, 2), (0, 0, 0)) := by decide +kernel
theorem xr_178_80 : X_row 178 80 = some (80, (.iload 4, 2), (0, 0, 0)) := by decide +kernel
theorem xr_178_82 : X_row 178 82 = some (82, (.imul, 1), (0, 0, 0)) := by decide +kernel
theorem xr_178_83 : X_row 178 83 = some (83, (.iload 5, 2), (0, 0, 0)) := by decide +kernel
theorem xr_178_85 : X_row 178 85 = some (85, (.iadd, 1), (0, 0, 0)) := by decide +kernel
theorem xr_178_86 : X_row 178 86 = some (86, (.laload, 1), (0, 0, 0)) := by decide +kernel
theorem xr_178_87 : X_row 178 87 = some (87, (.lstore 6, 2), (0, 0, 0)) := by decide +kernel
theorem xr_178_89 : X_row 178 89 = some (89, (.iload_n 2, 1), (0, 0, 0)) := by decide +kernel
theorem xr_178_90 : X_row 178 90 = some (90, (.istore 8, 2), (0, 0, 0)) := by decide +kernel
theorem xr_178_92 : X_row 178 92 = some (92, (.iload 8, 2), (0, 0, 0)) := by decide +kernel
theorem xr_178_94 : X_row 178 94 = some (94, (.iload_n 3, 1), (0, 0, 0)) := by decide +kernel
theorem xr_178_95 : X_row 178 95 = some (95, (.if_icmp .gt 17, 3), (0, 0, 0)) := by decide +kernel
theorem xr_178_98 : X_row 178 98 = some (98, (.aload_n 0, 1), (0, 0, 0)) := by decide +kernel
theorem xr_178_99 : X_row 178 99 = some (99, (.getfield 219, 3), (11, 43, 86)) := by decide +kernel
theorem xr_178_102 : X_row 178 102 = some (102, (.iload 8, 2), (0, 0, 0)) := by decide +kernel
theorem xr_178_104 : X_row 178 104 = some (104, (.lconst 0, 1), (0, 0, 0)) := by decide +kernel
theorem xr_178_105 : X_row 178 105 = some (105, (.lastore, 1), (0, 0, 0)) := by decide +kernel
theorem xr_178_106 : X_row 178 106 = some (106, (.iinc 8 1, 3), (0, 0, 0)) := by decide +kernel
theorem xr_178_109 : X_row 178 109 = some (109, (.goto (-17), 3), (0, 0, 0)) := by decide +kernel
theorem xr_178_112 : X_row 178 112 = some (112, (.iload_n 2, 1), (0, 0, 0)) := by decide +kernel
theorem xr_178_113 : X_row 178 113 = some (113, (.istore 8, 2), (0, 0, 0)) := by decide +kernel
theorem xr_178_115 : X_row 178 115 = some (115, (.iload 8, 2), (0, 0, 0)) := by decide +kernel
theorem xr_178_117 : X_row 178 117 = some (117, (.iload_n 3, 1), (0, 0, 0)) := by decide +kernel
theorem xr_178_118 : X_row 178 118 = some (118, (.if_icmp .ge 169, 3), (0, 0, 0)) := by decide +kernel
theorem xr_178_121 : X_row 178 121 = some (121, (.aload_n 0, 1), (0, 0, 0)) := by decide +kernel
theorem xr_178_122 : X_row 178 122 = some (122, (.getfield 216, 3), (11, 42, 84)) := by decide +kernel
theorem xr_178_125 : X_row 178 125 = some (125, (.iload 8, 2), (0, 0, 0)) := by decide +kernel
theorem xr_178_127 : X_row 178 127 = some (127, (.laload, 1), (0, 0, 0)) := by decide +kernel
theorem xr_178_128 : X_row 178 128 = some (128, (.lconst 0, 1), (0, 0, 0)) := by decide +kernel
theorem xr_178_129 : X_row 178 129 = some (129, (.lcmp, 1), (0, 0, 0)) := by decide +kernel
theorem xr_178_130 : X_row 178 130 = some (130, (.ifCond .ne 6, 3), (0, 0, 0)) := by decide +kernel
theorem xr_178_133 : X_row 178 133 = some (133, (.goto 148, 3), (0, 0, 0)) := by decide +kernel
theorem xr_178_136 : X_row 178 136 = some (136, (.lload 6, 2), (0, 0, 0)) := by decide +kernel
theorem xr_178_138 : X_row 178 138 = some (138, (.lconst 0, 1), (0, 0, 0)) := by decide +kernel
theorem xr_178_139 : X_row 178 139 = some (139, (.lcmp, 1), (0, 0, 0)) := by decide +kernel
theorem xr_178_140 : X_row 178 140 = some (140, (.ifCond .eq 47, 3), (0, 0, 0)) := by decide +kernel
theorem xr_178_143 : X_row 178 143 = some (143, (.aload_n 0, 1), (0, 0, 0)) := by decide +kernel
theorem xr_178_144 : X_row 178 144 = some (144, (.getfield 194, 3), (11, 34, 68)) := by decide +kernel
theorem xr_178_147 : X_row 178 147 = some (147, (.iload 8, 2), (0, 0, 0)) := by decide +kernel
theorem xr_178_149 : X_row 178 149 = some (149, (.laload, 1), (0, 0, 0)) := by decide +kernel
theorem xr_178_150 : X_row 178 150 = some (150, (.lload 6, 2), (0, 0, 0)) := by decide +kernel
theorem xr_178_152 : X_row 178 152 = some (152, (.lcmp, 1), (0, 0, 0)) := by decide +kernel
theorem xr_178_153 : X_row 178 153 = some (153, (.ifCond .ne 128, 3), (0, 0, 0)) := by decide +kernel
theorem xr_178_156 : X_row 178 156 = some (156, (.aload_n 0, 1), (0, 0, 0)) := by decide +kernel
theorem xr_178_157 : X_row 178 157 = some (157, (.getfield 219, 3), (11, 43, 86)) := by decide +kernel
theorem xr_178_160 : X_row 178 160 = some (160, (.iload 8, 2), (0, 0, 0)) := by decide +kernel
theorem xr_178_162 : X_row 178 162 = some (162, (.iconst 1, 1), (0, 0, 0)) := by decide +kernel
theorem xr_178_163 : X_row 178 163 = some (163, (.iadd, 1), (0, 0, 0)) := by decide +kernel
theorem xr_178_164 : X_row 178 164 = some (164, (.aload_n 0, 1), (0, 0, 0)) := by decide +kernel
theorem xr_178_165 : X_row 178 165 = some (165, (.getfield 219, 3), (11, 43, 86)) := by decide +kernel
theorem xr_178_168 : X_row 178 168 = some (168, (.iload 8, 2), (0, 0, 0)) := by decide +kernel
theorem xr_178_170 : X_row 178 170 = some (170, (.iconst 1, 1), (0, 0, 0)) := by decide +kernel
theorem xr_178_171 : X_row 178 171 = some (171, (.iadd, 1), (0, 0, 0)) := by decide +kernel
theorem xr_178_172 : X_row 178 172 = some (172, (.laload, 1), (0, 0, 0)) := by decide +kernel
theorem xr_178_173 : X_row 178 173 = some (173, (.aload_n 0, 1), (0, 0, 0)) := by decide +kernel
theorem xr_178_174 : X_row 178 174 = some (174, (.getfield 216, 3), (11, 42, 84)) := by decide +kernel
theorem xr_178_177 : X_row 178 177 = some (177, (.iload 8, 2), (0, 0, 0)) := by decide +kernel
theorem xr_178_179 : X_row 178 179 = some (179, (.laload, 1), (0, 0, 0)) := by decide +kernel
theorem xr_178_180 : X_row 178 180 = some (180, (.invokestatic 362, 3), (171, 60, 0)) := by decide +kernel
theorem xr_178_183 : X_row 178 183 = some (183, (.lastore, 1), (0, 0, 0)) := by decide +kernel
theorem xr_178_184 : X_row 178 184 = some (184, (.goto 97, 3), (0, 0, 0)) := by decide +kernel
theorem xr_178_187 : X_row 178 187 = some (187, (.iconst 4, 1), (0, 0, 0)) := by decide +kernel
theorem xr_178_188 : X_row 178 188 = some (188, (.iload_n 1, 1), (0, 0, 0)) := by decide +kernel
theorem xr_178_189 : X_row 178 189 = some (189, (.imul, 1), (0, 0, 0)) := by decide +kernel
theorem xr_178_190 : X_row 178 190 = some (190, (.aload_n 0, 1), (0, 0, 0)) := by decide +kernel
theorem xr_178_191 : X_row 178 191 = some (191, (.getfield 171, 3), (11, 26, 52)) := by decide +kernel
theorem xr_178_194 : X_row 178 194 = some (194, (.bipush 8, 2), (0, 0, 0)) := by decide +kernel
theorem xr_178_196 : X_row 178 196 = some (196, (.iload 4, 2), (0, 0, 0)) := by decide +kernel
theorem xr_178_198 : X_row 178 198 = some (198, (.imul, 1), (0, 0, 0)) := by decide +kernel
theorem xr_178_199 : X_row 178 199 = some (199, (.iload 5, 2), (0, 0, 0)) := by decide +kernel
theorem xr_178_201 : X_row 178 201 = some (201, (.iadd, 1), (0, 0, 0)) := by decide +kernel
theorem xr_178_202 : X_row 178 202 = some (202, (.iaload, 1), (0, 0, 0)) := by decide +kernel
theorem xr_178_203 : X_row 178 203 = some (203, (.iadd, 1), (0, 0, 0)) := by decide +kernel
theorem xr_178_204 : X_row 178 204 = some (204, (.istore 9, 2), (0, 0, 0)) := by decide +kernel
theorem xr_178_206 : X_row 178 206 = some (206, (.iload 8, 2), (0, 0, 0)) := by decide +kernel
theorem xr_178_208 : X_row 178 208 = some (208, (.iconst 1, 1), (0, 0, 0)) := by decide +kernel
theorem xr_178_209 : X_row 178 209 = some (209, (.iadd, 1), (0, 0, 0)) := by decide +kernel
theorem xr_178_210 : X_row 178 210 = some (210, (.istore 10, 2), (0, 0, 0)) := by decide +kernel
theorem xr_178_212 : X_row 178 212 = some (212, (.iload 10, 2), (0, 0, 0)) := by decide +kernel
theorem xr_178_214 : X_row 178 214 = some (214, (.iload_n 3, 1), (0, 0, 0)) := by decide +kernel
theorem xr_178_215 : X_row 178 215 = some (215, (.if_icmp .gt 66, 3), (0, 0, 0)) := by decide +kernel
theorem xr_178_218 : X_row 178 218 = some (218, (.iload 10, 2), (0, 0, 0)) := by decide +kernel
theorem xr_178_220 : X_row 178 220 = some (220, (.iload 8, 2), (0, 0, 0)) := by decide +kernel
theorem xr_178_222 : X_row 178 222 = some (222, (.isub, 1), (0, 0, 0)) := by decide +kernel
theorem xr_178_223 : X_row 178 223 = some (223, (.iload_n 3, 1), (0, 0, 0)) := by decide +kernel
theorem xr_178_224 : X_row 178 224 = some (224, (.iload_n 2, 1), (0, 0, 0)) := by decide +kernel
theorem xr_178_225 : X_row 178 225 = some (225, (.isub, 1), (0, 0, 0)) := by decide +kernel
theorem xr_178_226 : X_row 178 226 = some (226, (.if_icmp .ge 55, 3), (0, 0, 0)) := by decide +kernel
theorem xr_178_229 : X_row 178 229 = some (229, (.aload_n 0, 1), (0, 0, 0)) := by decide +kernel
theorem xr_178_230 : X_row 178 230 = some (230, (.getfield 219, 3), (11, 43, 86)) := by decide +kernel
theorem xr_178_233 : X_row 178 233 = some (233, (.iload 10, 2), (0, 0, 0)) := by decide +kernel
theorem xr_178_235 : X_row 178 235 = some (235, (.aload_n 0, 1), (0, 0, 0)) := by decide +kernel
theorem xr_178_236 : X_row 178 236 = some (236, (.getfield 219, 3), (11, 43, 86)) := by decide +kernel
theorem xr_178_239 : X_row 178 239 = some (239, (.iload 10, 2), (0, 0, 0)) := by decide +kernel
theorem xr_178_241 : X_row 178 241 = some (241, (.laload, 1), (0, 0, 0)) := by decide +kernel
theorem xr_178_242 : X_row 178 242 = some (242, (.aload_n 0, 1), (0, 0, 0)) := by decide +kernel
theorem xr_178_243 : X_row 178 243 = some (243, (.getfield 216, 3), (11, 42, 84)) := by decide +kernel
theorem xr_178_246 : X_row 178 246 = some (246, (.iload 8, 2), (0, 0, 0)) := by decide +kernel
theorem xr_178_248 : X_row 178 248 = some (248, (.laload, 1), (0, 0, 0)) := by decide +kernel
theorem xr_178_249 : X_row 178 249 = some (249, (.aload_n 0, 1), (0, 0, 0)) := by decide +kernel
theorem xr_178_250 : X_row 178 250 = some (250, (.getfield 213, 3), (11, 41, 82)) := by decide +kernel
theorem xr_178_253 : X_row 178 253 = some (253, (.sipush 961, 3), (0, 0, 0)) := by decide +kernel
theorem xr_178_256 : X_row 178 256 = some (256, (.iload 9, 2), (0, 0, 0)) := by decide +kernel
theorem xr_178_258 : X_row 178 258 = some (258, (.imul, 1), (0, 0, 0)) := by decide +kernel
theorem xr_178_259 : X_row 178 259 = some (259, (.iload 8, 2), (0, 0, 0)) := by decide +kernel
theorem xr_178_261 : X_row 178 261 = some (261, (.iload 10, 2), (0, 0, 0)) := by decide +kernel
theorem xr_178_263 : X_row 178 263 = some (263, (.invokestatic 337, 3), (173, 56, 0)) := by decide +kernel
theorem xr_178_266 : X_row 178 266 = some (266, (.iadd, 1), (0, 0, 0)) := by decide +kernel
theorem xr_178_267 : X_row 178 267 = some (267, (.laload, 1), (0, 0, 0)) := by decide +kernel
theorem xr_178_268 : X_row 178 268 = some (268, (.invokestatic 366, 3), (172, 62, 0)) := by decide +kernel
theorem xr_178_271 : X_row 178 271 = some (271, (.invokestatic 362, 3), (171, 60, 0)) := by decide +kernel
theorem xr_178_274 : X_row 178 274 = some (274, (.lastore, 1), (0, 0, 0)) := by decide +kernel
theorem xr_178_275 : X_row 178 275 = some (275, (.iinc 10 1, 3), (0, 0, 0)) := by decide +kernel
theorem xr_178_278 : X_row 178 278 = some (278, (.goto (-66), 3), (0, 0, 0)) := by decide +kernel
theorem xr_178_281 : X_row 178 281 = some (281, (.iinc 8 1, 3), (0, 0, 0)) := by decide +kernel
theorem xr_178_284 : X_row 178 284 = some (284, (.goto (-169), 3), (0, 0, 0)) := by decide +kernel
theorem xr_178_287 : X_row 178 287 = some (287, (.iload_n 2, 1), (0, 0, 0)) := by decide +kernel
theorem xr_178_288 : X_row 178 288 = some (288, (.istore 8, 2), (0, 0, 0)) := by decide +kernel
theorem xr_178_290 : X_row 178 290 = some (290, (.iload 8, 2), (0, 0, 0)) := by decide +kernel
theorem xr_178_292 : X_row 178 292 = some (292, (.iload_n 3, 1), (0, 0, 0)) := by decide +kernel
theorem xr_178_293 : X_row 178 293 = some (293, (.if_icmp .gt 23, 3), (0, 0, 0)) := by decide +kernel
theorem xr_178_296 : X_row 178 296 = some (296, (.aload_n 0, 1), (0, 0, 0)) := by decide +kernel
theorem xr_178_297 : X_row 178 297 = some (297, (.getfield 216, 3), (11, 42, 84)) := by decide +kernel
theorem xr_178_300 : X_row 178 300 = some (300, (.iload 8, 2), (0, 0, 0)) := by decide +kernel
theorem xr_178_302 : X_row 178 302 = some (302, (.aload_n 0, 1), (0, 0, 0)) := by decide +kernel
theorem xr_178_303 : X_row 178 303 = some (303, (.getfield 219, 3), (11, 43, 86)) := by decide +kernel
theorem xr_178_306 : X_row 178 306 = some (306, (.iload 8, 2), (0, 0, 0)) := by decide +kernel
theorem xr_178_308 : X_row 178 308 = some (308, (.laload, 1), (0, 0, 0)) := by decide +kernel
theorem xr_178_309 : X_row 178 309 = some (309, (.lastore, 1), (0, 0, 0)) := by decide +kernel
theorem xr_178_310 : X_row 178 310 = some (310, (.iinc 8 1, 3), (0, 0, 0)) := by decide +kernel
theorem xr_178_313 : X_row 178 313 = some (313, (.goto (-23), 3), (0, 0, 0)) := by decide +kernel
theorem xr_178_316 : X_row 178 316 = some (316, (.iinc 5 1, 3), (0, 0, 0)) := by decide +kernel
theorem xr_178_319 : X_row 178 319 = some (319, (.goto (-257), 3), (0, 0, 0)) := by decide +kernel
theorem xr_178_322 : X_row 178 322 = some (322, (.aload_n 0, 1), (0, 0, 0)) := by decide +kernel
theorem xr_178_323 : X_row 178 323 = some (323, (.getfield 216, 3), (11, 42, 84)) := by decide +kernel
theorem xr_178_326 : X_row 178 326 = some (326, (.iload_n 3, 1), (0, 0, 0)) := by decide +kernel
theorem xr_178_327 : X_row 178 327 = some (327, (.laload, 1), (0, 0, 0)) := by decide +kernel
theorem xr_178_328 : X_row 178 328 = some (328, (.lreturn, 1), (0, 0, 0)) := by decide +kernel
theorem xn_178 : X_nL 178 = 11 := by decide +kernel
theorem xf_178 : X_na 178 = 3 ∧ X_ci 178 = 11 ∧ X_rt 178 = (some .long) := by decide +kernel
set_option maxHeartbeats 3000000 in
theorem r_wordWays (sc : X_Sc) (S : X_S) (wM : Int → Int) (eP : Int → Int64) (eH : Int → Int) (tT : Int → Int64) (oH : Int → Int64) (r1 : Int → Int64) (r2 : Int → Int64) (o : Nat → Int) (nm : Int64) (b : Int) (rc : Int) (G : X_G) (tn : Int) (w : Int) (i : Int) (j : Int) (hO530 : S.1 530 = .inr (11, [.ref 531, .int (iI (o 1)), .ref 532, .int (iI (o 3)), .int (iI b), .int (iI (o 5)), .int (iI (o 6)), .int (iI (o 7)), .int (iI (o 8)), .int (iI (o 9)), .int (iI (o 10)), .int (iI (o 11)), .long nm, .ref 533, .ref 534, .ref 535, .ref 536, .ref 537, .ref 538, .ref 539, .ref 540, .ref 541, .ref 542, .ref 543, .ref 544, .ref 545, .ref 546, .ref 547, .int (iI rc), .int (iI (gk G)), .int (iI (gw G)), .int (iI (o 31)), .int (iI (o 32)), .int (iI (o 33)), .ref 548, .ref 549, .ref 550, .ref 551, .int (iI tn), .ref 552, .ref 553, .ref 554, .ref 555, .ref 556, .ref 557, .ref 558, .ref 559, .ref 560, .ref 561, .int (iI (o 49)), .ref 562, .ref 563, .ref 564, .ref 565, .ref 566, .ref 567, .ref 568, .ref 569, .int (iI (o 58)), .ref 570, .ref 571, .ref 572, .ref 573, .ref 574, .ref 575, .ref 576, .ref 577, .ref 578, .int (iI (o 68)), .int (iI (o 69)), .int (iI (o 70)), .ref 579])) (hA540 : S.1 540 = .inl (.int, 60, .inl fun k : Nat => iI (wM (k : Int)))) (hA545 : S.1 545 = .inl (.long, 480, .inr (.inl fun k : Nat => eP (k : Int)))) (hA546 : S.1 546 = .inl (.int, 480, .inl fun k : Nat => iI (eH (k : Int)))) (hA548 : S.1 548 = .inl (.long, 30, .inr (.inl fun k : Nat => tT (k : Int)))) (hA554 : S.1 554 = .inl (.long, 115320, .inr (.inl fun k : Nat => oH (k : Int)))) (hA555 : S.1 555 = .inl (.long, 32, .inr (.inl fun k : Nat => r1 (k : Int)))) (hA556 : S.1 556 = .inl (.long, 32, .inr (.inl fun k : Nat => r2 (k : Int)))) (hbr : 0 ≤ b ∧ b ≤ 1) (hG : X_Gok G) (htn : 0 ≤ tn ∧ tn ≤ 30) (hTT : ∀ t, 0 ≤ t → t < tn → tT t = gt G t) (hWM : ∀ w, 0 ≤ w → w < gw G → wM (30 * b + w) = gD G w 3 0) (hEP : ∀ w, 0 ≤ w → w < gw G → ∀ e, 0 ≤ e → e < gD G w 3 0 → eP (8 * (30 * b + w) + e) = gW G w e) (hEH : ∀ w, 0 ≤ w → w < gw G → ∀ e, 0 ≤ e → e < gD G w 3 0 → gW G w e = 0 → eH (8 * (30 * b + w) + e) = gD G w 8 e) (hij : 0 ≤ i ∧ i < j ∧ j ≤ tn) (hw : 0 ≤ w ∧ w < gw G) (hHc : ∀ e, 0 ≤ e → e < gD G w 3 0 → gW G w e = 0 → ∀ p q, i ≤ p → p < q → q ≤ j → q - p < j - i → oH (961 * (4 * w + gD G w 8 e) + (31 * p + q)) = X_st (-1) (X_Hw G (X_T_ G) w e p q)) : X_T sc 178 (0, [(0, .ref 530), (1, .int (iI w)), (2, .int (iI i)), (3, .int (iI j))], [], S) (fun v S' => ∃ (r1x : Int → Int64) (r2x : Int → Int64), v = some (.long (X_st (-1) ((X_T_ G).1 w i j))) ∧ S'.1 555 = .inl (.long, 32, .inr (.inl fun k : Nat => r1x (k : Int))) ∧ S'.1 556 = .inl (.long, 32, .inr (.inl fun k : Nat => r2x (k : Int))) ∧ (X_Fr (fun q => q = 555 ∨ q = 556) S S')) := by
  have hgw := hG.2.2.2 w hw.1 hw.2
  have hsz := hgw.1
  have hgh := hgw.2.1
  have hc1 := hG.1
  have hpw := hgw.2.2.1
  refine X_QI (fun Q hQ => ?_)
  refine T_p xr_178_0 xn_178 (pc' := 2) (ls' := [(0, .ref 530), (1, .int (iI w)), (2, .int (iI i)), (3, .int (iI j))]) (st' := [.int (iI 30)]) rfl ?_
  refine T_p xr_178_2 xn_178 (pc' := 3) (ls' := [(0, .ref 530), (1, .int (iI w)), (2, .int (iI i)), (3, .int (iI j))]) (st' := [.ref 530, .int (iI 30)]) rfl ?_
  refine T_get xr_178_3 hO530 rfl (v := .int (iI b)) rfl (pc' := 6) rfl ?_
  refine T_zimul xr_178_6 (z := 30 * b) rfl (pc' := 7) rfl ?_
  refine T_p xr_178_7 xn_178 (pc' := 8) (ls' := [(0, .ref 530), (1, .int (iI w)), (2, .int (iI i)), (3, .int (iI j))]) (st' := [.int (iI w), .int (iI (30 * b))]) rfl ?_
  refine T_ziadd xr_178_8 (z := (30 * b) + w) rfl (pc' := 9) rfl ?_
  refine T_p xr_178_9 xn_178 (pc' := 11) (ls' := [(4, .int (iI ((30 * b) + w))), (0, .ref 530), (1, .int (iI w)), (2, .int (iI i)), (3, .int (iI j))]) (st' := []) rfl ?_
  refine T_p xr_178_11 xn_178 (pc' := 12) (ls' := [(4, .int (iI ((30 * b) + w))), (0, .ref 530), (1, .int (iI w)), (2, .int (iI i)), (3, .int (iI j))]) (st' := [.int (iI j)]) rfl ?_
  refine T_p xr_178_12 xn_178 (pc' := 13) (ls' := [(4, .int (iI ((30 * b) + w))), (0, .ref 530), (1, .int (iI w)), (2, .int (iI i)), (3, .int (iI j))]) (st' := [.int (iI i), .int (iI j)]) rfl ?_
  refine T_zisub xr_178_13 (z := j - i) rfl (pc' := 14) rfl ?_
  refine T_p xr_178_14 xn_178 (pc' := 15) (ls' := [(4, .int (iI ((30 * b) + w))), (0, .ref 530), (1, .int (iI w)), (2, .int (iI i)), (3, .int (iI j))]) (st' := [.ref 530, .int (iI (j - i))]) rfl ?_
  refine T_get xr_178_15 hO530 rfl (v := .ref 540) rfl (pc' := 18) rfl ?_
  refine T_p xr_178_18 xn_178 (pc' := 20) (ls' := [(4, .int (iI ((30 * b) + w))), (0, .ref 530), (1, .int (iI w)), (2, .int (iI i)), (3, .int (iI j))]) (st' := [.int (iI ((30 * b) + w)), .ref 540, .int (iI (j - i))]) rfl ?_
  refine T_ziald xr_178_20 hA540 (pc' := 21) rfl ?_
  refine T_ie (y := iI (gD G w 3 0)) (by rw [hWM w hw.1 hw.2]) ?_
  refine T_zicmp_ge xr_178_21 (t := 26) (pc' := 24) rfl rfl (fun c710 => ?_) (fun c710 => ?_)
  · skip
    have c710 : (gD G w 3 0) ≤ (j - i) := c710
    refine T_p xr_178_26 xn_178 (pc' := 27) (ls' := [(4, .int (iI ((30 * b) + w))), (0, .ref 530), (1, .int (iI w)), (2, .int (iI i)), (3, .int (iI j))]) (st' := [.int (iI i)]) rfl ?_
    refine T_p xr_178_27 xn_178 (pc' := 29) (ls' := [(5, .int (iI i)), (4, .int (iI ((30 * b) + w))), (0, .ref 530), (1, .int (iI w)), (2, .int (iI i)), (3, .int (iI j))]) (st' := []) rfl ?_
    have L711 : ∀ (m713 : Nat) (S716 : X_S) (p1 : Int) (ra : Int → Int64) (hra : S716.1 555 = .inl (.long, 32, .inr (.inl fun k : Nat => ra (k : Int)))) (hF715 : X_Fr (fun q => q = 555) S S716) (hp1 : i ≤ p1 ∧ p1 ≤ j + 1) (h0 : ∀ q, i ≤ q → q < p1 → ra q = X_st (-1) (if q = i then 1 else 0)) (hm714 : j + 1 - p1 < m713), X_T sc 178 (29, [(5, .int (iI p1)), (4, .int (iI (30 * b + w))), (0, .ref 530), (1, .int (iI w)), (2, .int (iI i)), (3, .int (iI j))], [], S716) Q := by
      intro m713
      induction m713 with
      | zero =>
        intro S716 p1 ra hra hF715 hp1 h0 hm714
        exact (show False by omega).elim
      | succ m713 ih712 =>
        intro S716 p1 ra hra hF715 hp1 h0 hm714
        refine T_p xr_178_29 xn_178 (pc' := 31) (ls' := [(5, .int (iI p1)), (4, .int (iI (30 * b + w))), (0, .ref 530), (1, .int (iI w)), (2, .int (iI i)), (3, .int (iI j))]) (st' := [.int (iI p1)]) rfl ?_
        refine T_p xr_178_31 xn_178 (pc' := 32) (ls' := [(5, .int (iI p1)), (4, .int (iI (30 * b + w))), (0, .ref 530), (1, .int (iI w)), (2, .int (iI i)), (3, .int (iI j))]) (st' := [.int (iI j), .int (iI p1)]) rfl ?_
        refine T_zicmp_gt xr_178_32 (t := 59) (pc' := 35) rfl rfl (fun c717 => ?_) (fun c717 => ?_)
        · skip
          have c717 : j < p1 := c717
          refine T_p xr_178_59 xn_178 (pc' := 60) (ls' := [(5, .int (iI p1)), (4, .int (iI (30 * b + w))), (0, .ref 530), (1, .int (iI w)), (2, .int (iI i)), (3, .int (iI j))]) (st' := [.int (iI 0)]) rfl ?_
          refine T_p xr_178_60 xn_178 (pc' := 62) (ls' := [(5, .int (iI 0)), (4, .int (iI (30 * b + w))), (0, .ref 530), (1, .int (iI w)), (2, .int (iI i)), (3, .int (iI j))]) (st' := []) rfl ?_
          have h723 := (hF715.1 556 (by omega)).trans (hA556)
          have L718 : ∀ (m720 : Nat) (S724 : X_S) (e : Int) (rb : Int → Int64) (sb : Int → Int64) (hrb : S724.1 555 = .inl (.long, 32, .inr (.inl fun k : Nat => rb (k : Int)))) (hsb : S724.1 556 = .inl (.long, 32, .inr (.inl fun k : Nat => sb (k : Int)))) (hF722 : X_Fr (fun q => q = 555 ∨ q = 556) S716 S724) (he : 0 ≤ e ∧ e ≤ gD G w 3 0) (hF : ∀ q, i ≤ q → q ≤ j → rb q = X_st (-1) (X_Fe G (X_T_ G) w i j e q)) (hm721 : gD G w 3 0 - e < m720), X_T sc 178 (62, [(5, .int (iI e)), (4, .int (iI (30 * b + w))), (0, .ref 530), (1, .int (iI w)), (2, .int (iI i)), (3, .int (iI j))], [], S724) Q := by
            intro m720
            induction m720 with
            | zero =>
              intro S724 e rb sb hrb hsb hF722 he hF hm721
              exact (show False by omega).elim
            | succ m720 ih719 =>
              intro S724 e rb sb hrb hsb hF722 he hF hm721
              refine T_p xr_178_62 xn_178 (pc' := 64) (ls' := [(5, .int (iI e)), (4, .int (iI (30 * b + w))), (0, .ref 530), (1, .int (iI w)), (2, .int (iI i)), (3, .int (iI j))]) (st' := [.int (iI e)]) rfl ?_
              refine T_p xr_178_64 xn_178 (pc' := 65) (ls' := [(5, .int (iI e)), (4, .int (iI (30 * b + w))), (0, .ref 530), (1, .int (iI w)), (2, .int (iI i)), (3, .int (iI j))]) (st' := [.ref 530, .int (iI e)]) rfl ?_
              have h725 := (hF722.1 530 (by omega)).trans ((hF715.1 530 (by omega)).trans (hO530))
              refine T_get xr_178_65 h725 rfl (v := .ref 540) rfl (pc' := 68) rfl ?_
              refine T_p xr_178_68 xn_178 (pc' := 70) (ls' := [(5, .int (iI e)), (4, .int (iI (30 * b + w))), (0, .ref 530), (1, .int (iI w)), (2, .int (iI i)), (3, .int (iI j))]) (st' := [.int (iI (30 * b + w)), .ref 540, .int (iI e)]) rfl ?_
              have h726 := (hF722.1 540 (by omega)).trans ((hF715.1 540 (by omega)).trans (hA540))
              refine T_ziald xr_178_70 h726 (pc' := 71) rfl ?_
              refine T_ie (y := iI (gD G w 3 0)) (by rw [hWM w hw.1 hw.2]) ?_
              refine T_zicmp_ge xr_178_71 (t := 322) (pc' := 74) rfl rfl (fun c727 => ?_) (fun c727 => ?_)
              · skip
                have c727 : (gD G w 3 0) ≤ e := c727
                refine T_p xr_178_322 xn_178 (pc' := 323) (ls' := [(5, .int (iI e)), (4, .int (iI (30 * b + w))), (0, .ref 530), (1, .int (iI w)), (2, .int (iI i)), (3, .int (iI j))]) (st' := [.ref 530]) rfl ?_
                refine T_get xr_178_323 h725 rfl (v := .ref 555) rfl (pc' := 326) rfl ?_
                refine T_p xr_178_326 xn_178 (pc' := 327) (ls' := [(5, .int (iI e)), (4, .int (iI (30 * b + w))), (0, .ref 530), (1, .int (iI w)), (2, .int (iI i)), (3, .int (iI j))]) (st' := [.int (iI j), .ref 555]) rfl ?_
                refine T_zlald xr_178_327 hrb (pc' := 328) rfl ?_
                refine T_lret xr_178_328 xf_178.2.2 rfl ?_
                refine hQ _ _ ?_
                exact ⟨rb, sb, (by rw [hF j (by omega) (by omega), show e = gD G w 3 0 by omega, X_Fe_e hpw hij.2.1, ← X_T_W hpw hij.2.1 (by omega)]), hrb, hsb, ((X_Fr.rf).tr (X_Fr.mono ⟨hF715.1, hF715.2⟩ (fun q hq => (by omega)))).tr (X_Fr.mono ⟨hF722.1, hF722.2⟩ (fun q hq => (by omega)))⟩
              · skip
                have c727 : ¬ ((gD G w 3 0) ≤ e) := c727
                refine T_p xr_178_74 xn_178 (pc' := 75) (ls' := [(5, .int (iI e)), (4, .int (iI (30 * b + w))), (0, .ref 530), (1, .int (iI w)), (2, .int (iI i)), (3, .int (iI j))]) (st' := [.ref 530]) rfl ?_
                refine T_get xr_178_75 h725 rfl (v := .ref 545) rfl (pc' := 78) rfl ?_
                refine T_p xr_178_78 xn_178 (pc' := 80) (ls' := [(5, .int (iI e)), (4, .int (iI (30 * b + w))), (0, .ref 530), (1, .int (iI w)), (2, .int (iI i)), (3, .int (iI j))]) (st' := [.int (iI 8), .ref 545]) rfl ?_
                refine T_p xr_178_80 xn_178 (pc' := 82) (ls' := [(5, .int (iI e)), (4, .int (iI (30 * b + w))), (0, .ref 530), (1, .int (iI w)), (2, .int (iI i)), (3, .int (iI j))]) (st' := [.int (iI (30 * b + w)), .int (iI 8), .ref 545]) rfl ?_
                refine T_zimul xr_178_82 (z := 8 * (30 * b + w)) rfl (pc' := 83) rfl ?_
                refine T_p xr_178_83 xn_178 (pc' := 85) (ls' := [(5, .int (iI e)), (4, .int (iI (30 * b + w))), (0, .ref 530), (1, .int (iI w)), (2, .int (iI i)), (3, .int (iI j))]) (st' := [.int (iI e), .int (iI (8 * (30 * b + w))), .ref 545]) rfl ?_
                refine T_ziadd xr_178_85 (z := (8 * (30 * b + w)) + e) rfl (pc' := 86) rfl ?_
                have h728 := (hF722.1 545 (by omega)).trans ((hF715.1 545 (by omega)).trans (hA545))
                refine T_zlald xr_178_86 h728 (pc' := 87) rfl ?_
                refine T_le (y := (gW G w e)) (by rw [← hEP w hw.1 hw.2 e he.1 (by omega)]) ?_
                refine T_p xr_178_87 xn_178 (pc' := 89) (ls' := [(6, .long (gW G w e)), (5, .int (iI e)), (4, .int (iI (30 * b + w))), (0, .ref 530), (1, .int (iI w)), (2, .int (iI i)), (3, .int (iI j))]) (st' := []) rfl ?_
                refine T_p xr_178_89 xn_178 (pc' := 90) (ls' := [(6, .long (gW G w e)), (5, .int (iI e)), (4, .int (iI (30 * b + w))), (0, .ref 530), (1, .int (iI w)), (2, .int (iI i)), (3, .int (iI j))]) (st' := [.int (iI i)]) rfl ?_
                refine T_p xr_178_90 xn_178 (pc' := 92) (ls' := [(8, .int (iI i)), (6, .long (gW G w e)), (5, .int (iI e)), (4, .int (iI (30 * b + w))), (0, .ref 530), (1, .int (iI w)), (2, .int (iI i)), (3, .int (iI j))]) (st' := []) rfl ?_
                have L729 : ∀ (m731 : Nat) (S734 : X_S) (p3 : Int) (sc_ : Int → Int64) (hsc : S734.1 556 = .inl (.long, 32, .inr (.inl fun k : Nat => sc_ (k : Int)))) (hF733 : X_Fr (fun q => q = 556) S724 S734) (hp3 : i ≤ p3 ∧ p3 ≤ j + 1) (hz : ∀ q, i ≤ q → q < p3 → sc_ q = iL 0) (hm732 : j + 1 - p3 < m731), X_T sc 178 (92, [(8, .int (iI p3)), (6, .long (gW G w e)), (5, .int (iI e)), (4, .int (iI (30 * b + w))), (0, .ref 530), (1, .int (iI w)), (2, .int (iI i)), (3, .int (iI j))], [], S734) Q := by
                  intro m731
                  induction m731 with
                  | zero =>
                    intro S734 p3 sc_ hsc hF733 hp3 hz hm732
                    exact (show False by omega).elim
                  | succ m731 ih730 =>
                    intro S734 p3 sc_ hsc hF733 hp3 hz hm732
                    refine T_p xr_178_92 xn_178 (pc' := 94) (ls' := [(8, .int (iI p3)), (6, .long (gW G w e)), (5, .int (iI e)), (4, .int (iI (30 * b + w))), (0, .ref 530), (1, .int (iI w)), (2, .int (iI i)), (3, .int (iI j))]) (st' := [.int (iI p3)]) rfl ?_
                    refine T_p xr_178_94 xn_178 (pc' := 95) (ls' := [(8, .int (iI p3)), (6, .long (gW G w e)), (5, .int (iI e)), (4, .int (iI (30 * b + w))), (0, .ref 530), (1, .int (iI w)), (2, .int (iI i)), (3, .int (iI j))]) (st' := [.int (iI j), .int (iI p3)]) rfl ?_
                    refine T_zicmp_gt xr_178_95 (t := 112) (pc' := 98) rfl rfl (fun c735 => ?_) (fun c735 => ?_)
                    · skip
                      have c735 : j < p3 := c735
                      refine T_p xr_178_112 xn_178 (pc' := 113) (ls' := [(8, .int (iI p3)), (6, .long (gW G w e)), (5, .int (iI e)), (4, .int (iI (30 * b + w))), (0, .ref 530), (1, .int (iI w)), (2, .int (iI i)), (3, .int (iI j))]) (st' := [.int (iI i)]) rfl ?_
                      refine T_p xr_178_113 xn_178 (pc' := 115) (ls' := [(8, .int (iI i)), (6, .long (gW G w e)), (5, .int (iI e)), (4, .int (iI (30 * b + w))), (0, .ref 530), (1, .int (iI w)), (2, .int (iI i)), (3, .int (iI j))]) (st' := []) rfl ?_
                      have L736 : ∀ (m738 : Nat) (S741 : X_S) (p4 : Int) (sd : Int → Int64) (hsd : S741.1 556 = .inl (.long, 32, .inr (.inl fun k : Nat => sd (k : Int)))) (hF740 : X_Fr (fun q => q = 556) S734 S741) (hp4 : i ≤ p4 ∧ p4 ≤ j) (hN : ∀ q, i ≤ q → q ≤ j → sd q = X_st (-1) (X_Su (X_cc G (X_T_ G) w i j e q) i p4)) (hm739 : j - p4 < m738), X_T sc 178 (115, [(8, .int (iI p4)), (6, .long (gW G w e)), (5, .int (iI e)), (4, .int (iI (30 * b + w))), (0, .ref 530), (1, .int (iI w)), (2, .int (iI i)), (3, .int (iI j))], [], S741) Q := by
                        intro m738
                        induction m738 with
                        | zero =>
                          intro S741 p4 sd hsd hF740 hp4 hN hm739
                          exact (show False by omega).elim
                        | succ m738 ih737 =>
                          intro S741 p4 sd hsd hF740 hp4 hN hm739
                          refine T_p xr_178_115 xn_178 (pc' := 117) (ls' := [(8, .int (iI p4)), (6, .long (gW G w e)), (5, .int (iI e)), (4, .int (iI (30 * b + w))), (0, .ref 530), (1, .int (iI w)), (2, .int (iI i)), (3, .int (iI j))]) (st' := [.int (iI p4)]) rfl ?_
                          refine T_p xr_178_117 xn_178 (pc' := 118) (ls' := [(8, .int (iI p4)), (6, .long (gW G w e)), (5, .int (iI e)), (4, .int (iI (30 * b + w))), (0, .ref 530), (1, .int (iI w)), (2, .int (iI i)), (3, .int (iI j))]) (st' := [.int (iI j), .int (iI p4)]) rfl ?_
                          refine T_zicmp_ge xr_178_118 (t := 287) (pc' := 121) rfl rfl (fun c742 => ?_) (fun c742 => ?_)
                          · skip
                            have c742 : j ≤ p4 := c742
                            refine T_p xr_178_287 xn_178 (pc' := 288) (ls' := [(8, .int (iI p4)), (6, .long (gW G w e)), (5, .int (iI e)), (4, .int (iI (30 * b + w))), (0, .ref 530), (1, .int (iI w)), (2, .int (iI i)), (3, .int (iI j))]) (st' := [.int (iI i)]) rfl ?_
                            refine T_p xr_178_288 xn_178 (pc' := 290) (ls' := [(8, .int (iI i)), (6, .long (gW G w e)), (5, .int (iI e)), (4, .int (iI (30 * b + w))), (0, .ref 530), (1, .int (iI w)), (2, .int (iI i)), (3, .int (iI j))]) (st' := []) rfl ?_
                            have h748 := (hF740.1 555 (by omega)).trans ((hF733.1 555 (by omega)).trans (hrb))
                            have L743 : ∀ (m745 : Nat) (S749 : X_S) (p6 : Int) (rf : Int → Int64) (hrf : S749.1 555 = .inl (.long, 32, .inr (.inl fun k : Nat => rf (k : Int)))) (hF747 : X_Fr (fun q => q = 555) S741 S749) (hp6 : i ≤ p6 ∧ p6 ≤ j + 1) (hC : ∀ q, i ≤ q → q < p6 → rf q = sd q) (hm746 : j + 1 - p6 < m745), X_T sc 178 (290, [(8, .int (iI p6)), (5, .int (iI e)), (4, .int (iI (30 * b + w))), (0, .ref 530), (1, .int (iI w)), (2, .int (iI i)), (3, .int (iI j))], [], S749) Q := by
                              intro m745
                              induction m745 with
                              | zero =>
                                intro S749 p6 rf hrf hF747 hp6 hC hm746
                                exact (show False by omega).elim
                              | succ m745 ih744 =>
                                intro S749 p6 rf hrf hF747 hp6 hC hm746
                                refine T_p xr_178_290 xn_178 (pc' := 292) (ls' := [(8, .int (iI p6)), (5, .int (iI e)), (4, .int (iI (30 * b + w))), (0, .ref 530), (1, .int (iI w)), (2, .int (iI i)), (3, .int (iI j))]) (st' := [.int (iI p6)]) rfl ?_
                                refine T_p xr_178_292 xn_178 (pc' := 293) (ls' := [(8, .int (iI p6)), (5, .int (iI e)), (4, .int (iI (30 * b + w))), (0, .ref 530), (1, .int (iI w)), (2, .int (iI i)), (3, .int (iI j))]) (st' := [.int (iI j), .int (iI p6)]) rfl ?_
                                refine T_zicmp_gt xr_178_293 (t := 316) (pc' := 296) rfl rfl (fun c750 => ?_) (fun c750 => ?_)
                                · skip
                                  have c750 : j < p6 := c750
                                  refine T_ziinc xr_178_316 xn_178 (a := e) (z := e + 1) rfl (Nat.le_of_ble_eq_true rfl) (by omega) (ls' := [(5, .int (iI (e + 1))), (8, .int (iI p6)), (4, .int (iI (30 * b + w))), (0, .ref 530), (1, .int (iI w)), (2, .int (iI i)), (3, .int (iI j))]) rfl (pc' := 319) rfl ?_
                                  refine T_p xr_178_319 xn_178 (pc' := 62) (ls' := [(5, .int (iI (e + 1))), (8, .int (iI p6)), (4, .int (iI (30 * b + w))), (0, .ref 530), (1, .int (iI w)), (2, .int (iI i)), (3, .int (iI j))]) (st' := []) rfl ?_
                                  have h751 := (hF747.1 556 (by omega)).trans (hsd)
                                  refine T_sub (ls := [(5, .int (iI (e + 1))), (4, .int (iI (30 * b + w))), (0, .ref 530), (1, .int (iI w)), (2, .int (iI i)), (3, .int (iI j))]) ⟨rfl, rfl, rfl, rfl, rfl, rfl, trivial⟩ rfl rfl ?_
                                  exact ih719 S749 (e + 1) rf sd hrf h751 (hF722.tr ((((X_Fr.rf).tr (X_Fr.mono ⟨hF733.1, hF733.2⟩ (fun q hq => (by omega)))).tr (X_Fr.mono ⟨hF740.1, hF740.2⟩ (fun q hq => (by omega)))).tr (X_Fr.mono ⟨hF747.1, hF747.2⟩ (fun q hq => (by omega))))) (by omega) (fun q h1 h2 => by rw [hC q h1 (by omega), hN q h1 h2, show p4 = j by omega, X_Fe_s he.1]) (by omega)
                                · skip
                                  have c750 : ¬ (j < p6) := c750
                                  refine T_p xr_178_296 xn_178 (pc' := 297) (ls' := [(8, .int (iI p6)), (5, .int (iI e)), (4, .int (iI (30 * b + w))), (0, .ref 530), (1, .int (iI w)), (2, .int (iI i)), (3, .int (iI j))]) (st' := [.ref 530]) rfl ?_
                                  have h752 := (hF747.1 530 (by omega)).trans ((hF740.1 530 (by omega)).trans ((hF733.1 530 (by omega)).trans (h725)))
                                  refine T_get xr_178_297 h752 rfl (v := .ref 555) rfl (pc' := 300) rfl ?_
                                  refine T_p xr_178_300 xn_178 (pc' := 302) (ls' := [(8, .int (iI p6)), (5, .int (iI e)), (4, .int (iI (30 * b + w))), (0, .ref 530), (1, .int (iI w)), (2, .int (iI i)), (3, .int (iI j))]) (st' := [.int (iI p6), .ref 555]) rfl ?_
                                  refine T_p xr_178_302 xn_178 (pc' := 303) (ls' := [(8, .int (iI p6)), (5, .int (iI e)), (4, .int (iI (30 * b + w))), (0, .ref 530), (1, .int (iI w)), (2, .int (iI i)), (3, .int (iI j))]) (st' := [.ref 530, .int (iI p6), .ref 555]) rfl ?_
                                  refine T_get xr_178_303 h752 rfl (v := .ref 556) rfl (pc' := 306) rfl ?_
                                  refine T_p xr_178_306 xn_178 (pc' := 308) (ls' := [(8, .int (iI p6)), (5, .int (iI e)), (4, .int (iI (30 * b + w))), (0, .ref 530), (1, .int (iI w)), (2, .int (iI i)), (3, .int (iI j))]) (st' := [.int (iI p6), .ref 556, .int (iI p6), .ref 555]) rfl ?_
                                  have h753 := (hF747.1 556 (by omega)).trans (hsd)
                                  refine T_zlald xr_178_308 h753 (pc' := 309) rfl ?_
                                  refine T_zlast xr_178_309 hrf (pc' := 310) rfl (fun S754 h755 n756 e757 => ?_)
                                  refine T_ziinc xr_178_310 xn_178 (a := p6) (z := p6 + 1) rfl (Nat.le_of_ble_eq_true rfl) (by omega) (ls' := [(8, .int (iI (p6 + 1))), (5, .int (iI e)), (4, .int (iI (30 * b + w))), (0, .ref 530), (1, .int (iI w)), (2, .int (iI i)), (3, .int (iI j))]) rfl (pc' := 313) rfl ?_
                                  refine T_p xr_178_313 xn_178 (pc' := 290) (ls' := [(8, .int (iI (p6 + 1))), (5, .int (iI e)), (4, .int (iI (30 * b + w))), (0, .ref 530), (1, .int (iI w)), (2, .int (iI i)), (3, .int (iI j))]) (st' := []) rfl ?_
                                  exact ih744 S754 (p6 + 1) (X_ug rf p6 (sd p6)) h755 (hF747.tr ((X_Fr.rf).tr (X_Fr.of n756 e757 (by omega)))) (by omega) (fun q h1 h2 => by
                                        by_cases hq : q = p6
                                        · rw [hq, X_ug_s]
                                        · rw [X_ug_n _ _ hq]; exact hC q h1 (by omega)) (by omega)
                            refine T_sub (ls := [(8, .int (iI i)), (5, .int (iI e)), (4, .int (iI (30 * b + w))), (0, .ref 530), (1, .int (iI w)), (2, .int (iI i)), (3, .int (iI j))]) ⟨rfl, rfl, rfl, rfl, rfl, rfl, rfl, trivial⟩ rfl rfl ?_
                            exact L743 ((j + 1) + 1).toNat S741 i rb h748 ((X_Fr.rf)) (by omega) (fun q h1 h2 => absurd h2 (by omega)) (by omega)
                          · skip
                            have c742 : ¬ (j ≤ p4) := c742
                            refine T_p xr_178_121 xn_178 (pc' := 122) (ls' := [(8, .int (iI p4)), (6, .long (gW G w e)), (5, .int (iI e)), (4, .int (iI (30 * b + w))), (0, .ref 530), (1, .int (iI w)), (2, .int (iI i)), (3, .int (iI j))]) (st' := [.ref 530]) rfl ?_
                            have h758 := (hF740.1 530 (by omega)).trans ((hF733.1 530 (by omega)).trans (h725))
                            refine T_get xr_178_122 h758 rfl (v := .ref 555) rfl (pc' := 125) rfl ?_
                            refine T_p xr_178_125 xn_178 (pc' := 127) (ls' := [(8, .int (iI p4)), (6, .long (gW G w e)), (5, .int (iI e)), (4, .int (iI (30 * b + w))), (0, .ref 530), (1, .int (iI w)), (2, .int (iI i)), (3, .int (iI j))]) (st' := [.int (iI p4), .ref 555]) rfl ?_
                            have h759 := (hF740.1 555 (by omega)).trans ((hF733.1 555 (by omega)).trans (hrb))
                            refine T_zlald xr_178_127 h759 (pc' := 128) rfl ?_
                            refine T_le (y := (X_st (-1) (X_Fe G (X_T_ G) w i j e p4))) (hF p4 (by omega) (by omega)) ?_
                            refine T_p xr_178_128 xn_178 (pc' := 129) (ls' := [(8, .int (iI p4)), (6, .long (gW G w e)), (5, .int (iI e)), (4, .int (iI (30 * b + w))), (0, .ref 530), (1, .int (iI w)), (2, .int (iI i)), (3, .int (iI j))]) (st' := [.long (iL 0), .long (X_st (-1) (X_Fe G (X_T_ G) w i j e p4))]) rfl ?_
                            refine T_lc_ne xr_178_129 xr_178_130 (t := 136) (pc' := 133) rfl rfl (fun c760 => ?_) (fun c760 => ?_)
                            · skip
                              have c760 : ¬ (X_st (-1) (X_Fe G (X_T_ G) w i j e p4)) = (iL 0) := c760
                              refine T_p xr_178_136 xn_178 (pc' := 138) (ls' := [(8, .int (iI p4)), (6, .long (gW G w e)), (5, .int (iI e)), (4, .int (iI (30 * b + w))), (0, .ref 530), (1, .int (iI w)), (2, .int (iI i)), (3, .int (iI j))]) (st' := [.long (gW G w e)]) rfl ?_
                              refine T_p xr_178_138 xn_178 (pc' := 139) (ls' := [(8, .int (iI p4)), (6, .long (gW G w e)), (5, .int (iI e)), (4, .int (iI (30 * b + w))), (0, .ref 530), (1, .int (iI w)), (2, .int (iI i)), (3, .int (iI j))]) (st' := [.long (iL 0), .long (gW G w e)]) rfl ?_
                              refine T_lc_eq xr_178_139 xr_178_140 (t := 187) (pc' := 143) rfl rfl (fun c761 => ?_) (fun c761 => ?_)
                              · skip
                                have c761 : (gW G w e) = (iL 0) := c761
                                have hq0 : gW G w e = 0 := by first | assumption | exact Classical.not_not.mp (by assumption)
                                have hh8 := hgw.hole he.1 (show e < gD G w 3 0 by omega) hq0
                                refine T_p xr_178_187 xn_178 (pc' := 188) (ls' := [(8, .int (iI p4)), (6, .long (gW G w e)), (5, .int (iI e)), (4, .int (iI (30 * b + w))), (0, .ref 530), (1, .int (iI w)), (2, .int (iI i)), (3, .int (iI j))]) (st' := [.int (iI 4)]) rfl ?_
                                refine T_p xr_178_188 xn_178 (pc' := 189) (ls' := [(8, .int (iI p4)), (6, .long (gW G w e)), (5, .int (iI e)), (4, .int (iI (30 * b + w))), (0, .ref 530), (1, .int (iI w)), (2, .int (iI i)), (3, .int (iI j))]) (st' := [.int (iI w), .int (iI 4)]) rfl ?_
                                refine T_zimul xr_178_189 (z := 4 * w) rfl (pc' := 190) rfl ?_
                                refine T_p xr_178_190 xn_178 (pc' := 191) (ls' := [(8, .int (iI p4)), (6, .long (gW G w e)), (5, .int (iI e)), (4, .int (iI (30 * b + w))), (0, .ref 530), (1, .int (iI w)), (2, .int (iI i)), (3, .int (iI j))]) (st' := [.ref 530, .int (iI (4 * w))]) rfl ?_
                                refine T_get xr_178_191 h758 rfl (v := .ref 546) rfl (pc' := 194) rfl ?_
                                refine T_p xr_178_194 xn_178 (pc' := 196) (ls' := [(8, .int (iI p4)), (6, .long (gW G w e)), (5, .int (iI e)), (4, .int (iI (30 * b + w))), (0, .ref 530), (1, .int (iI w)), (2, .int (iI i)), (3, .int (iI j))]) (st' := [.int (iI 8), .ref 546, .int (iI (4 * w))]) rfl ?_
                                refine T_p xr_178_196 xn_178 (pc' := 198) (ls' := [(8, .int (iI p4)), (6, .long (gW G w e)), (5, .int (iI e)), (4, .int (iI (30 * b + w))), (0, .ref 530), (1, .int (iI w)), (2, .int (iI i)), (3, .int (iI j))]) (st' := [.int (iI (30 * b + w)), .int (iI 8), .ref 546, .int (iI (4 * w))]) rfl ?_
                                refine T_zimul xr_178_198 (z := 8 * (30 * b + w)) rfl (pc' := 199) rfl ?_
                                refine T_p xr_178_199 xn_178 (pc' := 201) (ls' := [(8, .int (iI p4)), (6, .long (gW G w e)), (5, .int (iI e)), (4, .int (iI (30 * b + w))), (0, .ref 530), (1, .int (iI w)), (2, .int (iI i)), (3, .int (iI j))]) (st' := [.int (iI e), .int (iI (8 * (30 * b + w))), .ref 546, .int (iI (4 * w))]) rfl ?_
                                refine T_ziadd xr_178_201 (z := (8 * (30 * b + w)) + e) rfl (pc' := 202) rfl ?_
                                have h762 := (hF740.1 546 (by omega)).trans ((hF733.1 546 (by omega)).trans ((hF722.1 546 (by omega)).trans ((hF715.1 546 (by omega)).trans (hA546))))
                                refine T_ziald xr_178_202 h762 (pc' := 203) rfl ?_
                                refine T_ie (y := iI (gD G w 8 e)) (by rw [← hEH w hw.1 hw.2 e he.1 (by omega) hq0]) ?_
                                refine T_ziadd xr_178_203 (z := (4 * w) + (gD G w 8 e)) rfl (pc' := 204) rfl ?_
                                refine T_p xr_178_204 xn_178 (pc' := 206) (ls' := [(9, .int (iI ((4 * w) + (gD G w 8 e)))), (8, .int (iI p4)), (6, .long (gW G w e)), (5, .int (iI e)), (4, .int (iI (30 * b + w))), (0, .ref 530), (1, .int (iI w)), (2, .int (iI i)), (3, .int (iI j))]) (st' := []) rfl ?_
                                refine T_p xr_178_206 xn_178 (pc' := 208) (ls' := [(9, .int (iI ((4 * w) + (gD G w 8 e)))), (8, .int (iI p4)), (6, .long (gW G w e)), (5, .int (iI e)), (4, .int (iI (30 * b + w))), (0, .ref 530), (1, .int (iI w)), (2, .int (iI i)), (3, .int (iI j))]) (st' := [.int (iI p4)]) rfl ?_
                                refine T_p xr_178_208 xn_178 (pc' := 209) (ls' := [(9, .int (iI ((4 * w) + (gD G w 8 e)))), (8, .int (iI p4)), (6, .long (gW G w e)), (5, .int (iI e)), (4, .int (iI (30 * b + w))), (0, .ref 530), (1, .int (iI w)), (2, .int (iI i)), (3, .int (iI j))]) (st' := [.int (iI 1), .int (iI p4)]) rfl ?_
                                refine T_ziadd xr_178_209 (z := p4 + 1) rfl (pc' := 210) rfl ?_
                                refine T_p xr_178_210 xn_178 (pc' := 212) (ls' := [(10, .int (iI (p4 + 1))), (9, .int (iI ((4 * w) + (gD G w 8 e)))), (8, .int (iI p4)), (6, .long (gW G w e)), (5, .int (iI e)), (4, .int (iI (30 * b + w))), (0, .ref 530), (1, .int (iI w)), (2, .int (iI i)), (3, .int (iI j))]) (st' := []) rfl ?_
                                have L763 : ∀ (m765 : Nat) (S768 : X_S) (q5 : Int) (se : Int → Int64) (hse : S768.1 556 = .inl (.long, 32, .inr (.inl fun k : Nat => se (k : Int)))) (hF767 : X_Fr (fun q => q = 556) S741 S768) (hq5 : p4 + 1 ≤ q5 ∧ q5 ≤ j + 1 ∧ (q5 - p4 ≤ j - i ∨ q5 = p4 + 1)) (hM : ∀ q, i ≤ q → q ≤ j → se q = X_st (-1) (X_Su (X_cc G (X_T_ G) w i j e q) i p4 + X_if (p4 < q ∧ q < q5) (X_cc G (X_T_ G) w i j e q p4))) (hm766 : j + 1 - q5 < m765), X_T sc 178 (212, [(10, .int (iI q5)), (9, .int (iI (4 * w + gD G w 8 e))), (8, .int (iI p4)), (6, .long (gW G w e)), (5, .int (iI e)), (4, .int (iI (30 * b + w))), (0, .ref 530), (1, .int (iI w)), (2, .int (iI i)), (3, .int (iI j))], [], S768) Q := by
                                  intro m765
                                  induction m765 with
                                  | zero =>
                                    intro S768 q5 se hse hF767 hq5 hM hm766
                                    exact (show False by omega).elim
                                  | succ m765 ih764 =>
                                    intro S768 q5 se hse hF767 hq5 hM hm766
                                    refine T_p xr_178_212 xn_178 (pc' := 214) (ls' := [(10, .int (iI q5)), (9, .int (iI (4 * w + gD G w 8 e))), (8, .int (iI p4)), (6, .long (gW G w e)), (5, .int (iI e)), (4, .int (iI (30 * b + w))), (0, .ref 530), (1, .int (iI w)), (2, .int (iI i)), (3, .int (iI j))]) (st' := [.int (iI q5)]) rfl ?_
                                    refine T_p xr_178_214 xn_178 (pc' := 215) (ls' := [(10, .int (iI q5)), (9, .int (iI (4 * w + gD G w 8 e))), (8, .int (iI p4)), (6, .long (gW G w e)), (5, .int (iI e)), (4, .int (iI (30 * b + w))), (0, .ref 530), (1, .int (iI w)), (2, .int (iI i)), (3, .int (iI j))]) (st' := [.int (iI j), .int (iI q5)]) rfl ?_
                                    refine T_zicmp_gt xr_178_215 (t := 281) (pc' := 218) rfl rfl (fun c769 => ?_) (fun c769 => ?_)
                                    · skip
                                      have c769 : j < q5 := c769
                                      refine T_ziinc xr_178_281 xn_178 (a := p4) (z := p4 + 1) rfl (Nat.le_of_ble_eq_true rfl) (by omega) (ls' := [(8, .int (iI (p4 + 1))), (10, .int (iI q5)), (9, .int (iI (4 * w + gD G w 8 e))), (6, .long (gW G w e)), (5, .int (iI e)), (4, .int (iI (30 * b + w))), (0, .ref 530), (1, .int (iI w)), (2, .int (iI i)), (3, .int (iI j))]) rfl (pc' := 284) rfl ?_
                                      refine T_p xr_178_284 xn_178 (pc' := 115) (ls' := [(8, .int (iI (p4 + 1))), (10, .int (iI q5)), (9, .int (iI (4 * w + gD G w 8 e))), (6, .long (gW G w e)), (5, .int (iI e)), (4, .int (iI (30 * b + w))), (0, .ref 530), (1, .int (iI w)), (2, .int (iI i)), (3, .int (iI j))]) (st' := []) rfl ?_
                                      refine T_sub (ls := [(8, .int (iI (p4 + 1))), (6, .long (gW G w e)), (5, .int (iI e)), (4, .int (iI (30 * b + w))), (0, .ref 530), (1, .int (iI w)), (2, .int (iI i)), (3, .int (iI j))]) ⟨rfl, rfl, rfl, rfl, rfl, rfl, rfl, rfl, trivial⟩ rfl rfl ?_
                                      exact ih737 S768 (p4 + 1) se hse (hF740.tr ((X_Fr.rf).tr (X_Fr.mono ⟨hF767.1, hF767.2⟩ (fun q hq => (by omega))))) (by omega) (fun q h1 h2 => by
                                            rw [X_Su_s (by omega), hM q h1 h2]
                                            by_cases hq : p4 < q ∧ q < q5
                                            · rw [X_if_t hq]
                                            · have : X_cc G (X_T_ G) w i j e q p4 = 0 := by
                                                unfold X_cc
                                                rw [if_pos hq0]
                                                exact X_if_f (fun z => by omega)
                                              rw [X_if_f hq, this]) (by omega)
                                    · skip
                                      have c769 : ¬ (j < q5) := c769
                                      refine T_p xr_178_218 xn_178 (pc' := 220) (ls' := [(10, .int (iI q5)), (9, .int (iI (4 * w + gD G w 8 e))), (8, .int (iI p4)), (6, .long (gW G w e)), (5, .int (iI e)), (4, .int (iI (30 * b + w))), (0, .ref 530), (1, .int (iI w)), (2, .int (iI i)), (3, .int (iI j))]) (st' := [.int (iI q5)]) rfl ?_
                                      refine T_p xr_178_220 xn_178 (pc' := 222) (ls' := [(10, .int (iI q5)), (9, .int (iI (4 * w + gD G w 8 e))), (8, .int (iI p4)), (6, .long (gW G w e)), (5, .int (iI e)), (4, .int (iI (30 * b + w))), (0, .ref 530), (1, .int (iI w)), (2, .int (iI i)), (3, .int (iI j))]) (st' := [.int (iI p4), .int (iI q5)]) rfl ?_
                                      refine T_zisub xr_178_222 (z := q5 - p4) rfl (pc' := 223) rfl ?_
                                      refine T_p xr_178_223 xn_178 (pc' := 224) (ls' := [(10, .int (iI q5)), (9, .int (iI (4 * w + gD G w 8 e))), (8, .int (iI p4)), (6, .long (gW G w e)), (5, .int (iI e)), (4, .int (iI (30 * b + w))), (0, .ref 530), (1, .int (iI w)), (2, .int (iI i)), (3, .int (iI j))]) (st' := [.int (iI j), .int (iI (q5 - p4))]) rfl ?_
                                      refine T_p xr_178_224 xn_178 (pc' := 225) (ls' := [(10, .int (iI q5)), (9, .int (iI (4 * w + gD G w 8 e))), (8, .int (iI p4)), (6, .long (gW G w e)), (5, .int (iI e)), (4, .int (iI (30 * b + w))), (0, .ref 530), (1, .int (iI w)), (2, .int (iI i)), (3, .int (iI j))]) (st' := [.int (iI i), .int (iI j), .int (iI (q5 - p4))]) rfl ?_
                                      refine T_zisub xr_178_225 (z := j - i) rfl (pc' := 226) rfl ?_
                                      refine T_zicmp_ge xr_178_226 (t := 281) (pc' := 229) rfl rfl (fun c770 => ?_) (fun c770 => ?_)
                                      · skip
                                        have c770 : (j - i) ≤ (q5 - p4) := c770
                                        refine T_ziinc xr_178_281 xn_178 (a := p4) (z := p4 + 1) rfl (Nat.le_of_ble_eq_true rfl) (by omega) (ls' := [(8, .int (iI (p4 + 1))), (10, .int (iI q5)), (9, .int (iI (4 * w + gD G w 8 e))), (6, .long (gW G w e)), (5, .int (iI e)), (4, .int (iI (30 * b + w))), (0, .ref 530), (1, .int (iI w)), (2, .int (iI i)), (3, .int (iI j))]) rfl (pc' := 284) rfl ?_
                                        refine T_p xr_178_284 xn_178 (pc' := 115) (ls' := [(8, .int (iI (p4 + 1))), (10, .int (iI q5)), (9, .int (iI (4 * w + gD G w 8 e))), (6, .long (gW G w e)), (5, .int (iI e)), (4, .int (iI (30 * b + w))), (0, .ref 530), (1, .int (iI w)), (2, .int (iI i)), (3, .int (iI j))]) (st' := []) rfl ?_
                                        refine T_sub (ls := [(8, .int (iI (p4 + 1))), (6, .long (gW G w e)), (5, .int (iI e)), (4, .int (iI (30 * b + w))), (0, .ref 530), (1, .int (iI w)), (2, .int (iI i)), (3, .int (iI j))]) ⟨rfl, rfl, rfl, rfl, rfl, rfl, rfl, rfl, trivial⟩ rfl rfl ?_
                                        exact ih737 S768 (p4 + 1) se hse (hF740.tr ((X_Fr.rf).tr (X_Fr.mono ⟨hF767.1, hF767.2⟩ (fun q hq => (by omega))))) (by omega) (fun q h1 h2 => by
                                              rw [X_Su_s (by omega), hM q h1 h2]
                                              by_cases hq : p4 < q ∧ q < q5
                                              · rw [X_if_t hq]
                                              · have : X_cc G (X_T_ G) w i j e q p4 = 0 := by
                                                  unfold X_cc
                                                  rw [if_pos hq0]
                                                  exact X_if_f (fun z => by omega)
                                                rw [X_if_f hq, this]) (by omega)
                                      · skip
                                        have c770 : ¬ ((j - i) ≤ (q5 - p4)) := c770
                                        refine T_p xr_178_229 xn_178 (pc' := 230) (ls' := [(10, .int (iI q5)), (9, .int (iI (4 * w + gD G w 8 e))), (8, .int (iI p4)), (6, .long (gW G w e)), (5, .int (iI e)), (4, .int (iI (30 * b + w))), (0, .ref 530), (1, .int (iI w)), (2, .int (iI i)), (3, .int (iI j))]) (st' := [.ref 530]) rfl ?_
                                        have h771 := (hF767.1 530 (by omega)).trans (h758)
                                        refine T_get xr_178_230 h771 rfl (v := .ref 556) rfl (pc' := 233) rfl ?_
                                        refine T_p xr_178_233 xn_178 (pc' := 235) (ls' := [(10, .int (iI q5)), (9, .int (iI (4 * w + gD G w 8 e))), (8, .int (iI p4)), (6, .long (gW G w e)), (5, .int (iI e)), (4, .int (iI (30 * b + w))), (0, .ref 530), (1, .int (iI w)), (2, .int (iI i)), (3, .int (iI j))]) (st' := [.int (iI q5), .ref 556]) rfl ?_
                                        refine T_p xr_178_235 xn_178 (pc' := 236) (ls' := [(10, .int (iI q5)), (9, .int (iI (4 * w + gD G w 8 e))), (8, .int (iI p4)), (6, .long (gW G w e)), (5, .int (iI e)), (4, .int (iI (30 * b + w))), (0, .ref 530), (1, .int (iI w)), (2, .int (iI i)), (3, .int (iI j))]) (st' := [.ref 530, .int (iI q5), .ref 556]) rfl ?_
                                        refine T_get xr_178_236 h771 rfl (v := .ref 556) rfl (pc' := 239) rfl ?_
                                        refine T_p xr_178_239 xn_178 (pc' := 241) (ls' := [(10, .int (iI q5)), (9, .int (iI (4 * w + gD G w 8 e))), (8, .int (iI p4)), (6, .long (gW G w e)), (5, .int (iI e)), (4, .int (iI (30 * b + w))), (0, .ref 530), (1, .int (iI w)), (2, .int (iI i)), (3, .int (iI j))]) (st' := [.int (iI q5), .ref 556, .int (iI q5), .ref 556]) rfl ?_
                                        refine T_zlald xr_178_241 hse (pc' := 242) rfl ?_
                                        refine T_le (y := (X_st (-1) (X_Su (X_cc G (X_T_ G) w i j e q5) i p4))) (by rw [hM q5 (by omega) (by omega), X_if_f (fun z => by omega)]; rfl) ?_
                                        refine T_p xr_178_242 xn_178 (pc' := 243) (ls' := [(10, .int (iI q5)), (9, .int (iI (4 * w + gD G w 8 e))), (8, .int (iI p4)), (6, .long (gW G w e)), (5, .int (iI e)), (4, .int (iI (30 * b + w))), (0, .ref 530), (1, .int (iI w)), (2, .int (iI i)), (3, .int (iI j))]) (st' := [.ref 530, .long (X_st (-1) (X_Su (X_cc G (X_T_ G) w i j e q5) i p4)), .int (iI q5), .ref 556]) rfl ?_
                                        refine T_get xr_178_243 h771 rfl (v := .ref 555) rfl (pc' := 246) rfl ?_
                                        refine T_p xr_178_246 xn_178 (pc' := 248) (ls' := [(10, .int (iI q5)), (9, .int (iI (4 * w + gD G w 8 e))), (8, .int (iI p4)), (6, .long (gW G w e)), (5, .int (iI e)), (4, .int (iI (30 * b + w))), (0, .ref 530), (1, .int (iI w)), (2, .int (iI i)), (3, .int (iI j))]) (st' := [.int (iI p4), .ref 555, .long (X_st (-1) (X_Su (X_cc G (X_T_ G) w i j e q5) i p4)), .int (iI q5), .ref 556]) rfl ?_
                                        have h772 := (hF767.1 555 (by omega)).trans (h759)
                                        refine T_zlald xr_178_248 h772 (pc' := 249) rfl ?_
                                        refine T_le (y := (X_st (-1) (X_Fe G (X_T_ G) w i j e p4))) (hF p4 (by omega) (by omega)) ?_
                                        refine T_p xr_178_249 xn_178 (pc' := 250) (ls' := [(10, .int (iI q5)), (9, .int (iI (4 * w + gD G w 8 e))), (8, .int (iI p4)), (6, .long (gW G w e)), (5, .int (iI e)), (4, .int (iI (30 * b + w))), (0, .ref 530), (1, .int (iI w)), (2, .int (iI i)), (3, .int (iI j))]) (st' := [.ref 530, .long (X_st (-1) (X_Fe G (X_T_ G) w i j e p4)), .long (X_st (-1) (X_Su (X_cc G (X_T_ G) w i j e q5) i p4)), .int (iI q5), .ref 556]) rfl ?_
                                        refine T_get xr_178_250 h771 rfl (v := .ref 554) rfl (pc' := 253) rfl ?_
                                        refine T_p xr_178_253 xn_178 (pc' := 256) (ls' := [(10, .int (iI q5)), (9, .int (iI (4 * w + gD G w 8 e))), (8, .int (iI p4)), (6, .long (gW G w e)), (5, .int (iI e)), (4, .int (iI (30 * b + w))), (0, .ref 530), (1, .int (iI w)), (2, .int (iI i)), (3, .int (iI j))]) (st' := [.int (iI 961), .ref 554, .long (X_st (-1) (X_Fe G (X_T_ G) w i j e p4)), .long (X_st (-1) (X_Su (X_cc G (X_T_ G) w i j e q5) i p4)), .int (iI q5), .ref 556]) rfl ?_
                                        refine T_p xr_178_256 xn_178 (pc' := 258) (ls' := [(10, .int (iI q5)), (9, .int (iI (4 * w + gD G w 8 e))), (8, .int (iI p4)), (6, .long (gW G w e)), (5, .int (iI e)), (4, .int (iI (30 * b + w))), (0, .ref 530), (1, .int (iI w)), (2, .int (iI i)), (3, .int (iI j))]) (st' := [.int (iI (4 * w + gD G w 8 e)), .int (iI 961), .ref 554, .long (X_st (-1) (X_Fe G (X_T_ G) w i j e p4)), .long (X_st (-1) (X_Su (X_cc G (X_T_ G) w i j e q5) i p4)), .int (iI q5), .ref 556]) rfl ?_
                                        refine T_zimul xr_178_258 (z := 961 * (4 * w + gD G w 8 e)) rfl (pc' := 259) rfl ?_
                                        refine T_p xr_178_259 xn_178 (pc' := 261) (ls' := [(10, .int (iI q5)), (9, .int (iI (4 * w + gD G w 8 e))), (8, .int (iI p4)), (6, .long (gW G w e)), (5, .int (iI e)), (4, .int (iI (30 * b + w))), (0, .ref 530), (1, .int (iI w)), (2, .int (iI i)), (3, .int (iI j))]) (st' := [.int (iI p4), .int (iI (961 * (4 * w + gD G w 8 e))), .ref 554, .long (X_st (-1) (X_Fe G (X_T_ G) w i j e p4)), .long (X_st (-1) (X_Su (X_cc G (X_T_ G) w i j e q5) i p4)), .int (iI q5), .ref 556]) rfl ?_
                                        refine T_p xr_178_261 xn_178 (pc' := 263) (ls' := [(10, .int (iI q5)), (9, .int (iI (4 * w + gD G w 8 e))), (8, .int (iI p4)), (6, .long (gW G w e)), (5, .int (iI e)), (4, .int (iI (30 * b + w))), (0, .ref 530), (1, .int (iI w)), (2, .int (iI i)), (3, .int (iI j))]) (st' := [.int (iI q5), .int (iI p4), .int (iI (961 * (4 * w + gD G w 8 e))), .ref 554, .long (X_st (-1) (X_Fe G (X_T_ G) w i j e p4)), .long (X_st (-1) (X_Su (X_cc G (X_T_ G) w i j e q5) i p4)), .int (iI q5), .ref 556]) rfl ?_
                                        refine T_cs xr_178_263 (by decide) xf_173.1 xn_173 (as := [.int (iI p4), .int (iI q5)]) (r := [.int (iI (961 * (4 * w + gD G w 8 e))), .ref 554, .long (X_st (-1) (X_Fe G (X_T_ G) w i j e p4)), .long (X_st (-1) (X_Su (X_cc G (X_T_ G) w i j e q5) i p4)), .int (iI q5), .ref 556]) rfl (Nat.le_of_ble_eq_true rfl) (Nat.le_of_ble_eq_true rfl) (pc' := 266) rfl (ls' := [(0, .int (iI p4)), (1, .int (iI q5))]) rfl ?_
                                        refine T_p xr_173_0 xn_173 (pc' := 2) (ls' := [(0, .int (iI p4)), (1, .int (iI q5))]) (st' := [.int (iI 31)]) rfl ?_
                                        refine T_p xr_173_2 xn_173 (pc' := 3) (ls' := [(0, .int (iI p4)), (1, .int (iI q5))]) (st' := [.int (iI p4), .int (iI 31)]) rfl ?_
                                        refine T_zimul xr_173_3 (z := 31 * p4) rfl (pc' := 4) rfl ?_
                                        refine T_p xr_173_4 xn_173 (pc' := 5) (ls' := [(0, .int (iI p4)), (1, .int (iI q5))]) (st' := [.int (iI q5), .int (iI (31 * p4))]) rfl ?_
                                        refine T_ziadd xr_173_5 (z := (31 * p4) + q5) rfl (pc' := 6) rfl ?_
                                        refine T_iret xr_173_6 xf_173.2.2 rfl ?_
                                        show X_T sc 178 (266, [(10, .int (iI q5)), (9, .int (iI (4 * w + gD G w 8 e))), (8, .int (iI p4)), (6, .long (gW G w e)), (5, .int (iI e)), (4, .int (iI (30 * b + w))), (0, .ref 530), (1, .int (iI w)), (2, .int (iI i)), (3, .int (iI j))], [.int (iI ((31 * p4) + q5)), .int (iI (961 * (4 * w + gD G w 8 e))), .ref 554, .long (X_st (-1) (X_Fe G (X_T_ G) w i j e p4)), .long (X_st (-1) (X_Su (X_cc G (X_T_ G) w i j e q5) i p4)), .int (iI q5), .ref 556], S768) _
                                        refine T_ziadd xr_178_266 (z := (961 * (4 * w + gD G w 8 e)) + ((31 * p4) + q5)) rfl (pc' := 267) rfl ?_
                                        have h773 := (hF767.1 554 (by omega)).trans ((hF740.1 554 (by omega)).trans ((hF733.1 554 (by omega)).trans ((hF722.1 554 (by omega)).trans ((hF715.1 554 (by omega)).trans (hA554)))))
                                        refine T_zlald xr_178_267 h773 (pc' := 268) rfl ?_
                                        refine T_le (y := (X_st (-1) (X_Hw G (X_T_ G) w e p4 q5))) (hHc e he.1 (by omega) hq0 p4 q5 (by omega) (by omega) (by omega) (by omega)) ?_
                                        refine T_cs xr_178_268 (by decide) xf_172.1 xn_172 (as := [.long (X_st (-1) (X_Fe G (X_T_ G) w i j e p4)), .long (X_st (-1) (X_Hw G (X_T_ G) w e p4 q5))]) (r := [.long (X_st (-1) (X_Su (X_cc G (X_T_ G) w i j e q5) i p4)), .int (iI q5), .ref 556]) rfl (Nat.le_of_ble_eq_true rfl) (Nat.le_of_ble_eq_true rfl) (pc' := 271) rfl (ls' := [(0, .long (X_st (-1) (X_Fe G (X_T_ G) w i j e p4))), (2, .long (X_st (-1) (X_Hw G (X_T_ G) w e p4 q5)))]) rfl ?_
                                        refine T_mono (r_product sc S768 (X_Fe G (X_T_ G) w i j e p4) (X_Hw G (X_T_ G) w e p4 q5)) (fun v774 S775 h776 => ?_)
                                        rcases h776 with ⟨hv777, hf778⟩
                                        rw [hv777]
                                        rw [hf778]
                                        show X_T sc 178 (271, [(10, .int (iI q5)), (9, .int (iI (4 * w + gD G w 8 e))), (8, .int (iI p4)), (6, .long (gW G w e)), (5, .int (iI e)), (4, .int (iI (30 * b + w))), (0, .ref 530), (1, .int (iI w)), (2, .int (iI i)), (3, .int (iI j))], [.long (X_st (-1) ((X_Fe G (X_T_ G) w i j e p4) * (X_Hw G (X_T_ G) w e p4 q5))), .long (X_st (-1) (X_Su (X_cc G (X_T_ G) w i j e q5) i p4)), .int (iI q5), .ref 556], S768) _
                                        refine T_cs xr_178_271 (by decide) xf_171.1 xn_171 (as := [.long (X_st (-1) (X_Su (X_cc G (X_T_ G) w i j e q5) i p4)), .long (X_st (-1) ((X_Fe G (X_T_ G) w i j e p4) * (X_Hw G (X_T_ G) w e p4 q5)))]) (r := [.int (iI q5), .ref 556]) rfl (Nat.le_of_ble_eq_true rfl) (Nat.le_of_ble_eq_true rfl) (pc' := 274) rfl (ls' := [(0, .long (X_st (-1) (X_Su (X_cc G (X_T_ G) w i j e q5) i p4))), (2, .long (X_st (-1) ((X_Fe G (X_T_ G) w i j e p4) * (X_Hw G (X_T_ G) w e p4 q5))))]) rfl ?_
                                        refine T_mono (r_sum sc S768 (X_Su (X_cc G (X_T_ G) w i j e q5) i p4) ((X_Fe G (X_T_ G) w i j e p4) * (X_Hw G (X_T_ G) w e p4 q5))) (fun v779 S780 h781 => ?_)
                                        rcases h781 with ⟨hv782, hf783⟩
                                        rw [hv782]
                                        rw [hf783]
                                        show X_T sc 178 (274, [(10, .int (iI q5)), (9, .int (iI (4 * w + gD G w 8 e))), (8, .int (iI p4)), (6, .long (gW G w e)), (5, .int (iI e)), (4, .int (iI (30 * b + w))), (0, .ref 530), (1, .int (iI w)), (2, .int (iI i)), (3, .int (iI j))], [.long (X_st (-1) ((X_Su (X_cc G (X_T_ G) w i j e q5) i p4) + ((X_Fe G (X_T_ G) w i j e p4) * (X_Hw G (X_T_ G) w e p4 q5)))), .int (iI q5), .ref 556], S768) _
                                        refine T_zlast xr_178_274 hse (pc' := 275) rfl (fun S784 h785 n786 e787 => ?_)
                                        refine T_ziinc xr_178_275 xn_178 (a := q5) (z := q5 + 1) rfl (Nat.le_of_ble_eq_true rfl) (by omega) (ls' := [(10, .int (iI (q5 + 1))), (9, .int (iI (4 * w + gD G w 8 e))), (8, .int (iI p4)), (6, .long (gW G w e)), (5, .int (iI e)), (4, .int (iI (30 * b + w))), (0, .ref 530), (1, .int (iI w)), (2, .int (iI i)), (3, .int (iI j))]) rfl (pc' := 278) rfl ?_
                                        refine T_p xr_178_278 xn_178 (pc' := 212) (ls' := [(10, .int (iI (q5 + 1))), (9, .int (iI (4 * w + gD G w 8 e))), (8, .int (iI p4)), (6, .long (gW G w e)), (5, .int (iI e)), (4, .int (iI (30 * b + w))), (0, .ref 530), (1, .int (iI w)), (2, .int (iI i)), (3, .int (iI j))]) (st' := []) rfl ?_
                                        exact ih764 S784 (q5 + 1) (X_ug se q5 (X_st (-1) ((X_Su (X_cc G (X_T_ G) w i j e q5) i p4) + ((X_Fe G (X_T_ G) w i j e p4) * (X_Hw G (X_T_ G) w e p4 q5))))) h785 (hF767.tr ((X_Fr.rf).tr (X_Fr.of n786 e787 (by omega)))) (by omega) (fun q h1 h2 => by
                                              by_cases hq : q = q5
                                              · have : X_cc G (X_T_ G) w i j e q p4 = X_Fe G (X_T_ G) w i j e p4 * X_Hw G (X_T_ G) w e p4 q := by
                                                  unfold X_cc
                                                  rw [if_pos hq0, X_if_t (by omega)]
                                                rw [X_if_t (by omega), this, hq, X_ug_s]
                                              · rw [X_ug_n _ _ hq, hM q h1 h2, X_if_c (p := p4 < q ∧ q < q5) (q := p4 < q ∧ q < q5 + 1) (n := X_cc G (X_T_ G) w i j e q p4) (m := X_cc G (X_T_ G) w i j e q p4) (by omega) (fun _ => rfl)]) (by omega)
                                exact L763 ((j + 1) + 1).toNat S741 (p4 + 1) sd hsd ((X_Fr.rf)) (by omega) (fun q h1 h2 => by rw [hN q h1 h2, X_if_f (fun z => by omega)]; rfl) (by omega)
                              · skip
                                have c761 : ¬ ((gW G w e) = (iL 0)) := c761
                                refine T_p xr_178_143 xn_178 (pc' := 144) (ls' := [(8, .int (iI p4)), (6, .long (gW G w e)), (5, .int (iI e)), (4, .int (iI (30 * b + w))), (0, .ref 530), (1, .int (iI w)), (2, .int (iI i)), (3, .int (iI j))]) (st' := [.ref 530]) rfl ?_
                                refine T_get xr_178_144 h758 rfl (v := .ref 548) rfl (pc' := 147) rfl ?_
                                refine T_p xr_178_147 xn_178 (pc' := 149) (ls' := [(8, .int (iI p4)), (6, .long (gW G w e)), (5, .int (iI e)), (4, .int (iI (30 * b + w))), (0, .ref 530), (1, .int (iI w)), (2, .int (iI i)), (3, .int (iI j))]) (st' := [.int (iI p4), .ref 548]) rfl ?_
                                have h788 := (hF740.1 548 (by omega)).trans ((hF733.1 548 (by omega)).trans ((hF722.1 548 (by omega)).trans ((hF715.1 548 (by omega)).trans (hA548))))
                                refine T_zlald xr_178_149 h788 (pc' := 150) rfl ?_
                                refine T_le (y := (gt G p4)) (hTT p4 (by omega) (by omega)) ?_
                                refine T_p xr_178_150 xn_178 (pc' := 152) (ls' := [(8, .int (iI p4)), (6, .long (gW G w e)), (5, .int (iI e)), (4, .int (iI (30 * b + w))), (0, .ref 530), (1, .int (iI w)), (2, .int (iI i)), (3, .int (iI j))]) (st' := [.long (gW G w e), .long (gt G p4)]) rfl ?_
                                refine T_lc_ne xr_178_152 xr_178_153 (t := 281) (pc' := 156) rfl rfl (fun c789 => ?_) (fun c789 => ?_)
                                · skip
                                  have c789 : ¬ (gt G p4) = (gW G w e) := c789
                                  refine T_ziinc xr_178_281 xn_178 (a := p4) (z := p4 + 1) rfl (Nat.le_of_ble_eq_true rfl) (by omega) (ls' := [(8, .int (iI (p4 + 1))), (6, .long (gW G w e)), (5, .int (iI e)), (4, .int (iI (30 * b + w))), (0, .ref 530), (1, .int (iI w)), (2, .int (iI i)), (3, .int (iI j))]) rfl (pc' := 284) rfl ?_
                                  refine T_p xr_178_284 xn_178 (pc' := 115) (ls' := [(8, .int (iI (p4 + 1))), (6, .long (gW G w e)), (5, .int (iI e)), (4, .int (iI (30 * b + w))), (0, .ref 530), (1, .int (iI w)), (2, .int (iI i)), (3, .int (iI j))]) (st' := []) rfl ?_
                                  exact ih737 S741 (p4 + 1) sd hsd (hF740.tr (X_Fr.rf)) (by omega) (fun q h1 h2 => by
                                        rw [X_Su_s (by omega), hN q h1 h2]
                                        have : X_cc G (X_T_ G) w i j e q p4 = 0 := by
                                          unfold X_cc
                                          rw [if_neg (by assumption)]
                                          exact X_if_f (fun z => absurd z.2 (by assumption))
                                        rw [this]; rfl) (by omega)
                                · skip
                                  have c789 : ¬ (¬ (gt G p4) = (gW G w e)) := c789
                                  refine T_p xr_178_156 xn_178 (pc' := 157) (ls' := [(8, .int (iI p4)), (6, .long (gW G w e)), (5, .int (iI e)), (4, .int (iI (30 * b + w))), (0, .ref 530), (1, .int (iI w)), (2, .int (iI i)), (3, .int (iI j))]) (st' := [.ref 530]) rfl ?_
                                  refine T_get xr_178_157 h758 rfl (v := .ref 556) rfl (pc' := 160) rfl ?_
                                  refine T_p xr_178_160 xn_178 (pc' := 162) (ls' := [(8, .int (iI p4)), (6, .long (gW G w e)), (5, .int (iI e)), (4, .int (iI (30 * b + w))), (0, .ref 530), (1, .int (iI w)), (2, .int (iI i)), (3, .int (iI j))]) (st' := [.int (iI p4), .ref 556]) rfl ?_
                                  refine T_p xr_178_162 xn_178 (pc' := 163) (ls' := [(8, .int (iI p4)), (6, .long (gW G w e)), (5, .int (iI e)), (4, .int (iI (30 * b + w))), (0, .ref 530), (1, .int (iI w)), (2, .int (iI i)), (3, .int (iI j))]) (st' := [.int (iI 1), .int (iI p4), .ref 556]) rfl ?_
                                  refine T_ziadd xr_178_163 (z := p4 + 1) rfl (pc' := 164) rfl ?_
                                  refine T_p xr_178_164 xn_178 (pc' := 165) (ls' := [(8, .int (iI p4)), (6, .long (gW G w e)), (5, .int (iI e)), (4, .int (iI (30 * b + w))), (0, .ref 530), (1, .int (iI w)), (2, .int (iI i)), (3, .int (iI j))]) (st' := [.ref 530, .int (iI (p4 + 1)), .ref 556]) rfl ?_
                                  refine T_get xr_178_165 h758 rfl (v := .ref 556) rfl (pc' := 168) rfl ?_
                                  refine T_p xr_178_168 xn_178 (pc' := 170) (ls' := [(8, .int (iI p4)), (6, .long (gW G w e)), (5, .int (iI e)), (4, .int (iI (30 * b + w))), (0, .ref 530), (1, .int (iI w)), (2, .int (iI i)), (3, .int (iI j))]) (st' := [.int (iI p4), .ref 556, .int (iI (p4 + 1)), .ref 556]) rfl ?_
                                  refine T_p xr_178_170 xn_178 (pc' := 171) (ls' := [(8, .int (iI p4)), (6, .long (gW G w e)), (5, .int (iI e)), (4, .int (iI (30 * b + w))), (0, .ref 530), (1, .int (iI w)), (2, .int (iI i)), (3, .int (iI j))]) (st' := [.int (iI 1), .int (iI p4), .ref 556, .int (iI (p4 + 1)), .ref 556]) rfl ?_
                                  refine T_ziadd xr_178_171 (z := p4 + 1) rfl (pc' := 172) rfl ?_
                                  refine T_zlald xr_178_172 hsd (pc' := 173) rfl ?_
                                  refine T_le (y := (X_st (-1) (X_Su (X_cc G (X_T_ G) w i j e (p4 + 1)) i p4))) (hN (p4 + 1) (by omega) (by omega)) ?_
                                  refine T_p xr_178_173 xn_178 (pc' := 174) (ls' := [(8, .int (iI p4)), (6, .long (gW G w e)), (5, .int (iI e)), (4, .int (iI (30 * b + w))), (0, .ref 530), (1, .int (iI w)), (2, .int (iI i)), (3, .int (iI j))]) (st' := [.ref 530, .long (X_st (-1) (X_Su (X_cc G (X_T_ G) w i j e (p4 + 1)) i p4)), .int (iI (p4 + 1)), .ref 556]) rfl ?_
                                  refine T_get xr_178_174 h758 rfl (v := .ref 555) rfl (pc' := 177) rfl ?_
                                  refine T_p xr_178_177 xn_178 (pc' := 179) (ls' := [(8, .int (iI p4)), (6, .long (gW G w e)), (5, .int (iI e)), (4, .int (iI (30 * b + w))), (0, .ref 530), (1, .int (iI w)), (2, .int (iI i)), (3, .int (iI j))]) (st' := [.int (iI p4), .ref 555, .long (X_st (-1) (X_Su (X_cc G (X_T_ G) w i j e (p4 + 1)) i p4)), .int (iI (p4 + 1)), .ref 556]) rfl ?_
                                  refine T_zlald xr_178_179 h759 (pc' := 180) rfl ?_
                                  refine T_le (y := (X_st (-1) (X_Fe G (X_T_ G) w i j e p4))) (hF p4 (by omega) (by omega)) ?_
                                  refine T_cs xr_178_180 (by decide) xf_171.1 xn_171 (as := [.long (X_st (-1) (X_Su (X_cc G (X_T_ G) w i j e (p4 + 1)) i p4)), .long (X_st (-1) (X_Fe G (X_T_ G) w i j e p4))]) (r := [.int (iI (p4 + 1)), .ref 556]) rfl (Nat.le_of_ble_eq_true rfl) (Nat.le_of_ble_eq_true rfl) (pc' := 183) rfl (ls' := [(0, .long (X_st (-1) (X_Su (X_cc G (X_T_ G) w i j e (p4 + 1)) i p4))), (2, .long (X_st (-1) (X_Fe G (X_T_ G) w i j e p4)))]) rfl ?_
                                  refine T_mono (r_sum sc S741 (X_Su (X_cc G (X_T_ G) w i j e (p4 + 1)) i p4) (X_Fe G (X_T_ G) w i j e p4)) (fun v790 S791 h792 => ?_)
                                  rcases h792 with ⟨hv793, hf794⟩
                                  rw [hv793]
                                  rw [hf794]
                                  show X_T sc 178 (183, [(8, .int (iI p4)), (6, .long (gW G w e)), (5, .int (iI e)), (4, .int (iI (30 * b + w))), (0, .ref 530), (1, .int (iI w)), (2, .int (iI i)), (3, .int (iI j))], [.long (X_st (-1) ((X_Su (X_cc G (X_T_ G) w i j e (p4 + 1)) i p4) + (X_Fe G (X_T_ G) w i j e p4))), .int (iI (p4 + 1)), .ref 556], S741) _
                                  refine T_zlast xr_178_183 hsd (pc' := 184) rfl (fun S795 h796 n797 e798 => ?_)
                                  refine T_p xr_178_184 xn_178 (pc' := 281) (ls' := [(8, .int (iI p4)), (6, .long (gW G w e)), (5, .int (iI e)), (4, .int (iI (30 * b + w))), (0, .ref 530), (1, .int (iI w)), (2, .int (iI i)), (3, .int (iI j))]) (st' := []) rfl ?_
                                  refine T_ziinc xr_178_281 xn_178 (a := p4) (z := p4 + 1) rfl (Nat.le_of_ble_eq_true rfl) (by omega) (ls' := [(8, .int (iI (p4 + 1))), (6, .long (gW G w e)), (5, .int (iI e)), (4, .int (iI (30 * b + w))), (0, .ref 530), (1, .int (iI w)), (2, .int (iI i)), (3, .int (iI j))]) rfl (pc' := 284) rfl ?_
                                  refine T_p xr_178_284 xn_178 (pc' := 115) (ls' := [(8, .int (iI (p4 + 1))), (6, .long (gW G w e)), (5, .int (iI e)), (4, .int (iI (30 * b + w))), (0, .ref 530), (1, .int (iI w)), (2, .int (iI i)), (3, .int (iI j))]) (st' := []) rfl ?_
                                  exact ih737 S795 (p4 + 1) (X_ug sd (p4 + 1) (X_st (-1) ((X_Su (X_cc G (X_T_ G) w i j e (p4 + 1)) i p4) + (X_Fe G (X_T_ G) w i j e p4)))) h796 (hF740.tr ((X_Fr.rf).tr (X_Fr.of n797 e798 (by omega)))) (by omega) (fun q h1 h2 => by
                                        rw [X_Su_s (by omega)]
                                        by_cases hq : q = p4 + 1
                                        · have : X_cc G (X_T_ G) w i j e q p4 = X_Fe G (X_T_ G) w i j e p4 := by
                                            unfold X_cc
                                            rw [if_neg (by assumption), X_if_t ⟨hq, by first | assumption | exact Classical.not_not.mp (by assumption)⟩]
                                          rw [this, hq, X_ug_s]
                                        · have : X_cc G (X_T_ G) w i j e q p4 = 0 := by
                                            unfold X_cc
                                            rw [if_neg (by assumption)]
                                            exact X_if_f (fun z => hq z.1)
                                          rw [this, X_ug_n _ _ hq, hN q h1 h2]; rfl) (by omega)
                            · skip
                              have c760 : ¬ (¬ (X_st (-1) (X_Fe G (X_T_ G) w i j e p4)) = (iL 0)) := c760
                              refine T_p xr_178_133 xn_178 (pc' := 281) (ls' := [(8, .int (iI p4)), (6, .long (gW G w e)), (5, .int (iI e)), (4, .int (iI (30 * b + w))), (0, .ref 530), (1, .int (iI w)), (2, .int (iI i)), (3, .int (iI j))]) (st' := []) rfl ?_
                              refine T_ziinc xr_178_281 xn_178 (a := p4) (z := p4 + 1) rfl (Nat.le_of_ble_eq_true rfl) (by omega) (ls' := [(8, .int (iI (p4 + 1))), (6, .long (gW G w e)), (5, .int (iI e)), (4, .int (iI (30 * b + w))), (0, .ref 530), (1, .int (iI w)), (2, .int (iI i)), (3, .int (iI j))]) rfl (pc' := 284) rfl ?_
                              refine T_p xr_178_284 xn_178 (pc' := 115) (ls' := [(8, .int (iI (p4 + 1))), (6, .long (gW G w e)), (5, .int (iI e)), (4, .int (iI (30 * b + w))), (0, .ref 530), (1, .int (iI w)), (2, .int (iI i)), (3, .int (iI j))]) (st' := []) rfl ?_
                              exact ih737 S741 (p4 + 1) sd hsd (hF740.tr (X_Fr.rf)) (by omega) (fun q h1 h2 => by
                                    rw [X_Su_s (by omega), hN q h1 h2]
                                    have hz0 : X_Fe G (X_T_ G) w i j e p4 = 0 := (X_st_z (m := -1) (by omega)).mp (by first | assumption | exact Classical.not_not.mp (by assumption))
                                    have : X_cc G (X_T_ G) w i j e q p4 = 0 := by
                                      unfold X_cc
                                      rw [hz0]
                                      split
                                      · rw [Nat.zero_mul]; exact X_if_0
                                      · exact X_if_0
                                    rw [this]; rfl) (by omega)
                      exact L736 (j + 1).toNat S734 i sc_ hsc ((X_Fr.rf)) (by omega) (fun q h1 h2 => by rw [hz q h1 (by omega), X_Su_e (Int.le_refl i)]; rfl) (by omega)
                    · skip
                      have c735 : ¬ (j < p3) := c735
                      refine T_p xr_178_98 xn_178 (pc' := 99) (ls' := [(8, .int (iI p3)), (6, .long (gW G w e)), (5, .int (iI e)), (4, .int (iI (30 * b + w))), (0, .ref 530), (1, .int (iI w)), (2, .int (iI i)), (3, .int (iI j))]) (st' := [.ref 530]) rfl ?_
                      have h799 := (hF733.1 530 (by omega)).trans (h725)
                      refine T_get xr_178_99 h799 rfl (v := .ref 556) rfl (pc' := 102) rfl ?_
                      refine T_p xr_178_102 xn_178 (pc' := 104) (ls' := [(8, .int (iI p3)), (6, .long (gW G w e)), (5, .int (iI e)), (4, .int (iI (30 * b + w))), (0, .ref 530), (1, .int (iI w)), (2, .int (iI i)), (3, .int (iI j))]) (st' := [.int (iI p3), .ref 556]) rfl ?_
                      refine T_p xr_178_104 xn_178 (pc' := 105) (ls' := [(8, .int (iI p3)), (6, .long (gW G w e)), (5, .int (iI e)), (4, .int (iI (30 * b + w))), (0, .ref 530), (1, .int (iI w)), (2, .int (iI i)), (3, .int (iI j))]) (st' := [.long (iL 0), .int (iI p3), .ref 556]) rfl ?_
                      refine T_zlast xr_178_105 hsc (pc' := 106) rfl (fun S800 h801 n802 e803 => ?_)
                      refine T_ziinc xr_178_106 xn_178 (a := p3) (z := p3 + 1) rfl (Nat.le_of_ble_eq_true rfl) (by omega) (ls' := [(8, .int (iI (p3 + 1))), (6, .long (gW G w e)), (5, .int (iI e)), (4, .int (iI (30 * b + w))), (0, .ref 530), (1, .int (iI w)), (2, .int (iI i)), (3, .int (iI j))]) rfl (pc' := 109) rfl ?_
                      refine T_p xr_178_109 xn_178 (pc' := 92) (ls' := [(8, .int (iI (p3 + 1))), (6, .long (gW G w e)), (5, .int (iI e)), (4, .int (iI (30 * b + w))), (0, .ref 530), (1, .int (iI w)), (2, .int (iI i)), (3, .int (iI j))]) (st' := []) rfl ?_
                      exact ih730 S800 (p3 + 1) (X_ug sc_ p3 (iL 0)) h801 (hF733.tr ((X_Fr.rf).tr (X_Fr.of n802 e803 (by omega)))) (by omega) (fun q h1 h2 => by
                            by_cases hq : q = p3
                            · rw [hq, X_ug_s]
                            · rw [X_ug_n _ _ hq]; exact hz q h1 (by omega)) (by omega)
                exact L729 ((j + 1) + 1).toNat S724 i sb hsb ((X_Fr.rf)) (by omega) (fun q h1 h2 => absurd h2 (by omega)) (by omega)
          exact L718 ((gD G w 3 0) + 1).toNat S716 0 ra r2 hra h723 ((X_Fr.rf)) (by omega) (fun q h1 h2 => by rw [h0 q h1 (by omega)]; rfl) (by omega)
        · skip
          have c717 : ¬ (j < p1) := c717
          refine T_p xr_178_35 xn_178 (pc' := 36) (ls' := [(5, .int (iI p1)), (4, .int (iI (30 * b + w))), (0, .ref 530), (1, .int (iI w)), (2, .int (iI i)), (3, .int (iI j))]) (st' := [.ref 530]) rfl ?_
          have h804 := (hF715.1 530 (by omega)).trans (hO530)
          refine T_get xr_178_36 h804 rfl (v := .ref 555) rfl (pc' := 39) rfl ?_
          refine T_p xr_178_39 xn_178 (pc' := 41) (ls' := [(5, .int (iI p1)), (4, .int (iI (30 * b + w))), (0, .ref 530), (1, .int (iI w)), (2, .int (iI i)), (3, .int (iI j))]) (st' := [.int (iI p1), .ref 555]) rfl ?_
          refine T_p xr_178_41 xn_178 (pc' := 43) (ls' := [(5, .int (iI p1)), (4, .int (iI (30 * b + w))), (0, .ref 530), (1, .int (iI w)), (2, .int (iI i)), (3, .int (iI j))]) (st' := [.int (iI p1), .int (iI p1), .ref 555]) rfl ?_
          refine T_p xr_178_43 xn_178 (pc' := 44) (ls' := [(5, .int (iI p1)), (4, .int (iI (30 * b + w))), (0, .ref 530), (1, .int (iI w)), (2, .int (iI i)), (3, .int (iI j))]) (st' := [.int (iI i), .int (iI p1), .int (iI p1), .ref 555]) rfl ?_
          refine T_zicmp_ne xr_178_44 (t := 51) (pc' := 47) rfl rfl (fun c805 => ?_) (fun c805 => ?_)
          · skip
            have c805 : ¬ p1 = i := c805
            refine T_p xr_178_51 xn_178 (pc' := 52) (ls' := [(5, .int (iI p1)), (4, .int (iI (30 * b + w))), (0, .ref 530), (1, .int (iI w)), (2, .int (iI i)), (3, .int (iI j))]) (st' := [.long (iL 0), .int (iI p1), .ref 555]) rfl ?_
            refine T_zlast xr_178_52 hra (pc' := 53) rfl (fun S806 h807 n808 e809 => ?_)
            refine T_ziinc xr_178_53 xn_178 (a := p1) (z := p1 + 1) rfl (Nat.le_of_ble_eq_true rfl) (by omega) (ls' := [(5, .int (iI (p1 + 1))), (4, .int (iI (30 * b + w))), (0, .ref 530), (1, .int (iI w)), (2, .int (iI i)), (3, .int (iI j))]) rfl (pc' := 56) rfl ?_
            refine T_p xr_178_56 xn_178 (pc' := 29) (ls' := [(5, .int (iI (p1 + 1))), (4, .int (iI (30 * b + w))), (0, .ref 530), (1, .int (iI w)), (2, .int (iI i)), (3, .int (iI j))]) (st' := []) rfl ?_
            exact ih712 S806 (p1 + 1) (X_ug ra p1 (iL 0)) h807 (hF715.tr ((X_Fr.rf).tr (X_Fr.of n808 e809 (by omega)))) (by omega) (fun q h1 h2 => by
                  by_cases hq : q = p1
                  · rw [hq, X_ug_s]; first | (rw [if_pos (by omega)]; rfl) | (rw [if_neg (by omega)]; rfl)
                  · rw [X_ug_n _ _ hq]; exact h0 q h1 (by omega)) (by omega)
          · skip
            have c805 : ¬ (¬ p1 = i) := c805
            refine T_p xr_178_47 xn_178 (pc' := 48) (ls' := [(5, .int (iI p1)), (4, .int (iI (30 * b + w))), (0, .ref 530), (1, .int (iI w)), (2, .int (iI i)), (3, .int (iI j))]) (st' := [.long (iL 1), .int (iI p1), .ref 555]) rfl ?_
            refine T_p xr_178_48 xn_178 (pc' := 52) (ls' := [(5, .int (iI p1)), (4, .int (iI (30 * b + w))), (0, .ref 530), (1, .int (iI w)), (2, .int (iI i)), (3, .int (iI j))]) (st' := [.long (iL 1), .int (iI p1), .ref 555]) rfl ?_
            refine T_zlast xr_178_52 hra (pc' := 53) rfl (fun S810 h811 n812 e813 => ?_)
            refine T_ziinc xr_178_53 xn_178 (a := p1) (z := p1 + 1) rfl (Nat.le_of_ble_eq_true rfl) (by omega) (ls' := [(5, .int (iI (p1 + 1))), (4, .int (iI (30 * b + w))), (0, .ref 530), (1, .int (iI w)), (2, .int (iI i)), (3, .int (iI j))]) rfl (pc' := 56) rfl ?_
            refine T_p xr_178_56 xn_178 (pc' := 29) (ls' := [(5, .int (iI (p1 + 1))), (4, .int (iI (30 * b + w))), (0, .ref 530), (1, .int (iI w)), (2, .int (iI i)), (3, .int (iI j))]) (st' := []) rfl ?_
            exact ih712 S810 (p1 + 1) (X_ug ra p1 (iL 1)) h811 (hF715.tr ((X_Fr.rf).tr (X_Fr.of n812 e813 (by omega)))) (by omega) (fun q h1 h2 => by
                  by_cases hq : q = p1
                  · rw [hq, X_ug_s]; first | (rw [if_pos (by omega)]; rfl) | (rw [if_neg (by omega)]; rfl)
                  · rw [X_ug_n _ _ hq]; exact h0 q h1 (by omega)) (by omega)
    exact L711 ((j + 1) + 1).toNat S i r1 hA555 ((X_Fr.rf)) (by omega) (fun q h1 h2 => absurd h2 (by omega)) (by omega)
  · skip
    have c710 : ¬ ((gD G w 3 0) ≤ (j - i)) := c710
    refine T_p xr_178_24 xn_178 (pc' := 25) (ls' := [(4, .int (iI ((30 * b) + w))), (0, .ref 530), (1, .int (iI w)), (2, .int (iI i)), (3, .int (iI j))]) (st' := [.long (iL 0)]) rfl ?_
    refine T_lret xr_178_25 xf_178.2.2 rfl ?_
    refine hQ _ _ ?_
    exact ⟨r1, r2, (by rw [show (X_T_ G).1 w i j = 0 from by rw [X_T_W hpw hij.2.1 (by omega), X_Ew_0 (by omega)]]; rfl), hA555, hA556, X_Fr.rf⟩
