theorem xr_141_0 : X_row 141 0 = some (0, (.aload_n 0, 1), (0, 0, 0)) := by decide +kernel
theorem xr_141_1 : X_row 141 1 = some (1, (.aload_n 0, 1), (0, 0, 0)) := by decide +kernel
theorem xr_141_2 : X_row 141 2 = some (2, (.getfield 17, 3), (11, 8, 16)) := by decide +kernel
theorem xr_141_5 : X_row 141 5 = some (5, (.putfield 20, 3), (11, 7, 14)) := by decide +kernel
theorem xr_141_8 : X_row 141 8 = some (8, (.aload_n 0, 1), (0, 0, 0)) := by decide +kernel
theorem xr_141_9 : X_row 141 9 = some (9, (.getfield 20, 3), (11, 7, 14)) := by decide +kernel
theorem xr_141_12 : X_row 141 12 = some (12, (.aload_n 0, 1), (0, 0, 0)) := by decide +kernel
theorem xr_141_13 : X_row 141 13 = some (13, (.getfield 1, 3), (11, 3, 6)) := by decide +kernel
theorem xr_141_16 : X_row 141 16 = some (16, (.if_icmp .ge 42, 3), (0, 0, 0)) := by decide +kernel
theorem xr_141_19 : X_row 141 19 = some (19, (.aload_n 0, 1), (0, 0, 0)) := by decide +kernel
theorem xr_141_20 : X_row 141 20 = some (20, (.aload_n 0, 1), (0, 0, 0)) := by decide +kernel
theorem xr_141_21 : X_row 141 21 = some (21, (.getfield 20, 3), (11, 7, 14)) := by decide +kernel
theorem xr_141_24 : X_row 141 24 = some (24, (.invokevirtual 23, 3), (136, 2, 0)) := by decide +kernel
theorem xr_141_27 : X_row 141 27 = some (27, (.bipush 32, 2), (0, 0, 0)) := by decide +kernel
theorem xr_141_29 : X_row 141 29 = some (29, (.if_icmp .eq 16, 3), (0, 0, 0)) := by decide +kernel
theorem xr_141_32 : X_row 141 32 = some (32, (.aload_n 0, 1), (0, 0, 0)) := by decide +kernel
theorem xr_141_33 : X_row 141 33 = some (33, (.aload_n 0, 1), (0, 0, 0)) := by decide +kernel
theorem xr_141_34 : X_row 141 34 = some (34, (.getfield 20, 3), (11, 7, 14)) := by decide +kernel
theorem xr_141_37 : X_row 141 37 = some (37, (.invokevirtual 23, 3), (136, 2, 0)) := by decide +kernel
theorem xr_141_40 : X_row 141 40 = some (40, (.bipush 10, 2), (0, 0, 0)) := by decide +kernel
theorem xr_141_42 : X_row 141 42 = some (42, (.if_icmp .ne 16, 3), (0, 0, 0)) := by decide +kernel
theorem xr_141_45 : X_row 141 45 = some (45, (.aload_n 0, 1), (0, 0, 0)) := by decide +kernel
theorem xr_141_46 : X_row 141 46 = some (46, (.dup, 1), (0, 0, 0)) := by decide +kernel
theorem xr_141_47 : X_row 141 47 = some (47, (.getfield 20, 3), (11, 7, 14)) := by decide +kernel
theorem xr_141_50 : X_row 141 50 = some (50, (.iconst 1, 1), (0, 0, 0)) := by decide +kernel
theorem xr_141_51 : X_row 141 51 = some (51, (.iadd, 1), (0, 0, 0)) := by decide +kernel
theorem xr_141_52 : X_row 141 52 = some (52, (.putfield 20, 3), (11, 7, 14)) := by decide +kernel
theorem xr_141_55 : X_row 141 55 = some (55, (.goto (-47), 3), (0, 0, 0)) := by decide +kernel
theorem xr_141_58 : X_row 141 58 = some (58, (.aload_n 0, 1), (0, 0, 0)) := by decide +kernel
theorem xr_141_59 : X_row 141 59 = some (59, (.aload_n 0, 1), (0, 0, 0)) := by decide +kernel
theorem xr_141_60 : X_row 141 60 = some (60, (.getfield 20, 3), (11, 7, 14)) := by decide +kernel
theorem xr_141_63 : X_row 141 63 = some (63, (.invokevirtual 23, 3), (136, 2, 0)) := by decide +kernel
theorem xr_141_66 : X_row 141 66 = some (66, (.istore_n 1, 1), (0, 0, 0)) := by decide +kernel
theorem xr_141_67 : X_row 141 67 = some (67, (.aload_n 0, 1), (0, 0, 0)) := by decide +kernel
theorem xr_141_68 : X_row 141 68 = some (68, (.aload_n 0, 1), (0, 0, 0)) := by decide +kernel
theorem xr_141_69 : X_row 141 69 = some (69, (.getfield 20, 3), (11, 7, 14)) := by decide +kernel
theorem xr_141_72 : X_row 141 72 = some (72, (.iconst 1, 1), (0, 0, 0)) := by decide +kernel
theorem xr_141_73 : X_row 141 73 = some (73, (.iadd, 1), (0, 0, 0)) := by decide +kernel
theorem xr_141_74 : X_row 141 74 = some (74, (.putfield 17, 3), (11, 8, 16)) := by decide +kernel
theorem xr_141_77 : X_row 141 77 = some (77, (.aload_n 0, 1), (0, 0, 0)) := by decide +kernel
theorem xr_141_78 : X_row 141 78 = some (78, (.getfield 20, 3), (11, 7, 14)) := by decide +kernel
theorem xr_141_81 : X_row 141 81 = some (81, (.aload_n 0, 1), (0, 0, 0)) := by decide +kernel
theorem xr_141_82 : X_row 141 82 = some (82, (.getfield 1, 3), (11, 3, 6)) := by decide +kernel
theorem xr_141_85 : X_row 141 85 = some (85, (.if_icmp .lt 27, 3), (0, 0, 0)) := by decide +kernel
theorem xr_141_88 : X_row 141 88 = some (88, (.aload_n 0, 1), (0, 0, 0)) := by decide +kernel
theorem xr_141_89 : X_row 141 89 = some (89, (.iconst 0, 1), (0, 0, 0)) := by decide +kernel
theorem xr_141_90 : X_row 141 90 = some (90, (.putfield 27, 3), (11, 9, 18)) := by decide +kernel
theorem xr_141_93 : X_row 141 93 = some (93, (.aload_n 0, 1), (0, 0, 0)) := by decide +kernel
theorem xr_141_94 : X_row 141 94 = some (94, (.aload_n 0, 1), (0, 0, 0)) := by decide +kernel
theorem xr_141_95 : X_row 141 95 = some (95, (.getfield 1, 3), (11, 3, 6)) := by decide +kernel
theorem xr_141_98 : X_row 141 98 = some (98, (.putfield 20, 3), (11, 7, 14)) := by decide +kernel
theorem xr_141_101 : X_row 141 101 = some (101, (.aload_n 0, 1), (0, 0, 0)) := by decide +kernel
theorem xr_141_102 : X_row 141 102 = some (102, (.aload_n 0, 1), (0, 0, 0)) := by decide +kernel
theorem xr_141_103 : X_row 141 103 = some (103, (.getfield 1, 3), (11, 3, 6)) := by decide +kernel
theorem xr_141_106 : X_row 141 106 = some (106, (.putfield 17, 3), (11, 8, 16)) := by decide +kernel
theorem xr_141_109 : X_row 141 109 = some (109, (.goto 442, 3), (0, 0, 0)) := by decide +kernel
theorem xr_141_112 : X_row 141 112 = some (112, (.iload_n 1, 1), (0, 0, 0)) := by decide +kernel
theorem xr_141_113 : X_row 141 113 = some (113, (.invokestatic 30, 3), (137, 4, 0)) := by decide +kernel
theorem xr_141_116 : X_row 141 116 = some (116, (.ifCond .eq 173, 3), (0, 0, 0)) := by decide +kernel
theorem xr_141_119 : X_row 141 119 = some (119, (.aload_n 0, 1), (0, 0, 0)) := by decide +kernel
theorem xr_141_120 : X_row 141 120 = some (120, (.aload_n 0, 1), (0, 0, 0)) := by decide +kernel
theorem xr_141_121 : X_row 141 121 = some (121, (.getfield 17, 3), (11, 8, 16)) := by decide +kernel
theorem xr_141_124 : X_row 141 124 = some (124, (.invokevirtual 23, 3), (136, 2, 0)) := by decide +kernel
theorem xr_141_127 : X_row 141 127 = some (127, (.invokestatic 30, 3), (137, 4, 0)) := by decide +kernel
theorem xr_141_130 : X_row 141 130 = some (130, (.ifCond .ne 17, 3), (0, 0, 0)) := by decide +kernel
theorem xr_141_133 : X_row 141 133 = some (133, (.aload_n 0, 1), (0, 0, 0)) := by decide +kernel
theorem xr_141_134 : X_row 141 134 = some (134, (.aload_n 0, 1), (0, 0, 0)) := by decide +kernel
theorem xr_141_135 : X_row 141 135 = some (135, (.getfield 17, 3), (11, 8, 16)) := by decide +kernel
theorem xr_141_138 : X_row 141 138 = some (138, (.invokevirtual 23, 3), (136, 2, 0)) := by decide +kernel
theorem xr_141_141 : X_row 141 141 = some (141, (.invokestatic 34, 3), (138, 6, 0)) := by decide +kernel
theorem xr_141_144 : X_row 141 144 = some (144, (.ifCond .eq 16, 3), (0, 0, 0)) := by decide +kernel
theorem xr_141_147 : X_row 141 147 = some (147, (.aload_n 0, 1), (0, 0, 0)) := by decide +kernel
theorem xr_141_148 : X_row 141 148 = some (148, (.dup, 1), (0, 0, 0)) := by decide +kernel
theorem xr_141_149 : X_row 141 149 = some (149, (.getfield 17, 3), (11, 8, 16)) := by decide +kernel
theorem xr_141_152 : X_row 141 152 = some (152, (.iconst 1, 1), (0, 0, 0)) := by decide +kernel
theorem xr_141_153 : X_row 141 153 = some (153, (.iadd, 1), (0, 0, 0)) := by decide +kernel
theorem xr_141_154 : X_row 141 154 = some (154, (.putfield 17, 3), (11, 8, 16)) := by decide +kernel
theorem xr_141_157 : X_row 141 157 = some (157, (.goto (-38), 3), (0, 0, 0)) := by decide +kernel
theorem xr_141_160 : X_row 141 160 = some (160, (.aload_n 0, 1), (0, 0, 0)) := by decide +kernel
theorem xr_141_161 : X_row 141 161 = some (161, (.aload_n 0, 1), (0, 0, 0)) := by decide +kernel
theorem xr_141_162 : X_row 141 162 = some (162, (.getfield 20, 3), (11, 7, 14)) := by decide +kernel
theorem xr_141_165 : X_row 141 165 = some (165, (.aload_n 0, 1), (0, 0, 0)) := by decide +kernel
theorem xr_141_166 : X_row 141 166 = some (166, (.getfield 17, 3), (11, 8, 16)) := by decide +kernel
theorem xr_141_169 : X_row 141 169 = some (169, (.invokevirtual 37, 3), (142, 8, 0)) := by decide +kernel
theorem xr_141_172 : X_row 141 172 = some (172, (.aload_n 0, 1), (0, 0, 0)) := by decide +kernel
theorem xr_141_173 : X_row 141 173 = some (173, (.getfield 41, 3), (11, 12, 24)) := by decide +kernel
theorem xr_141_176 : X_row 141 176 = some (176, (.ldc2_w 45, 3), (1918987883, 1285, 0)) := by decide +kernel
theorem xr_141_179 : X_row 141 179 = some (179, (.lcmp, 1), (0, 0, 0)) := by decide +kernel
theorem xr_141_180 : X_row 141 180 = some (180, (.ifCond .eq 69, 3), (0, 0, 0)) := by decide +kernel
theorem xr_141_183 : X_row 141 183 = some (183, (.aload_n 0, 1), (0, 0, 0)) := by decide +kernel
theorem xr_141_184 : X_row 141 184 = some (184, (.getfield 41, 3), (11, 12, 24)) := by decide +kernel
theorem xr_141_187 : X_row 141 187 = some (187, (.ldc2_w 47, 3), (32766990153442674, 1286, 0)) := by decide +kernel
theorem xr_141_190 : X_row 141 190 = some (190, (.lcmp, 1), (0, 0, 0)) := by decide +kernel
theorem xr_141_191 : X_row 141 191 = some (191, (.ifCond .eq 58, 3), (0, 0, 0)) := by decide +kernel
theorem xr_141_194 : X_row 141 194 = some (194, (.aload_n 0, 1), (0, 0, 0)) := by decide +kernel
theorem xr_141_195 : X_row 141 195 = some (195, (.getfield 41, 3), (11, 12, 24)) := by decide +kernel
theorem xr_141_198 : X_row 141 198 = some (198, (.ldc2_w 49, 3), (1802071652, 1287, 0)) := by decide +kernel
theorem xr_141_201 : X_row 141 201 = some (201, (.lcmp, 1), (0, 0, 0)) := by decide +kernel
theorem xr_141_202 : X_row 141 202 = some (202, (.ifCond .eq 47, 3), (0, 0, 0)) := by decide +kernel
theorem xr_141_205 : X_row 141 205 = some (205, (.aload_n 0, 1), (0, 0, 0)) := by decide +kernel
theorem xr_141_206 : X_row 141 206 = some (206, (.getfield 41, 3), (11, 12, 24)) := by decide +kernel
theorem xr_141_209 : X_row 141 209 = some (209, (.ldc2_w 51, 3), (504363246962, 1288, 0)) := by decide +kernel
theorem xr_141_212 : X_row 141 212 = some (212, (.lcmp, 1), (0, 0, 0)) := by decide +kernel
theorem xr_141_213 : X_row 141 213 = some (213, (.ifCond .eq 36, 3), (0, 0, 0)) := by decide +kernel
theorem xr_141_216 : X_row 141 216 = some (216, (.aload_n 0, 1), (0, 0, 0)) := by decide +kernel
theorem xr_141_217 : X_row 141 217 = some (217, (.getfield 41, 3), (11, 12, 24)) := by decide +kernel
theorem xr_141_220 : X_row 141 220 = some (220, (.ldc2_w 53, 3), (2003792484, 1289, 0)) := by decide +kernel
theorem xr_141_223 : X_row 141 223 = some (223, (.lcmp, 1), (0, 0, 0)) := by decide +kernel
theorem xr_141_224 : X_row 141 224 = some (224, (.ifCond .eq 25, 3), (0, 0, 0)) := by decide +kernel
theorem xr_141_227 : X_row 141 227 = some (227, (.aload_n 0, 1), (0, 0, 0)) := by decide +kernel
theorem xr_141_228 : X_row 141 228 = some (228, (.getfield 41, 3), (11, 12, 24)) := by decide +kernel
theorem xr_141_231 : X_row 141 231 = some (231, (.ldc2_w 55, 3), (1818584692, 1290, 0)) := by decide +kernel
theorem xr_141_234 : X_row 141 234 = some (234, (.lcmp, 1), (0, 0, 0)) := by decide +kernel
theorem xr_141_235 : X_row 141 235 = some (235, (.ifCond .eq 14, 3), (0, 0, 0)) := by decide +kernel
theorem xr_141_238 : X_row 141 238 = some (238, (.aload_n 0, 1), (0, 0, 0)) := by decide +kernel
theorem xr_141_239 : X_row 141 239 = some (239, (.getfield 41, 3), (11, 12, 24)) := by decide +kernel
theorem xr_141_242 : X_row 141 242 = some (242, (.ldc2_w 57, 3), (491394656372, 1291, 0)) := by decide +kernel
theorem xr_141_245 : X_row 141 245 = some (245, (.lcmp, 1), (0, 0, 0)) := by decide +kernel
theorem xr_141_246 : X_row 141 246 = some (246, (.ifCond .ne 7, 3), (0, 0, 0)) := by decide +kernel
theorem xr_141_249 : X_row 141 249 = some (249, (.iconst 1, 1), (0, 0, 0)) := by decide +kernel
theorem xr_141_250 : X_row 141 250 = some (250, (.goto 4, 3), (0, 0, 0)) := by decide +kernel
theorem xr_141_253 : X_row 141 253 = some (253, (.iconst 0, 1), (0, 0, 0)) := by decide +kernel
theorem xr_141_254 : X_row 141 254 = some (254, (.istore_n 2, 1), (0, 0, 0)) := by decide +kernel
theorem xr_141_255 : X_row 141 255 = some (255, (.aload_n 0, 1), (0, 0, 0)) := by decide +kernel
theorem xr_141_256 : X_row 141 256 = some (256, (.aload_n 0, 1), (0, 0, 0)) := by decide +kernel
theorem xr_141_257 : X_row 141 257 = some (257, (.getfield 17, 3), (11, 8, 16)) := by decide +kernel
theorem xr_141_260 : X_row 141 260 = some (260, (.aload_n 0, 1), (0, 0, 0)) := by decide +kernel
theorem xr_141_261 : X_row 141 261 = some (261, (.getfield 20, 3), (11, 7, 14)) := by decide +kernel
theorem xr_141_264 : X_row 141 264 = some (264, (.isub, 1), (0, 0, 0)) := by decide +kernel
theorem xr_141_265 : X_row 141 265 = some (265, (.bipush 8, 2), (0, 0, 0)) := by decide +kernel
theorem xr_141_267 : X_row 141 267 = some (267, (.if_icmp .le 7, 3), (0, 0, 0)) := by decide +kernel
theorem xr_141_270 : X_row 141 270 = some (270, (.iconst 1, 1), (0, 0, 0)) := by decide +kernel
theorem xr_141_271 : X_row 141 271 = some (271, (.goto 12, 3), (0, 0, 0)) := by decide +kernel
theorem xr_141_274 : X_row 141 274 = some (274, (.iload_n 2, 1), (0, 0, 0)) := by decide +kernel
theorem xr_141_275 : X_row 141 275 = some (275, (.ifCond .eq 7, 3), (0, 0, 0)) := by decide +kernel
theorem xr_141_278 : X_row 141 278 = some (278, (.iconst 3, 1), (0, 0, 0)) := by decide +kernel
theorem xr_141_279 : X_row 141 279 = some (279, (.goto 4, 3), (0, 0, 0)) := by decide +kernel
theorem xr_141_282 : X_row 141 282 = some (282, (.iconst 2, 1), (0, 0, 0)) := by decide +kernel
theorem xr_141_283 : X_row 141 283 = some (283, (.putfield 27, 3), (11, 9, 18)) := by decide +kernel
theorem xr_141_286 : X_row 141 286 = some (286, (.goto 265, 3), (0, 0, 0)) := by decide +kernel
theorem xr_141_289 : X_row 141 289 = some (289, (.iload_n 1, 1), (0, 0, 0)) := by decide +kernel
theorem xr_141_290 : X_row 141 290 = some (290, (.invokestatic 34, 3), (138, 6, 0)) := by decide +kernel
theorem xr_141_293 : X_row 141 293 = some (293, (.ifCond .eq 128, 3), (0, 0, 0)) := by decide +kernel
theorem xr_141_296 : X_row 141 296 = some (296, (.aload_n 0, 1), (0, 0, 0)) := by decide +kernel
theorem xr_141_297 : X_row 141 297 = some (297, (.iconst 0, 1), (0, 0, 0)) := by decide +kernel
theorem xr_141_298 : X_row 141 298 = some (298, (.putfield 59, 3), (11, 10, 20)) := by decide +kernel
theorem xr_141_301 : X_row 141 301 = some (301, (.aload_n 0, 1), (0, 0, 0)) := by decide +kernel
theorem xr_141_302 : X_row 141 302 = some (302, (.aload_n 0, 1), (0, 0, 0)) := by decide +kernel
theorem xr_141_303 : X_row 141 303 = some (303, (.getfield 20, 3), (11, 7, 14)) := by decide +kernel
theorem xr_141_306 : X_row 141 306 = some (306, (.putfield 17, 3), (11, 8, 16)) := by decide +kernel
theorem xr_141_309 : X_row 141 309 = some (309, (.aload_n 0, 1), (0, 0, 0)) := by decide +kernel
theorem xr_141_310 : X_row 141 310 = some (310, (.aload_n 0, 1), (0, 0, 0)) := by decide +kernel
theorem xr_141_311 : X_row 141 311 = some (311, (.getfield 17, 3), (11, 8, 16)) := by decide +kernel
theorem xr_141_314 : X_row 141 314 = some (314, (.invokevirtual 23, 3), (136, 2, 0)) := by decide +kernel
theorem xr_141_317 : X_row 141 317 = some (317, (.invokestatic 34, 3), (138, 6, 0)) := by decide +kernel
theorem xr_141_320 : X_row 141 320 = some (320, (.ifCond .eq 53, 3), (0, 0, 0)) := by decide +kernel
theorem xr_141_323 : X_row 141 323 = some (323, (.aload_n 0, 1), (0, 0, 0)) := by decide +kernel
theorem xr_141_324 : X_row 141 324 = some (324, (.getfield 17, 3), (11, 8, 16)) := by decide +kernel
theorem xr_141_327 : X_row 141 327 = some (327, (.aload_n 0, 1), (0, 0, 0)) := by decide +kernel
theorem xr_141_328 : X_row 141 328 = some (328, (.getfield 20, 3), (11, 7, 14)) := by decide +kernel
theorem xr_141_331 : X_row 141 331 = some (331, (.isub, 1), (0, 0, 0)) := by decide +kernel
theorem xr_141_332 : X_row 141 332 = some (332, (.bipush 9, 2), (0, 0, 0)) := by decide +kernel
theorem xr_141_334 : X_row 141 334 = some (334, (.if_icmp .ge 26, 3), (0, 0, 0)) := by decide +kernel
theorem xr_141_337 : X_row 141 337 = some (337, (.aload_n 0, 1), (0, 0, 0)) := by decide +kernel
theorem xr_141_338 : X_row 141 338 = some (338, (.bipush 10, 2), (0, 0, 0)) := by decide +kernel
theorem xr_141_340 : X_row 141 340 = some (340, (.aload_n 0, 1), (0, 0, 0)) := by decide +kernel
theorem xr_141_341 : X_row 141 341 = some (341, (.getfield 59, 3), (11, 10, 20)) := by decide +kernel
theorem xr_141_344 : X_row 141 344 = some (344, (.imul, 1), (0, 0, 0)) := by decide +kernel
theorem xr_141_345 : X_row 141 345 = some (345, (.aload_n 0, 1), (0, 0, 0)) := by decide +kernel
theorem xr_141_346 : X_row 141 346 = some (346, (.aload_n 0, 1), (0, 0, 0)) := by decide +kernel
theorem xr_141_347 : X_row 141 347 = some (347, (.getfield 17, 3), (11, 8, 16)) := by decide +kernel
theorem xr_141_350 : X_row 141 350 = some (350, (.invokevirtual 23, 3), (136, 2, 0)) := by decide +kernel
theorem xr_141_353 : X_row 141 353 = some (353, (.iadd, 1), (0, 0, 0)) := by decide +kernel
theorem xr_141_354 : X_row 141 354 = some (354, (.bipush 48, 2), (0, 0, 0)) := by decide +kernel
theorem xr_141_356 : X_row 141 356 = some (356, (.isub, 1), (0, 0, 0)) := by decide +kernel
theorem xr_141_357 : X_row 141 357 = some (357, (.putfield 59, 3), (11, 10, 20)) := by decide +kernel
theorem xr_141_360 : X_row 141 360 = some (360, (.aload_n 0, 1), (0, 0, 0)) := by decide +kernel
theorem xr_141_361 : X_row 141 361 = some (361, (.dup, 1), (0, 0, 0)) := by decide +kernel
theorem xr_141_362 : X_row 141 362 = some (362, (.getfield 17, 3), (11, 8, 16)) := by decide +kernel
theorem xr_141_365 : X_row 141 365 = some (365, (.iconst 1, 1), (0, 0, 0)) := by decide +kernel
theorem xr_141_366 : X_row 141 366 = some (366, (.iadd, 1), (0, 0, 0)) := by decide +kernel
theorem xr_141_367 : X_row 141 367 = some (367, (.putfield 17, 3), (11, 8, 16)) := by decide +kernel
theorem xr_141_370 : X_row 141 370 = some (370, (.goto (-61), 3), (0, 0, 0)) := by decide +kernel
theorem xr_141_373 : X_row 141 373 = some (373, (.aload_n 0, 1), (0, 0, 0)) := by decide +kernel
theorem xr_141_374 : X_row 141 374 = some (374, (.aload_n 0, 1), (0, 0, 0)) := by decide +kernel
theorem xr_141_375 : X_row 141 375 = some (375, (.getfield 17, 3), (11, 8, 16)) := by decide +kernel
theorem xr_141_378 : X_row 141 378 = some (378, (.aload_n 0, 1), (0, 0, 0)) := by decide +kernel
theorem xr_141_379 : X_row 141 379 = some (379, (.getfield 20, 3), (11, 7, 14)) := by decide +kernel
theorem xr_141_382 : X_row 141 382 = some (382, (.isub, 1), (0, 0, 0)) := by decide +kernel
theorem xr_141_383 : X_row 141 383 = some (383, (.putfield 62, 3), (11, 11, 22)) := by decide +kernel
theorem xr_141_386 : X_row 141 386 = some (386, (.aload_n 0, 1), (0, 0, 0)) := by decide +kernel
theorem xr_141_387 : X_row 141 387 = some (387, (.aload_n 0, 1), (0, 0, 0)) := by decide +kernel
theorem xr_141_388 : X_row 141 388 = some (388, (.getfield 62, 3), (11, 11, 22)) := by decide +kernel
theorem xr_141_391 : X_row 141 391 = some (391, (.bipush 9, 2), (0, 0, 0)) := by decide +kernel
theorem xr_141_393 : X_row 141 393 = some (393, (.if_icmp .gt 17, 3), (0, 0, 0)) := by decide +kernel
theorem xr_141_396 : X_row 141 396 = some (396, (.aload_n 0, 1), (0, 0, 0)) := by decide +kernel
theorem xr_141_397 : X_row 141 397 = some (397, (.aload_n 0, 1), (0, 0, 0)) := by decide +kernel
theorem xr_141_398 : X_row 141 398 = some (398, (.getfield 17, 3), (11, 8, 16)) := by decide +kernel
theorem xr_141_401 : X_row 141 401 = some (401, (.invokevirtual 23, 3), (136, 2, 0)) := by decide +kernel
theorem xr_141_404 : X_row 141 404 = some (404, (.invokestatic 30, 3), (137, 4, 0)) := by decide +kernel
theorem xr_141_407 : X_row 141 407 = some (407, (.ifCond .eq 7, 3), (0, 0, 0)) := by decide +kernel
theorem xr_141_410 : X_row 141 410 = some (410, (.iconst 1, 1), (0, 0, 0)) := by decide +kernel
theorem xr_141_411 : X_row 141 411 = some (411, (.goto 4, 3), (0, 0, 0)) := by decide +kernel
theorem xr_141_414 : X_row 141 414 = some (414, (.iconst 4, 1), (0, 0, 0)) := by decide +kernel
theorem xr_141_415 : X_row 141 415 = some (415, (.putfield 27, 3), (11, 9, 18)) := by decide +kernel
theorem xr_141_418 : X_row 141 418 = some (418, (.goto 133, 3), (0, 0, 0)) := by decide +kernel
theorem xr_141_421 : X_row 141 421 = some (421, (.iload_n 1, 1), (0, 0, 0)) := by decide +kernel
theorem xr_141_422 : X_row 141 422 = some (422, (.bipush 34, 2), (0, 0, 0)) := by decide +kernel
theorem xr_141_424 : X_row 141 424 = some (424, (.if_icmp .ne 10, 3), (0, 0, 0)) := by decide +kernel
theorem xr_141_427 : X_row 141 427 = some (427, (.aload_n 0, 1), (0, 0, 0)) := by decide +kernel
theorem xr_141_428 : X_row 141 428 = some (428, (.invokevirtual 65, 3), (143, 10, 0)) := by decide +kernel
theorem xr_141_431 : X_row 141 431 = some (431, (.goto 120, 3), (0, 0, 0)) := by decide +kernel
theorem xr_141_434 : X_row 141 434 = some (434, (.iload_n 1, 1), (0, 0, 0)) := by decide +kernel
theorem xr_141_435 : X_row 141 435 = some (435, (.bipush 95, 2), (0, 0, 0)) := by decide +kernel
theorem xr_141_437 : X_row 141 437 = some (437, (.if_icmp .ne 44, 3), (0, 0, 0)) := by decide +kernel
theorem xr_141_440 : X_row 141 440 = some (440, (.aload_n 0, 1), (0, 0, 0)) := by decide +kernel
theorem xr_141_441 : X_row 141 441 = some (441, (.aload_n 0, 1), (0, 0, 0)) := by decide +kernel
theorem xr_141_442 : X_row 141 442 = some (442, (.aload_n 0, 1), (0, 0, 0)) := by decide +kernel
theorem xr_141_443 : X_row 141 443 = some (443, (.getfield 17, 3), (11, 8, 16)) := by decide +kernel
theorem xr_141_446 : X_row 141 446 = some (446, (.invokevirtual 23, 3), (136, 2, 0)) := by decide +kernel
theorem xr_141_449 : X_row 141 449 = some (449, (.invokestatic 30, 3), (137, 4, 0)) := by decide +kernel
theorem xr_141_452 : X_row 141 452 = some (452, (.ifCond .ne 17, 3), (0, 0, 0)) := by decide +kernel
theorem xr_141_455 : X_row 141 455 = some (455, (.aload_n 0, 1), (0, 0, 0)) := by decide +kernel
theorem xr_141_456 : X_row 141 456 = some (456, (.aload_n 0, 1), (0, 0, 0)) := by decide +kernel
theorem xr_141_457 : X_row 141 457 = some (457, (.getfield 17, 3), (11, 8, 16)) := by decide +kernel
theorem xr_141_460 : X_row 141 460 = some (460, (.invokevirtual 23, 3), (136, 2, 0)) := by decide +kernel
theorem xr_141_463 : X_row 141 463 = some (463, (.invokestatic 34, 3), (138, 6, 0)) := by decide +kernel
theorem xr_141_466 : X_row 141 466 = some (466, (.ifCond .eq 7, 3), (0, 0, 0)) := by decide +kernel
theorem xr_141_469 : X_row 141 469 = some (469, (.iconst 1, 1), (0, 0, 0)) := by decide +kernel
theorem xr_141_470 : X_row 141 470 = some (470, (.goto 5, 3), (0, 0, 0)) := by decide +kernel
theorem xr_141_473 : X_row 141 473 = some (473, (.bipush 6, 2), (0, 0, 0)) := by decide +kernel
theorem xr_141_475 : X_row 141 475 = some (475, (.putfield 27, 3), (11, 9, 18)) := by decide +kernel
theorem xr_141_478 : X_row 141 478 = some (478, (.goto 73, 3), (0, 0, 0)) := by decide +kernel
theorem xr_141_481 : X_row 141 481 = some (481, (.aload_n 0, 1), (0, 0, 0)) := by decide +kernel
theorem xr_141_482 : X_row 141 482 = some (482, (.iload_n 1, 1), (0, 0, 0)) := by decide +kernel
theorem xr_141_483 : X_row 141 483 = some (483, (.bipush 59, 2), (0, 0, 0)) := by decide +kernel
theorem xr_141_485 : X_row 141 485 = some (485, (.if_icmp .eq 57, 3), (0, 0, 0)) := by decide +kernel
theorem xr_141_488 : X_row 141 488 = some (488, (.iload_n 1, 1), (0, 0, 0)) := by decide +kernel
theorem xr_141_489 : X_row 141 489 = some (489, (.bipush 58, 2), (0, 0, 0)) := by decide +kernel
theorem xr_141_491 : X_row 141 491 = some (491, (.if_icmp .eq 51, 3), (0, 0, 0)) := by decide +kernel
theorem xr_141_494 : X_row 141 494 = some (494, (.iload_n 1, 1), (0, 0, 0)) := by decide +kernel
theorem xr_141_495 : X_row 141 495 = some (495, (.bipush 61, 2), (0, 0, 0)) := by decide +kernel
theorem xr_141_497 : X_row 141 497 = some (497, (.if_icmp .eq 45, 3), (0, 0, 0)) := by decide +kernel
theorem xr_141_500 : X_row 141 500 = some (500, (.iload_n 1, 1), (0, 0, 0)) := by decide +kernel
theorem xr_141_501 : X_row 141 501 = some (501, (.bipush 64, 2), (0, 0, 0)) := by decide +kernel
theorem xr_141_503 : X_row 141 503 = some (503, (.if_icmp .eq 39, 3), (0, 0, 0)) := by decide +kernel
theorem xr_141_506 : X_row 141 506 = some (506, (.iload_n 1, 1), (0, 0, 0)) := by decide +kernel
theorem xr_141_507 : X_row 141 507 = some (507, (.bipush 43, 2), (0, 0, 0)) := by decide +kernel
theorem xr_141_509 : X_row 141 509 = some (509, (.if_icmp .eq 33, 3), (0, 0, 0)) := by decide +kernel
theorem xr_141_512 : X_row 141 512 = some (512, (.iload_n 1, 1), (0, 0, 0)) := by decide +kernel
theorem xr_141_513 : X_row 141 513 = some (513, (.bipush 45, 2), (0, 0, 0)) := by decide +kernel
theorem xr_141_515 : X_row 141 515 = some (515, (.if_icmp .eq 27, 3), (0, 0, 0)) := by decide +kernel
theorem xr_141_518 : X_row 141 518 = some (518, (.iload_n 1, 1), (0, 0, 0)) := by decide +kernel
theorem xr_141_519 : X_row 141 519 = some (519, (.bipush 42, 2), (0, 0, 0)) := by decide +kernel
theorem xr_141_521 : X_row 141 521 = some (521, (.if_icmp .eq 21, 3), (0, 0, 0)) := by decide +kernel
theorem xr_141_524 : X_row 141 524 = some (524, (.iload_n 1, 1), (0, 0, 0)) := by decide +kernel
theorem xr_141_525 : X_row 141 525 = some (525, (.bipush 47, 2), (0, 0, 0)) := by decide +kernel
theorem xr_141_527 : X_row 141 527 = some (527, (.if_icmp .eq 15, 3), (0, 0, 0)) := by decide +kernel
theorem xr_141_530 : X_row 141 530 = some (530, (.iload_n 1, 1), (0, 0, 0)) := by decide +kernel
theorem xr_141_531 : X_row 141 531 = some (531, (.bipush 37, 2), (0, 0, 0)) := by decide +kernel
theorem xr_141_533 : X_row 141 533 = some (533, (.if_icmp .eq 9, 3), (0, 0, 0)) := by decide +kernel
theorem xr_141_536 : X_row 141 536 = some (536, (.iload_n 1, 1), (0, 0, 0)) := by decide +kernel
theorem xr_141_537 : X_row 141 537 = some (537, (.bipush 60, 2), (0, 0, 0)) := by decide +kernel
theorem xr_141_539 : X_row 141 539 = some (539, (.if_icmp .ne 8, 3), (0, 0, 0)) := by decide +kernel
theorem xr_141_542 : X_row 141 542 = some (542, (.bipush 6, 2), (0, 0, 0)) := by decide +kernel
theorem xr_141_544 : X_row 141 544 = some (544, (.goto 4, 3), (0, 0, 0)) := by decide +kernel
theorem xr_141_547 : X_row 141 547 = some (547, (.iconst 1, 1), (0, 0, 0)) := by decide +kernel
theorem xr_141_548 : X_row 141 548 = some (548, (.putfield 27, 3), (11, 9, 18)) := by decide +kernel
theorem xr_141_551 : X_row 141 551 = some (551, (.return_, 1), (0, 0, 0)) := by decide +kernel
theorem xr_143_0 : X_row 143 0 = some (0, (.iconst 0, 1), (0, 0, 0)) := by decide +kernel
theorem xr_143_1 : X_row 143 1 = some (1, (.istore_n 1, 1), (0, 0, 0)) := by decide +kernel
theorem xr_143_2 : X_row 143 2 = some (2, (.aload_n 0, 1), (0, 0, 0)) := by decide +kernel
theorem xr_143_3 : X_row 143 3 = some (3, (.getfield 17, 3), (11, 8, 16)) := by decide +kernel
theorem xr_143_6 : X_row 143 6 = some (6, (.aload_n 0, 1), (0, 0, 0)) := by decide +kernel
theorem xr_143_7 : X_row 143 7 = some (7, (.getfield 1, 3), (11, 3, 6)) := by decide +kernel
theorem xr_143_10 : X_row 143 10 = some (10, (.if_icmp .ge 54, 3), (0, 0, 0)) := by decide +kernel
theorem xr_143_13 : X_row 143 13 = some (13, (.aload_n 0, 1), (0, 0, 0)) := by decide +kernel
theorem xr_143_14 : X_row 143 14 = some (14, (.aload_n 0, 1), (0, 0, 0)) := by decide +kernel
theorem xr_143_15 : X_row 143 15 = some (15, (.getfield 17, 3), (11, 8, 16)) := by decide +kernel
theorem xr_143_18 : X_row 143 18 = some (18, (.invokevirtual 23, 3), (136, 2, 0)) := by decide +kernel
theorem xr_143_21 : X_row 143 21 = some (21, (.invokestatic 69, 3), (144, 12, 0)) := by decide +kernel
theorem xr_143_24 : X_row 143 24 = some (24, (.ifCond .eq 40, 3), (0, 0, 0)) := by decide +kernel
theorem xr_143_27 : X_row 143 27 = some (27, (.iload_n 1, 1), (0, 0, 0)) := by decide +kernel
theorem xr_143_28 : X_row 143 28 = some (28, (.ifCond .ne 17, 3), (0, 0, 0)) := by decide +kernel
theorem xr_143_31 : X_row 143 31 = some (31, (.aload_n 0, 1), (0, 0, 0)) := by decide +kernel
theorem xr_143_32 : X_row 143 32 = some (32, (.aload_n 0, 1), (0, 0, 0)) := by decide +kernel
theorem xr_143_33 : X_row 143 33 = some (33, (.getfield 17, 3), (11, 8, 16)) := by decide +kernel
theorem xr_143_36 : X_row 143 36 = some (36, (.invokevirtual 23, 3), (136, 2, 0)) := by decide +kernel
theorem xr_143_39 : X_row 143 39 = some (39, (.invokestatic 34, 3), (138, 6, 0)) := by decide +kernel
theorem xr_143_42 : X_row 143 42 = some (42, (.ifCond .ne 7, 3), (0, 0, 0)) := by decide +kernel
theorem xr_143_45 : X_row 143 45 = some (45, (.iconst 1, 1), (0, 0, 0)) := by decide +kernel
theorem xr_143_46 : X_row 143 46 = some (46, (.goto 4, 3), (0, 0, 0)) := by decide +kernel
theorem xr_143_49 : X_row 143 49 = some (49, (.iconst 0, 1), (0, 0, 0)) := by decide +kernel
theorem xr_143_50 : X_row 143 50 = some (50, (.istore_n 1, 1), (0, 0, 0)) := by decide +kernel
theorem xr_143_51 : X_row 143 51 = some (51, (.aload_n 0, 1), (0, 0, 0)) := by decide +kernel
theorem xr_143_52 : X_row 143 52 = some (52, (.dup, 1), (0, 0, 0)) := by decide +kernel
theorem xr_143_53 : X_row 143 53 = some (53, (.getfield 17, 3), (11, 8, 16)) := by decide +kernel
theorem xr_143_56 : X_row 143 56 = some (56, (.iconst 1, 1), (0, 0, 0)) := by decide +kernel
theorem xr_143_57 : X_row 143 57 = some (57, (.iadd, 1), (0, 0, 0)) := by decide +kernel
theorem xr_143_58 : X_row 143 58 = some (58, (.putfield 17, 3), (11, 8, 16)) := by decide +kernel
theorem xr_143_61 : X_row 143 61 = some (61, (.goto (-59), 3), (0, 0, 0)) := by decide +kernel
theorem xr_143_64 : X_row 143 64 = some (64, (.aload_n 0, 1), (0, 0, 0)) := by decide +kernel
theorem xr_143_65 : X_row 143 65 = some (65, (.getfield 17, 3), (11, 8, 16)) := by decide +kernel
theorem xr_143_68 : X_row 143 68 = some (68, (.aload_n 0, 1), (0, 0, 0)) := by decide +kernel
theorem xr_143_69 : X_row 143 69 = some (69, (.getfield 20, 3), (11, 7, 14)) := by decide +kernel
theorem xr_143_72 : X_row 143 72 = some (72, (.isub, 1), (0, 0, 0)) := by decide +kernel
theorem xr_143_73 : X_row 143 73 = some (73, (.iconst 1, 1), (0, 0, 0)) := by decide +kernel
theorem xr_143_74 : X_row 143 74 = some (74, (.isub, 1), (0, 0, 0)) := by decide +kernel
theorem xr_143_75 : X_row 143 75 = some (75, (.istore_n 2, 1), (0, 0, 0)) := by decide +kernel
theorem xr_143_76 : X_row 143 76 = some (76, (.aload_n 0, 1), (0, 0, 0)) := by decide +kernel
theorem xr_143_77 : X_row 143 77 = some (77, (.aload_n 0, 1), (0, 0, 0)) := by decide +kernel
theorem xr_143_78 : X_row 143 78 = some (78, (.aload_n 0, 1), (0, 0, 0)) := by decide +kernel
theorem xr_143_79 : X_row 143 79 = some (79, (.getfield 17, 3), (11, 8, 16)) := by decide +kernel
theorem xr_143_82 : X_row 143 82 = some (82, (.invokevirtual 23, 3), (136, 2, 0)) := by decide +kernel
theorem xr_143_85 : X_row 143 85 = some (85, (.bipush 34, 2), (0, 0, 0)) := by decide +kernel
theorem xr_143_87 : X_row 143 87 = some (87, (.if_icmp .ne 21, 3), (0, 0, 0)) := by decide +kernel
theorem xr_143_90 : X_row 143 90 = some (90, (.iload_n 2, 1), (0, 0, 0)) := by decide +kernel
theorem xr_143_91 : X_row 143 91 = some (91, (.ifCond .le 17, 3), (0, 0, 0)) := by decide +kernel
theorem xr_143_94 : X_row 143 94 = some (94, (.iload_n 2, 1), (0, 0, 0)) := by decide +kernel
theorem xr_143_95 : X_row 143 95 = some (95, (.bipush 9, 2), (0, 0, 0)) := by decide +kernel
theorem xr_143_97 : X_row 143 97 = some (97, (.if_icmp .ge 11, 3), (0, 0, 0)) := by decide +kernel
theorem xr_143_100 : X_row 143 100 = some (100, (.iload_n 1, 1), (0, 0, 0)) := by decide +kernel
theorem xr_143_101 : X_row 143 101 = some (101, (.ifCond .eq 7, 3), (0, 0, 0)) := by decide +kernel
theorem xr_143_104 : X_row 143 104 = some (104, (.iconst 5, 1), (0, 0, 0)) := by decide +kernel
theorem xr_143_105 : X_row 143 105 = some (105, (.goto 4, 3), (0, 0, 0)) := by decide +kernel
theorem xr_143_108 : X_row 143 108 = some (108, (.iconst 1, 1), (0, 0, 0)) := by decide +kernel
theorem xr_143_109 : X_row 143 109 = some (109, (.putfield 27, 3), (11, 9, 18)) := by decide +kernel
theorem xr_143_112 : X_row 143 112 = some (112, (.aload_n 0, 1), (0, 0, 0)) := by decide +kernel
theorem xr_143_113 : X_row 143 113 = some (113, (.aload_n 0, 1), (0, 0, 0)) := by decide +kernel
theorem xr_143_114 : X_row 143 114 = some (114, (.getfield 20, 3), (11, 7, 14)) := by decide +kernel
theorem xr_143_117 : X_row 143 117 = some (117, (.iconst 1, 1), (0, 0, 0)) := by decide +kernel
theorem xr_143_118 : X_row 143 118 = some (118, (.iadd, 1), (0, 0, 0)) := by decide +kernel
theorem xr_143_119 : X_row 143 119 = some (119, (.aload_n 0, 1), (0, 0, 0)) := by decide +kernel
theorem xr_143_120 : X_row 143 120 = some (120, (.getfield 17, 3), (11, 8, 16)) := by decide +kernel
theorem xr_143_123 : X_row 143 123 = some (123, (.invokevirtual 37, 3), (142, 8, 0)) := by decide +kernel
theorem xr_143_126 : X_row 143 126 = some (126, (.aload_n 0, 1), (0, 0, 0)) := by decide +kernel
theorem xr_143_127 : X_row 143 127 = some (127, (.dup, 1), (0, 0, 0)) := by decide +kernel
theorem xr_143_128 : X_row 143 128 = some (128, (.getfield 17, 3), (11, 8, 16)) := by decide +kernel
theorem xr_143_131 : X_row 143 131 = some (131, (.iconst 1, 1), (0, 0, 0)) := by decide +kernel
theorem xr_143_132 : X_row 143 132 = some (132, (.iadd, 1), (0, 0, 0)) := by decide +kernel
theorem xr_143_133 : X_row 143 133 = some (133, (.putfield 17, 3), (11, 8, 16)) := by decide +kernel
theorem xr_143_136 : X_row 143 136 = some (136, (.return_, 1), (0, 0, 0)) := by decide +kernel
theorem xn_141 : X_nL 141 = 3 := by decide +kernel
theorem xf_141 : X_na 141 = 0 ∧ X_ci 141 = 11 ∧ X_rt 141 = none := by decide +kernel
theorem xn_143 : X_nL 143 = 3 := by decide +kernel
theorem xf_143 : X_na 143 = 0 ∧ X_ci 143 = 11 ∧ X_rt 143 = none := by decide +kernel
theorem r_nextPart (sc : X_Sc) (S : X_S) (o : Nat → Int) (nm : Int64) (tx : Int → Int) (tb : Int → Int) (len : Int) (p : Int) (hM : M_o S o nm) (hA532 : S.1 532 = .inl (.byte, 2000, .inl fun k : Nat => iI (tx (k : Int)))) (hlen : o 3 = len) (hl : 0 ≤ len ∧ len ≤ 2000) (htx : ∀ k, 0 ≤ k → k < len → tx k = tb k) (hp1 : o 7 = p) (hp2 : o 8 = p + 1) (hp3 : 0 ≤ p ∧ p < len) (hp4 : X_at tb len p = 34) : X_T sc 143 (0, [(0, .ref 530)], [], S) (fun v S' => ∃ (en1 : Int) (tk1 : Int) (nm1 : Int64) (r1 : Int) (ct1 : Int64) (e1 : Int), v = none ∧ X_TokP tb len p r1 ct1 e1 ∧ tk1 = X_rk r1 ∧ (¬ r1 = 1 → en1 = e1 ∧ nm1 = ct1) ∧ (p + 1 ≤ en1 ∧ en1 ≤ len + 1) ∧ M_o S' (X_ou (X_ou o 8 en1) 9 tk1) nm1 ∧ X_Fr (fun q => q = 530) S S') := by
  refine X_QI (fun Q hQ => ?_)
  refine T_p xr_143_0 xn_143 (pc' := 1) (ls' := [(0, .ref 530)]) (st' := [.int (iI 0)]) rfl ?_
  refine T_ie (y := iI (bI (¬ X_DA tb len (p + 1) (o 8)))) (by rw [bI_f (fun z => z (fun k g1 g2 => (show False by omega).elim))]) ?_
  refine T_p xr_143_1 xn_143 (pc' := 2) (ls' := [(1, .int (iI (bI (¬ X_DA tb len (p + 1) (o 8))))), (0, .ref 530)]) (st' := []) rfl ?_
  have L35 : ∀ (m37 : Nat) (S40 : X_S) (en : Int) (hM1 : S40.1 530 = .inr (11, [.ref 531, .int (iI (o 1)), .ref 532, .int (iI (o 3)), .int (iI (o 4)), .int (iI (o 5)), .int (iI (o 6)), .int (iI (o 7)), .int (iI en), .int (iI (o 9)), .int (iI (o 10)), .int (iI (o 11)), .long nm, .ref 533, .ref 534, .ref 535, .ref 536, .ref 537, .ref 538, .ref 539, .ref 540, .ref 541, .ref 542, .ref 543, .ref 544, .ref 545, .ref 546, .ref 547, .int (iI (o 28)), .int (iI (o 29)), .int (iI (o 30)), .int (iI (o 31)), .int (iI (o 32)), .int (iI (o 33)), .ref 548, .ref 549, .ref 550, .ref 551, .int (iI (o 38)), .ref 552, .ref 553, .ref 554, .ref 555, .ref 556, .ref 557, .ref 558, .ref 559, .ref 560, .ref 561, .int (iI (o 49)), .ref 562, .ref 563, .ref 564, .ref 565, .ref 566, .ref 567, .ref 568, .ref 569, .int (iI (o 58)), .ref 570, .ref 571, .ref 572, .ref 573, .ref 574, .ref 575, .ref 576, .ref 577, .ref 578, .int (iI (o 68)), .int (iI (o 69)), .int (iI (o 70)), .ref 579])) (hF39 : X_Fr (fun q => q = 530) S S40) (hen : p + 1 ≤ en ∧ en ≤ len) (hse : X_se X_isPB tb len en = X_se X_isPB tb len (p + 1)) (hm38 : len - en < m37), X_T sc 143 (2, [(1, .int (iI (bI (¬ X_DA tb len (p + 1) en)))), (0, .ref 530)], [], S40) Q := by
    intro m37
    induction m37 with
    | zero =>
      intro S40 en hM1 hF39 hen hse hm38
      exact (show False by omega).elim
    | succ m37 ih36 =>
      intro S40 en hM1 hF39 hen hse hm38
      refine T_p xr_143_2 xn_143 (pc' := 3) (ls' := [(1, .int (iI (bI (¬ X_DA tb len (p + 1) en)))), (0, .ref 530)]) (st' := [.ref 530]) rfl ?_
      refine T_get xr_143_3 hM1 rfl (v := .int (iI en)) rfl (pc' := 6) rfl ?_
      refine T_p xr_143_6 xn_143 (pc' := 7) (ls' := [(1, .int (iI (bI (¬ X_DA tb len (p + 1) en)))), (0, .ref 530)]) (st' := [.ref 530, .int (iI en)]) rfl ?_
      refine T_get xr_143_7 hM1 rfl (v := .int (iI (o 3))) rfl (pc' := 10) rfl ?_
      refine T_zicmp_ge xr_143_10 (t := 64) (pc' := 13) rfl rfl (fun c41 => ?_) (fun c41 => ?_)
      · skip
        have c41 : (o 3) ≤ en := c41
        have hm : X_se X_isPB tb len (p + 1) = en := hse.symm.trans (X_se_no (by first | (intro h; omega) | (intro h; exact absurd (X_sg_B.mpr h) (by assumption))))
        refine T_p xr_143_64 xn_143 (pc' := 65) (ls' := [(1, .int (iI (bI (¬ X_DA tb len (p + 1) en)))), (0, .ref 530)]) (st' := [.ref 530]) rfl ?_
        refine T_get xr_143_65 hM1 rfl (v := .int (iI en)) rfl (pc' := 68) rfl ?_
        refine T_p xr_143_68 xn_143 (pc' := 69) (ls' := [(1, .int (iI (bI (¬ X_DA tb len (p + 1) en)))), (0, .ref 530)]) (st' := [.ref 530, .int (iI en)]) rfl ?_
        refine T_get xr_143_69 hM1 rfl (v := .int (iI (o 7))) rfl (pc' := 72) rfl ?_
        refine T_zisub xr_143_72 (z := en - (o 7)) rfl (pc' := 73) rfl ?_
        refine T_p xr_143_73 xn_143 (pc' := 74) (ls' := [(1, .int (iI (bI (¬ X_DA tb len (p + 1) en)))), (0, .ref 530)]) (st' := [.int (iI 1), .int (iI (en - (o 7)))]) rfl ?_
        refine T_zisub xr_143_74 (z := (en - (o 7)) - 1) rfl (pc' := 75) rfl ?_
        refine T_p xr_143_75 xn_143 (pc' := 76) (ls' := [(2, .int (iI ((en - (o 7)) - 1))), (1, .int (iI (bI (¬ X_DA tb len (p + 1) en)))), (0, .ref 530)]) (st' := []) rfl ?_
        refine T_p xr_143_76 xn_143 (pc' := 77) (ls' := [(2, .int (iI ((en - (o 7)) - 1))), (1, .int (iI (bI (¬ X_DA tb len (p + 1) en)))), (0, .ref 530)]) (st' := [.ref 530]) rfl ?_
        refine T_p xr_143_77 xn_143 (pc' := 78) (ls' := [(2, .int (iI ((en - (o 7)) - 1))), (1, .int (iI (bI (¬ X_DA tb len (p + 1) en)))), (0, .ref 530)]) (st' := [.ref 530, .ref 530]) rfl ?_
        refine T_p xr_143_78 xn_143 (pc' := 79) (ls' := [(2, .int (iI ((en - (o 7)) - 1))), (1, .int (iI (bI (¬ X_DA tb len (p + 1) en)))), (0, .ref 530)]) (st' := [.ref 530, .ref 530, .ref 530]) rfl ?_
        refine T_get xr_143_79 hM1 rfl (v := .int (iI en)) rfl (pc' := 82) rfl ?_
        refine T_cv (S := S40) (q := 530) xr_143_82 xf_136.1 xf_136.2.1 xn_136 (as := [.int (iI en)]) (r := [.ref 530]) rfl hM1 (Nat.le_of_ble_eq_true rfl) (Nat.le_of_ble_eq_true rfl) (pc' := 85) rfl (ls' := [(0, .ref 530), (1, .int (iI en))]) rfl ?_
        have h42 := (hF39.1 532 (by omega)).trans (hA532)
        refine T_mono (r_sign sc S40 (X_ou o 8 en) nm tx tb len en hM1 h42 (show (o 3) = len from by first | assumption | omega) hl htx (by omega)) (fun v43 S44 h45 => ?_)
        rcases h45 with ⟨hv46, hf47⟩
        rw [hv46]
        rw [hf47]
        have hg48 := X_sg_r (tb := tb) (len := len) (k := en) (by omega)
        have hg49 := X_sg_c (tb := tb) (len := len) (k := en)
        show X_T sc 143 (85, [(2, .int (iI ((en - (o 7)) - 1))), (1, .int (iI (bI (¬ X_DA tb len (p + 1) en)))), (0, .ref 530)], [.int (iI (X_sg tb len en)), .ref 530], S40) _
        refine T_p xr_143_85 xn_143 (pc' := 87) (ls' := [(2, .int (iI ((en - (o 7)) - 1))), (1, .int (iI (bI (¬ X_DA tb len (p + 1) en)))), (0, .ref 530)]) (st' := [.int (iI 34), .int (iI (X_sg tb len en)), .ref 530]) rfl ?_
        refine T_zicmp_ne xr_143_87 (t := 108) (pc' := 90) rfl rfl (fun c50 => ?_) (fun c50 => ?_)
        · skip
          have c50 : ¬ (X_sg tb len en) = 34 := c50
          refine T_p xr_143_108 xn_143 (pc' := 109) (ls' := [(2, .int (iI ((en - (o 7)) - 1))), (1, .int (iI (bI (¬ X_DA tb len (p + 1) en)))), (0, .ref 530)]) (st' := [.int (iI 1), .ref 530]) rfl ?_
          refine T_put xr_143_109 hM1 rfl (Nat.le_of_ble_eq_true rfl) rfl (fs' := [.ref 531, .int (iI (o 1)), .ref 532, .int (iI (o 3)), .int (iI (o 4)), .int (iI (o 5)), .int (iI (o 6)), .int (iI (o 7)), .int (iI en), .int (iI 1), .int (iI (o 10)), .int (iI (o 11)), .long nm, .ref 533, .ref 534, .ref 535, .ref 536, .ref 537, .ref 538, .ref 539, .ref 540, .ref 541, .ref 542, .ref 543, .ref 544, .ref 545, .ref 546, .ref 547, .int (iI (o 28)), .int (iI (o 29)), .int (iI (o 30)), .int (iI (o 31)), .int (iI (o 32)), .int (iI (o 33)), .ref 548, .ref 549, .ref 550, .ref 551, .int (iI (o 38)), .ref 552, .ref 553, .ref 554, .ref 555, .ref 556, .ref 557, .ref 558, .ref 559, .ref 560, .ref 561, .int (iI (o 49)), .ref 562, .ref 563, .ref 564, .ref 565, .ref 566, .ref 567, .ref 568, .ref 569, .int (iI (o 58)), .ref 570, .ref 571, .ref 572, .ref 573, .ref 574, .ref 575, .ref 576, .ref 577, .ref 578, .int (iI (o 68)), .int (iI (o 69)), .int (iI (o 70)), .ref 579]) rfl (pc' := 112) rfl (fun S51 h52 n53 e54 => ?_)
          refine T_p xr_143_112 xn_143 (pc' := 113) (ls' := [(2, .int (iI ((en - (o 7)) - 1))), (1, .int (iI (bI (¬ X_DA tb len (p + 1) en)))), (0, .ref 530)]) (st' := [.ref 530]) rfl ?_
          refine T_p xr_143_113 xn_143 (pc' := 114) (ls' := [(2, .int (iI ((en - (o 7)) - 1))), (1, .int (iI (bI (¬ X_DA tb len (p + 1) en)))), (0, .ref 530)]) (st' := [.ref 530, .ref 530]) rfl ?_
          refine T_get xr_143_114 h52 rfl (v := .int (iI (o 7))) rfl (pc' := 117) rfl ?_
          refine T_p xr_143_117 xn_143 (pc' := 118) (ls' := [(2, .int (iI ((en - (o 7)) - 1))), (1, .int (iI (bI (¬ X_DA tb len (p + 1) en)))), (0, .ref 530)]) (st' := [.int (iI 1), .int (iI (o 7)), .ref 530]) rfl ?_
          refine T_ziadd xr_143_118 (z := (o 7) + 1) rfl (pc' := 119) rfl ?_
          refine T_p xr_143_119 xn_143 (pc' := 120) (ls' := [(2, .int (iI ((en - (o 7)) - 1))), (1, .int (iI (bI (¬ X_DA tb len (p + 1) en)))), (0, .ref 530)]) (st' := [.ref 530, .int (iI ((o 7) + 1)), .ref 530]) rfl ?_
          refine T_get xr_143_120 h52 rfl (v := .int (iI en)) rfl (pc' := 123) rfl ?_
          refine T_cv (S := S51) (q := 530) xr_143_123 xf_142.1 xf_142.2.1 xn_142 (as := [.int (iI ((o 7) + 1)), .int (iI en)]) (r := []) rfl h52 (Nat.le_of_ble_eq_true rfl) (Nat.le_of_ble_eq_true rfl) (pc' := 126) rfl (ls' := [(0, .ref 530), (1, .int (iI ((o 7) + 1))), (2, .int (iI en))]) rfl ?_
          have h55 := (n53 532 (by decide)).trans (h42)
          refine T_mono (r_pack sc S51 (X_ou (X_ou o 8 en) 9 1) nm tx tb len ((o 7) + 1) en h52 h55 (show (o 3) = len from by first | assumption | omega) hl htx (by omega) (by omega)) (fun v56 S57 h58 => ?_)
          rcases h58 with ⟨nm59, hv60, hp61, hM62, hf63⟩
          rw [hv60]
          have h64 : S57.1 530 = .inr (11, [.ref 531, .int (iI (o 1)), .ref 532, .int (iI (o 3)), .int (iI (o 4)), .int (iI (o 5)), .int (iI (o 6)), .int (iI (o 7)), .int (iI en), .int (iI 1), .int (iI (o 10)), .int (iI (o 11)), .long nm59, .ref 533, .ref 534, .ref 535, .ref 536, .ref 537, .ref 538, .ref 539, .ref 540, .ref 541, .ref 542, .ref 543, .ref 544, .ref 545, .ref 546, .ref 547, .int (iI (o 28)), .int (iI (o 29)), .int (iI (o 30)), .int (iI (o 31)), .int (iI (o 32)), .int (iI (o 33)), .ref 548, .ref 549, .ref 550, .ref 551, .int (iI (o 38)), .ref 552, .ref 553, .ref 554, .ref 555, .ref 556, .ref 557, .ref 558, .ref 559, .ref 560, .ref 561, .int (iI (o 49)), .ref 562, .ref 563, .ref 564, .ref 565, .ref 566, .ref 567, .ref 568, .ref 569, .int (iI (o 58)), .ref 570, .ref 571, .ref 572, .ref 573, .ref 574, .ref 575, .ref 576, .ref 577, .ref 578, .int (iI (o 68)), .int (iI (o 69)), .int (iI (o 70)), .ref 579]) := hM62
          show X_T sc 143 (126, [(2, .int (iI ((en - (o 7)) - 1))), (1, .int (iI (bI (¬ X_DA tb len (p + 1) en)))), (0, .ref 530)], [], S57) _
          refine T_p xr_143_126 xn_143 (pc' := 127) (ls' := [(2, .int (iI ((en - (o 7)) - 1))), (1, .int (iI (bI (¬ X_DA tb len (p + 1) en)))), (0, .ref 530)]) (st' := [.ref 530]) rfl ?_
          refine T_p xr_143_127 xn_143 (pc' := 128) (ls' := [(2, .int (iI ((en - (o 7)) - 1))), (1, .int (iI (bI (¬ X_DA tb len (p + 1) en)))), (0, .ref 530)]) (st' := [.ref 530, .ref 530]) rfl ?_
          refine T_get xr_143_128 h64 rfl (v := .int (iI en)) rfl (pc' := 131) rfl ?_
          refine T_p xr_143_131 xn_143 (pc' := 132) (ls' := [(2, .int (iI ((en - (o 7)) - 1))), (1, .int (iI (bI (¬ X_DA tb len (p + 1) en)))), (0, .ref 530)]) (st' := [.int (iI 1), .int (iI en), .ref 530]) rfl ?_
          refine T_ziadd xr_143_132 (z := en + 1) rfl (pc' := 133) rfl ?_
          refine T_put xr_143_133 h64 rfl (Nat.le_of_ble_eq_true rfl) rfl (fs' := [.ref 531, .int (iI (o 1)), .ref 532, .int (iI (o 3)), .int (iI (o 4)), .int (iI (o 5)), .int (iI (o 6)), .int (iI (o 7)), .int (iI (en + 1)), .int (iI 1), .int (iI (o 10)), .int (iI (o 11)), .long nm59, .ref 533, .ref 534, .ref 535, .ref 536, .ref 537, .ref 538, .ref 539, .ref 540, .ref 541, .ref 542, .ref 543, .ref 544, .ref 545, .ref 546, .ref 547, .int (iI (o 28)), .int (iI (o 29)), .int (iI (o 30)), .int (iI (o 31)), .int (iI (o 32)), .int (iI (o 33)), .ref 548, .ref 549, .ref 550, .ref 551, .int (iI (o 38)), .ref 552, .ref 553, .ref 554, .ref 555, .ref 556, .ref 557, .ref 558, .ref 559, .ref 560, .ref 561, .int (iI (o 49)), .ref 562, .ref 563, .ref 564, .ref 565, .ref 566, .ref 567, .ref 568, .ref 569, .int (iI (o 58)), .ref 570, .ref 571, .ref 572, .ref 573, .ref 574, .ref 575, .ref 576, .ref 577, .ref 578, .int (iI (o 68)), .int (iI (o 69)), .int (iI (o 70)), .ref 579]) rfl (pc' := 136) rfl (fun S65 h66 n67 e68 => ?_)
          refine T_vret xr_143_136 xf_143.2.2 ?_
          refine hQ _ _ ?_
          exact ⟨en + 1, 1, nm59, 1, 0, en, rfl, ⟨hp4, en, hm.symm, Or.inl ⟨by first | exact Or.inl (by omega) | exact Or.inr (Or.inl (by omega)) | exact Or.inr (Or.inr (fun k g1 g2 => absurd g2 (by omega))) | exact Or.inr (Or.inr (Classical.not_not.mp (by assumption))), rfl, rfl, rfl⟩⟩, rfl, fun h => absurd rfl h, by first | assumption | omega, h66, ((((X_Fr.rf).tr (X_Fr.mono ⟨hF39.1, hF39.2⟩ (fun q hq => (by omega)))).tr (X_Fr.of n53 e54 (by omega))).tr (X_Fr.mono ⟨hf63.1, hf63.2⟩ (fun q hq => (by omega)))).tr (X_Fr.of n67 e68 (by omega))⟩
        · skip
          have c50 : ¬ (¬ (X_sg tb len en) = 34) := c50
          refine T_p xr_143_90 xn_143 (pc' := 91) (ls' := [(2, .int (iI ((en - (o 7)) - 1))), (1, .int (iI (bI (¬ X_DA tb len (p + 1) en)))), (0, .ref 530)]) (st' := [.int (iI ((en - (o 7)) - 1)), .ref 530]) rfl ?_
          refine T_zif_le xr_143_91 (t := 108) (pc' := 94) rfl rfl (fun c69 => ?_) (fun c69 => ?_)
          · skip
            have c69 : ((en - (o 7)) - 1) ≤ 0 := c69
            refine T_p xr_143_108 xn_143 (pc' := 109) (ls' := [(2, .int (iI ((en - (o 7)) - 1))), (1, .int (iI (bI (¬ X_DA tb len (p + 1) en)))), (0, .ref 530)]) (st' := [.int (iI 1), .ref 530]) rfl ?_
            refine T_put xr_143_109 hM1 rfl (Nat.le_of_ble_eq_true rfl) rfl (fs' := [.ref 531, .int (iI (o 1)), .ref 532, .int (iI (o 3)), .int (iI (o 4)), .int (iI (o 5)), .int (iI (o 6)), .int (iI (o 7)), .int (iI en), .int (iI 1), .int (iI (o 10)), .int (iI (o 11)), .long nm, .ref 533, .ref 534, .ref 535, .ref 536, .ref 537, .ref 538, .ref 539, .ref 540, .ref 541, .ref 542, .ref 543, .ref 544, .ref 545, .ref 546, .ref 547, .int (iI (o 28)), .int (iI (o 29)), .int (iI (o 30)), .int (iI (o 31)), .int (iI (o 32)), .int (iI (o 33)), .ref 548, .ref 549, .ref 550, .ref 551, .int (iI (o 38)), .ref 552, .ref 553, .ref 554, .ref 555, .ref 556, .ref 557, .ref 558, .ref 559, .ref 560, .ref 561, .int (iI (o 49)), .ref 562, .ref 563, .ref 564, .ref 565, .ref 566, .ref 567, .ref 568, .ref 569, .int (iI (o 58)), .ref 570, .ref 571, .ref 572, .ref 573, .ref 574, .ref 575, .ref 576, .ref 577, .ref 578, .int (iI (o 68)), .int (iI (o 69)), .int (iI (o 70)), .ref 579]) rfl (pc' := 112) rfl (fun S70 h71 n72 e73 => ?_)
            refine T_p xr_143_112 xn_143 (pc' := 113) (ls' := [(2, .int (iI ((en - (o 7)) - 1))), (1, .int (iI (bI (¬ X_DA tb len (p + 1) en)))), (0, .ref 530)]) (st' := [.ref 530]) rfl ?_
            refine T_p xr_143_113 xn_143 (pc' := 114) (ls' := [(2, .int (iI ((en - (o 7)) - 1))), (1, .int (iI (bI (¬ X_DA tb len (p + 1) en)))), (0, .ref 530)]) (st' := [.ref 530, .ref 530]) rfl ?_
            refine T_get xr_143_114 h71 rfl (v := .int (iI (o 7))) rfl (pc' := 117) rfl ?_
            refine T_p xr_143_117 xn_143 (pc' := 118) (ls' := [(2, .int (iI ((en - (o 7)) - 1))), (1, .int (iI (bI (¬ X_DA tb len (p + 1) en)))), (0, .ref 530)]) (st' := [.int (iI 1), .int (iI (o 7)), .ref 530]) rfl ?_
            refine T_ziadd xr_143_118 (z := (o 7) + 1) rfl (pc' := 119) rfl ?_
            refine T_p xr_143_119 xn_143 (pc' := 120) (ls' := [(2, .int (iI ((en - (o 7)) - 1))), (1, .int (iI (bI (¬ X_DA tb len (p + 1) en)))), (0, .ref 530)]) (st' := [.ref 530, .int (iI ((o 7) + 1)), .ref 530]) rfl ?_
            refine T_get xr_143_120 h71 rfl (v := .int (iI en)) rfl (pc' := 123) rfl ?_
            refine T_cv (S := S70) (q := 530) xr_143_123 xf_142.1 xf_142.2.1 xn_142 (as := [.int (iI ((o 7) + 1)), .int (iI en)]) (r := []) rfl h71 (Nat.le_of_ble_eq_true rfl) (Nat.le_of_ble_eq_true rfl) (pc' := 126) rfl (ls' := [(0, .ref 530), (1, .int (iI ((o 7) + 1))), (2, .int (iI en))]) rfl ?_
            have h74 := (n72 532 (by decide)).trans (h42)
            refine T_mono (r_pack sc S70 (X_ou (X_ou o 8 en) 9 1) nm tx tb len ((o 7) + 1) en h71 h74 (show (o 3) = len from by first | assumption | omega) hl htx (by omega) (by omega)) (fun v75 S76 h77 => ?_)
            rcases h77 with ⟨nm78, hv79, hp80, hM81, hf82⟩
            rw [hv79]
            have h83 : S76.1 530 = .inr (11, [.ref 531, .int (iI (o 1)), .ref 532, .int (iI (o 3)), .int (iI (o 4)), .int (iI (o 5)), .int (iI (o 6)), .int (iI (o 7)), .int (iI en), .int (iI 1), .int (iI (o 10)), .int (iI (o 11)), .long nm78, .ref 533, .ref 534, .ref 535, .ref 536, .ref 537, .ref 538, .ref 539, .ref 540, .ref 541, .ref 542, .ref 543, .ref 544, .ref 545, .ref 546, .ref 547, .int (iI (o 28)), .int (iI (o 29)), .int (iI (o 30)), .int (iI (o 31)), .int (iI (o 32)), .int (iI (o 33)), .ref 548, .ref 549, .ref 550, .ref 551, .int (iI (o 38)), .ref 552, .ref 553, .ref 554, .ref 555, .ref 556, .ref 557, .ref 558, .ref 559, .ref 560, .ref 561, .int (iI (o 49)), .ref 562, .ref 563, .ref 564, .ref 565, .ref 566, .ref 567, .ref 568, .ref 569, .int (iI (o 58)), .ref 570, .ref 571, .ref 572, .ref 573, .ref 574, .ref 575, .ref 576, .ref 577, .ref 578, .int (iI (o 68)), .int (iI (o 69)), .int (iI (o 70)), .ref 579]) := hM81
            show X_T sc 143 (126, [(2, .int (iI ((en - (o 7)) - 1))), (1, .int (iI (bI (¬ X_DA tb len (p + 1) en)))), (0, .ref 530)], [], S76) _
            refine T_p xr_143_126 xn_143 (pc' := 127) (ls' := [(2, .int (iI ((en - (o 7)) - 1))), (1, .int (iI (bI (¬ X_DA tb len (p + 1) en)))), (0, .ref 530)]) (st' := [.ref 530]) rfl ?_
            refine T_p xr_143_127 xn_143 (pc' := 128) (ls' := [(2, .int (iI ((en - (o 7)) - 1))), (1, .int (iI (bI (¬ X_DA tb len (p + 1) en)))), (0, .ref 530)]) (st' := [.ref 530, .ref 530]) rfl ?_
            refine T_get xr_143_128 h83 rfl (v := .int (iI en)) rfl (pc' := 131) rfl ?_
            refine T_p xr_143_131 xn_143 (pc' := 132) (ls' := [(2, .int (iI ((en - (o 7)) - 1))), (1, .int (iI (bI (¬ X_DA tb len (p + 1) en)))), (0, .ref 530)]) (st' := [.int (iI 1), .int (iI en), .ref 530]) rfl ?_
            refine T_ziadd xr_143_132 (z := en + 1) rfl (pc' := 133) rfl ?_
            refine T_put xr_143_133 h83 rfl (Nat.le_of_ble_eq_true rfl) rfl (fs' := [.ref 531, .int (iI (o 1)), .ref 532, .int (iI (o 3)), .int (iI (o 4)), .int (iI (o 5)), .int (iI (o 6)), .int (iI (o 7)), .int (iI (en + 1)), .int (iI 1), .int (iI (o 10)), .int (iI (o 11)), .long nm78, .ref 533, .ref 534, .ref 535, .ref 536, .ref 537, .ref 538, .ref 539, .ref 540, .ref 541, .ref 542, .ref 543, .ref 544, .ref 545, .ref 546, .ref 547, .int (iI (o 28)), .int (iI (o 29)), .int (iI (o 30)), .int (iI (o 31)), .int (iI (o 32)), .int (iI (o 33)), .ref 548, .ref 549, .ref 550, .ref 551, .int (iI (o 38)), .ref 552, .ref 553, .ref 554, .ref 555, .ref 556, .ref 557, .ref 558, .ref 559, .ref 560, .ref 561, .int (iI (o 49)), .ref 562, .ref 563, .ref 564, .ref 565, .ref 566, .ref 567, .ref 568, .ref 569, .int (iI (o 58)), .ref 570, .ref 571, .ref 572, .ref 573, .ref 574, .ref 575, .ref 576, .ref 577, .ref 578, .int (iI (o 68)), .int (iI (o 69)), .int (iI (o 70)), .ref 579]) rfl (pc' := 136) rfl (fun S84 h85 n86 e87 => ?_)
            refine T_vret xr_143_136 xf_143.2.2 ?_
            refine hQ _ _ ?_
            exact ⟨en + 1, 1, nm78, 1, 0, en, rfl, ⟨hp4, en, hm.symm, Or.inl ⟨by first | exact Or.inl (by omega) | exact Or.inr (Or.inl (by omega)) | exact Or.inr (Or.inr (fun k g1 g2 => absurd g2 (by omega))) | exact Or.inr (Or.inr (Classical.not_not.mp (by assumption))), rfl, rfl, rfl⟩⟩, rfl, fun h => absurd rfl h, by first | assumption | omega, h85, ((((X_Fr.rf).tr (X_Fr.mono ⟨hF39.1, hF39.2⟩ (fun q hq => (by omega)))).tr (X_Fr.of n72 e73 (by omega))).tr (X_Fr.mono ⟨hf82.1, hf82.2⟩ (fun q hq => (by omega)))).tr (X_Fr.of n86 e87 (by omega))⟩
          · skip
            have c69 : ¬ (((en - (o 7)) - 1) ≤ 0) := c69
            refine T_p xr_143_94 xn_143 (pc' := 95) (ls' := [(2, .int (iI ((en - (o 7)) - 1))), (1, .int (iI (bI (¬ X_DA tb len (p + 1) en)))), (0, .ref 530)]) (st' := [.int (iI ((en - (o 7)) - 1)), .ref 530]) rfl ?_
            refine T_p xr_143_95 xn_143 (pc' := 97) (ls' := [(2, .int (iI ((en - (o 7)) - 1))), (1, .int (iI (bI (¬ X_DA tb len (p + 1) en)))), (0, .ref 530)]) (st' := [.int (iI 9), .int (iI ((en - (o 7)) - 1)), .ref 530]) rfl ?_
            refine T_zicmp_ge xr_143_97 (t := 108) (pc' := 100) rfl rfl (fun c88 => ?_) (fun c88 => ?_)
            · skip
              have c88 : 9 ≤ ((en - (o 7)) - 1) := c88
              refine T_p xr_143_108 xn_143 (pc' := 109) (ls' := [(2, .int (iI ((en - (o 7)) - 1))), (1, .int (iI (bI (¬ X_DA tb len (p + 1) en)))), (0, .ref 530)]) (st' := [.int (iI 1), .ref 530]) rfl ?_
              refine T_put xr_143_109 hM1 rfl (Nat.le_of_ble_eq_true rfl) rfl (fs' := [.ref 531, .int (iI (o 1)), .ref 532, .int (iI (o 3)), .int (iI (o 4)), .int (iI (o 5)), .int (iI (o 6)), .int (iI (o 7)), .int (iI en), .int (iI 1), .int (iI (o 10)), .int (iI (o 11)), .long nm, .ref 533, .ref 534, .ref 535, .ref 536, .ref 537, .ref 538, .ref 539, .ref 540, .ref 541, .ref 542, .ref 543, .ref 544, .ref 545, .ref 546, .ref 547, .int (iI (o 28)), .int (iI (o 29)), .int (iI (o 30)), .int (iI (o 31)), .int (iI (o 32)), .int (iI (o 33)), .ref 548, .ref 549, .ref 550, .ref 551, .int (iI (o 38)), .ref 552, .ref 553, .ref 554, .ref 555, .ref 556, .ref 557, .ref 558, .ref 559, .ref 560, .ref 561, .int (iI (o 49)), .ref 562, .ref 563, .ref 564, .ref 565, .ref 566, .ref 567, .ref 568, .ref 569, .int (iI (o 58)), .ref 570, .ref 571, .ref 572, .ref 573, .ref 574, .ref 575, .ref 576, .ref 577, .ref 578, .int (iI (o 68)), .int (iI (o 69)), .int (iI (o 70)), .ref 579]) rfl (pc' := 112) rfl (fun S89 h90 n91 e92 => ?_)
              refine T_p xr_143_112 xn_143 (pc' := 113) (ls' := [(2, .int (iI ((en - (o 7)) - 1))), (1, .int (iI (bI (¬ X_DA tb len (p + 1) en)))), (0, .ref 530)]) (st' := [.ref 530]) rfl ?_
              refine T_p xr_143_113 xn_143 (pc' := 114) (ls' := [(2, .int (iI ((en - (o 7)) - 1))), (1, .int (iI (bI (¬ X_DA tb len (p + 1) en)))), (0, .ref 530)]) (st' := [.ref 530, .ref 530]) rfl ?_
              refine T_get xr_143_114 h90 rfl (v := .int (iI (o 7))) rfl (pc' := 117) rfl ?_
              refine T_p xr_143_117 xn_143 (pc' := 118) (ls' := [(2, .int (iI ((en - (o 7)) - 1))), (1, .int (iI (bI (¬ X_DA tb len (p + 1) en)))), (0, .ref 530)]) (st' := [.int (iI 1), .int (iI (o 7)), .ref 530]) rfl ?_
              refine T_ziadd xr_143_118 (z := (o 7) + 1) rfl (pc' := 119) rfl ?_
              refine T_p xr_143_119 xn_143 (pc' := 120) (ls' := [(2, .int (iI ((en - (o 7)) - 1))), (1, .int (iI (bI (¬ X_DA tb len (p + 1) en)))), (0, .ref 530)]) (st' := [.ref 530, .int (iI ((o 7) + 1)), .ref 530]) rfl ?_
              refine T_get xr_143_120 h90 rfl (v := .int (iI en)) rfl (pc' := 123) rfl ?_
              refine T_cv (S := S89) (q := 530) xr_143_123 xf_142.1 xf_142.2.1 xn_142 (as := [.int (iI ((o 7) + 1)), .int (iI en)]) (r := []) rfl h90 (Nat.le_of_ble_eq_true rfl) (Nat.le_of_ble_eq_true rfl) (pc' := 126) rfl (ls' := [(0, .ref 530), (1, .int (iI ((o 7) + 1))), (2, .int (iI en))]) rfl ?_
              have h93 := (n91 532 (by decide)).trans (h42)
              refine T_mono (r_pack sc S89 (X_ou (X_ou o 8 en) 9 1) nm tx tb len ((o 7) + 1) en h90 h93 (show (o 3) = len from by first | assumption | omega) hl htx (by omega) (by omega)) (fun v94 S95 h96 => ?_)
              rcases h96 with ⟨nm97, hv98, hp99, hM100, hf101⟩
              rw [hv98]
              have h102 : S95.1 530 = .inr (11, [.ref 531, .int (iI (o 1)), .ref 532, .int (iI (o 3)), .int (iI (o 4)), .int (iI (o 5)), .int (iI (o 6)), .int (iI (o 7)), .int (iI en), .int (iI 1), .int (iI (o 10)), .int (iI (o 11)), .long nm97, .ref 533, .ref 534, .ref 535, .ref 536, .ref 537, .ref 538, .ref 539, .ref 540, .ref 541, .ref 542, .ref 543, .ref 544, .ref 545, .ref 546, .ref 547, .int (iI (o 28)), .int (iI (o 29)), .int (iI (o 30)), .int (iI (o 31)), .int (iI (o 32)), .int (iI (o 33)), .ref 548, .ref 549, .ref 550, .ref 551, .int (iI (o 38)), .ref 552, .ref 553, .ref 554, .ref 555, .ref 556, .ref 557, .ref 558, .ref 559, .ref 560, .ref 561, .int (iI (o 49)), .ref 562, .ref 563, .ref 564, .ref 565, .ref 566, .ref 567, .ref 568, .ref 569, .int (iI (o 58)), .ref 570, .ref 571, .ref 572, .ref 573, .ref 574, .ref 575, .ref 576, .ref 577, .ref 578, .int (iI (o 68)), .int (iI (o 69)), .int (iI (o 70)), .ref 579]) := hM100
              show X_T sc 143 (126, [(2, .int (iI ((en - (o 7)) - 1))), (1, .int (iI (bI (¬ X_DA tb len (p + 1) en)))), (0, .ref 530)], [], S95) _
              refine T_p xr_143_126 xn_143 (pc' := 127) (ls' := [(2, .int (iI ((en - (o 7)) - 1))), (1, .int (iI (bI (¬ X_DA tb len (p + 1) en)))), (0, .ref 530)]) (st' := [.ref 530]) rfl ?_
              refine T_p xr_143_127 xn_143 (pc' := 128) (ls' := [(2, .int (iI ((en - (o 7)) - 1))), (1, .int (iI (bI (¬ X_DA tb len (p + 1) en)))), (0, .ref 530)]) (st' := [.ref 530, .ref 530]) rfl ?_
              refine T_get xr_143_128 h102 rfl (v := .int (iI en)) rfl (pc' := 131) rfl ?_
              refine T_p xr_143_131 xn_143 (pc' := 132) (ls' := [(2, .int (iI ((en - (o 7)) - 1))), (1, .int (iI (bI (¬ X_DA tb len (p + 1) en)))), (0, .ref 530)]) (st' := [.int (iI 1), .int (iI en), .ref 530]) rfl ?_
              refine T_ziadd xr_143_132 (z := en + 1) rfl (pc' := 133) rfl ?_
              refine T_put xr_143_133 h102 rfl (Nat.le_of_ble_eq_true rfl) rfl (fs' := [.ref 531, .int (iI (o 1)), .ref 532, .int (iI (o 3)), .int (iI (o 4)), .int (iI (o 5)), .int (iI (o 6)), .int (iI (o 7)), .int (iI (en + 1)), .int (iI 1), .int (iI (o 10)), .int (iI (o 11)), .long nm97, .ref 533, .ref 534, .ref 535, .ref 536, .ref 537, .ref 538, .ref 539, .ref 540, .ref 541, .ref 542, .ref 543, .ref 544, .ref 545, .ref 546, .ref 547, .int (iI (o 28)), .int (iI (o 29)), .int (iI (o 30)), .int (iI (o 31)), .int (iI (o 32)), .int (iI (o 33)), .ref 548, .ref 549, .ref 550, .ref 551, .int (iI (o 38)), .ref 552, .ref 553, .ref 554, .ref 555, .ref 556, .ref 557, .ref 558, .ref 559, .ref 560, .ref 561, .int (iI (o 49)), .ref 562, .ref 563, .ref 564, .ref 565, .ref 566, .ref 567, .ref 568, .ref 569, .int (iI (o 58)), .ref 570, .ref 571, .ref 572, .ref 573, .ref 574, .ref 575, .ref 576, .ref 577, .ref 578, .int (iI (o 68)), .int (iI (o 69)), .int (iI (o 70)), .ref 579]) rfl (pc' := 136) rfl (fun S103 h104 n105 e106 => ?_)
              refine T_vret xr_143_136 xf_143.2.2 ?_
              refine hQ _ _ ?_
              exact ⟨en + 1, 1, nm97, 1, 0, en, rfl, ⟨hp4, en, hm.symm, Or.inl ⟨by first | exact Or.inl (by omega) | exact Or.inr (Or.inl (by omega)) | exact Or.inr (Or.inr (fun k g1 g2 => absurd g2 (by omega))) | exact Or.inr (Or.inr (Classical.not_not.mp (by assumption))), rfl, rfl, rfl⟩⟩, rfl, fun h => absurd rfl h, by first | assumption | omega, h104, ((((X_Fr.rf).tr (X_Fr.mono ⟨hF39.1, hF39.2⟩ (fun q hq => (by omega)))).tr (X_Fr.of n91 e92 (by omega))).tr (X_Fr.mono ⟨hf101.1, hf101.2⟩ (fun q hq => (by omega)))).tr (X_Fr.of n105 e106 (by omega))⟩
            · skip
              have c88 : ¬ (9 ≤ ((en - (o 7)) - 1)) := c88
              refine T_p xr_143_100 xn_143 (pc' := 101) (ls' := [(2, .int (iI ((en - (o 7)) - 1))), (1, .int (iI (bI (¬ X_DA tb len (p + 1) en)))), (0, .ref 530)]) (st' := [.int (iI (bI (¬ X_DA tb len (p + 1) en))), .ref 530]) rfl ?_
              refine T_bif_eq xr_143_101 (t := 108) (pc' := 104) rfl rfl (fun c107 => ?_) (fun c107 => ?_)
              · skip
                have c107 : ¬ (¬ X_DA tb len (p + 1) en) := c107
                refine T_p xr_143_108 xn_143 (pc' := 109) (ls' := [(2, .int (iI ((en - (o 7)) - 1))), (1, .int (iI (bI (¬ X_DA tb len (p + 1) en)))), (0, .ref 530)]) (st' := [.int (iI 1), .ref 530]) rfl ?_
                refine T_put xr_143_109 hM1 rfl (Nat.le_of_ble_eq_true rfl) rfl (fs' := [.ref 531, .int (iI (o 1)), .ref 532, .int (iI (o 3)), .int (iI (o 4)), .int (iI (o 5)), .int (iI (o 6)), .int (iI (o 7)), .int (iI en), .int (iI 1), .int (iI (o 10)), .int (iI (o 11)), .long nm, .ref 533, .ref 534, .ref 535, .ref 536, .ref 537, .ref 538, .ref 539, .ref 540, .ref 541, .ref 542, .ref 543, .ref 544, .ref 545, .ref 546, .ref 547, .int (iI (o 28)), .int (iI (o 29)), .int (iI (o 30)), .int (iI (o 31)), .int (iI (o 32)), .int (iI (o 33)), .ref 548, .ref 549, .ref 550, .ref 551, .int (iI (o 38)), .ref 552, .ref 553, .ref 554, .ref 555, .ref 556, .ref 557, .ref 558, .ref 559, .ref 560, .ref 561, .int (iI (o 49)), .ref 562, .ref 563, .ref 564, .ref 565, .ref 566, .ref 567, .ref 568, .ref 569, .int (iI (o 58)), .ref 570, .ref 571, .ref 572, .ref 573, .ref 574, .ref 575, .ref 576, .ref 577, .ref 578, .int (iI (o 68)), .int (iI (o 69)), .int (iI (o 70)), .ref 579]) rfl (pc' := 112) rfl (fun S108 h109 n110 e111 => ?_)
                refine T_p xr_143_112 xn_143 (pc' := 113) (ls' := [(2, .int (iI ((en - (o 7)) - 1))), (1, .int (iI (bI (¬ X_DA tb len (p + 1) en)))), (0, .ref 530)]) (st' := [.ref 530]) rfl ?_
                refine T_p xr_143_113 xn_143 (pc' := 114) (ls' := [(2, .int (iI ((en - (o 7)) - 1))), (1, .int (iI (bI (¬ X_DA tb len (p + 1) en)))), (0, .ref 530)]) (st' := [.ref 530, .ref 530]) rfl ?_
                refine T_get xr_143_114 h109 rfl (v := .int (iI (o 7))) rfl (pc' := 117) rfl ?_
                refine T_p xr_143_117 xn_143 (pc' := 118) (ls' := [(2, .int (iI ((en - (o 7)) - 1))), (1, .int (iI (bI (¬ X_DA tb len (p + 1) en)))), (0, .ref 530)]) (st' := [.int (iI 1), .int (iI (o 7)), .ref 530]) rfl ?_
                refine T_ziadd xr_143_118 (z := (o 7) + 1) rfl (pc' := 119) rfl ?_
                refine T_p xr_143_119 xn_143 (pc' := 120) (ls' := [(2, .int (iI ((en - (o 7)) - 1))), (1, .int (iI (bI (¬ X_DA tb len (p + 1) en)))), (0, .ref 530)]) (st' := [.ref 530, .int (iI ((o 7) + 1)), .ref 530]) rfl ?_
                refine T_get xr_143_120 h109 rfl (v := .int (iI en)) rfl (pc' := 123) rfl ?_
                refine T_cv (S := S108) (q := 530) xr_143_123 xf_142.1 xf_142.2.1 xn_142 (as := [.int (iI ((o 7) + 1)), .int (iI en)]) (r := []) rfl h109 (Nat.le_of_ble_eq_true rfl) (Nat.le_of_ble_eq_true rfl) (pc' := 126) rfl (ls' := [(0, .ref 530), (1, .int (iI ((o 7) + 1))), (2, .int (iI en))]) rfl ?_
                have h112 := (n110 532 (by decide)).trans (h42)
                refine T_mono (r_pack sc S108 (X_ou (X_ou o 8 en) 9 1) nm tx tb len ((o 7) + 1) en h109 h112 (show (o 3) = len from by first | assumption | omega) hl htx (by omega) (by omega)) (fun v113 S114 h115 => ?_)
                rcases h115 with ⟨nm116, hv117, hp118, hM119, hf120⟩
                rw [hv117]
                have h121 : S114.1 530 = .inr (11, [.ref 531, .int (iI (o 1)), .ref 532, .int (iI (o 3)), .int (iI (o 4)), .int (iI (o 5)), .int (iI (o 6)), .int (iI (o 7)), .int (iI en), .int (iI 1), .int (iI (o 10)), .int (iI (o 11)), .long nm116, .ref 533, .ref 534, .ref 535, .ref 536, .ref 537, .ref 538, .ref 539, .ref 540, .ref 541, .ref 542, .ref 543, .ref 544, .ref 545, .ref 546, .ref 547, .int (iI (o 28)), .int (iI (o 29)), .int (iI (o 30)), .int (iI (o 31)), .int (iI (o 32)), .int (iI (o 33)), .ref 548, .ref 549, .ref 550, .ref 551, .int (iI (o 38)), .ref 552, .ref 553, .ref 554, .ref 555, .ref 556, .ref 557, .ref 558, .ref 559, .ref 560, .ref 561, .int (iI (o 49)), .ref 562, .ref 563, .ref 564, .ref 565, .ref 566, .ref 567, .ref 568, .ref 569, .int (iI (o 58)), .ref 570, .ref 571, .ref 572, .ref 573, .ref 574, .ref 575, .ref 576, .ref 577, .ref 578, .int (iI (o 68)), .int (iI (o 69)), .int (iI (o 70)), .ref 579]) := hM119
                show X_T sc 143 (126, [(2, .int (iI ((en - (o 7)) - 1))), (1, .int (iI (bI (¬ X_DA tb len (p + 1) en)))), (0, .ref 530)], [], S114) _
                refine T_p xr_143_126 xn_143 (pc' := 127) (ls' := [(2, .int (iI ((en - (o 7)) - 1))), (1, .int (iI (bI (¬ X_DA tb len (p + 1) en)))), (0, .ref 530)]) (st' := [.ref 530]) rfl ?_
                refine T_p xr_143_127 xn_143 (pc' := 128) (ls' := [(2, .int (iI ((en - (o 7)) - 1))), (1, .int (iI (bI (¬ X_DA tb len (p + 1) en)))), (0, .ref 530)]) (st' := [.ref 530, .ref 530]) rfl ?_
                refine T_get xr_143_128 h121 rfl (v := .int (iI en)) rfl (pc' := 131) rfl ?_
                refine T_p xr_143_131 xn_143 (pc' := 132) (ls' := [(2, .int (iI ((en - (o 7)) - 1))), (1, .int (iI (bI (¬ X_DA tb len (p + 1) en)))), (0, .ref 530)]) (st' := [.int (iI 1), .int (iI en), .ref 530]) rfl ?_
                refine T_ziadd xr_143_132 (z := en + 1) rfl (pc' := 133) rfl ?_
                refine T_put xr_143_133 h121 rfl (Nat.le_of_ble_eq_true rfl) rfl (fs' := [.ref 531, .int (iI (o 1)), .ref 532, .int (iI (o 3)), .int (iI (o 4)), .int (iI (o 5)), .int (iI (o 6)), .int (iI (o 7)), .int (iI (en + 1)), .int (iI 1), .int (iI (o 10)), .int (iI (o 11)), .long nm116, .ref 533, .ref 534, .ref 535, .ref 536, .ref 537, .ref 538, .ref 539, .ref 540, .ref 541, .ref 542, .ref 543, .ref 544, .ref 545, .ref 546, .ref 547, .int (iI (o 28)), .int (iI (o 29)), .int (iI (o 30)), .int (iI (o 31)), .int (iI (o 32)), .int (iI (o 33)), .ref 548, .ref 549, .ref 550, .ref 551, .int (iI (o 38)), .ref 552, .ref 553, .ref 554, .ref 555, .ref 556, .ref 557, .ref 558, .ref 559, .ref 560, .ref 561, .int (iI (o 49)), .ref 562, .ref 563, .ref 564, .ref 565, .ref 566, .ref 567, .ref 568, .ref 569, .int (iI (o 58)), .ref 570, .ref 571, .ref 572, .ref 573, .ref 574, .ref 575, .ref 576, .ref 577, .ref 578, .int (iI (o 68)), .int (iI (o 69)), .int (iI (o 70)), .ref 579]) rfl (pc' := 136) rfl (fun S122 h123 n124 e125 => ?_)
                refine T_vret xr_143_136 xf_143.2.2 ?_
                refine hQ _ _ ?_
                exact ⟨en + 1, 1, nm116, 1, 0, en, rfl, ⟨hp4, en, hm.symm, Or.inl ⟨by first | exact Or.inl (by omega) | exact Or.inr (Or.inl (by omega)) | exact Or.inr (Or.inr (fun k g1 g2 => absurd g2 (by omega))) | exact Or.inr (Or.inr (Classical.not_not.mp (by assumption))), rfl, rfl, rfl⟩⟩, rfl, fun h => absurd rfl h, by first | assumption | omega, h123, ((((X_Fr.rf).tr (X_Fr.mono ⟨hF39.1, hF39.2⟩ (fun q hq => (by omega)))).tr (X_Fr.of n110 e111 (by omega))).tr (X_Fr.mono ⟨hf120.1, hf120.2⟩ (fun q hq => (by omega)))).tr (X_Fr.of n124 e125 (by omega))⟩
              · skip
                have c107 : (¬ X_DA tb len (p + 1) en) := c107
                refine T_p xr_143_104 xn_143 (pc' := 105) (ls' := [(2, .int (iI ((en - (o 7)) - 1))), (1, .int (iI (bI (¬ X_DA tb len (p + 1) en)))), (0, .ref 530)]) (st' := [.int (iI 5), .ref 530]) rfl ?_
                refine T_p xr_143_105 xn_143 (pc' := 109) (ls' := [(2, .int (iI ((en - (o 7)) - 1))), (1, .int (iI (bI (¬ X_DA tb len (p + 1) en)))), (0, .ref 530)]) (st' := [.int (iI 5), .ref 530]) rfl ?_
                refine T_put xr_143_109 hM1 rfl (Nat.le_of_ble_eq_true rfl) rfl (fs' := [.ref 531, .int (iI (o 1)), .ref 532, .int (iI (o 3)), .int (iI (o 4)), .int (iI (o 5)), .int (iI (o 6)), .int (iI (o 7)), .int (iI en), .int (iI 5), .int (iI (o 10)), .int (iI (o 11)), .long nm, .ref 533, .ref 534, .ref 535, .ref 536, .ref 537, .ref 538, .ref 539, .ref 540, .ref 541, .ref 542, .ref 543, .ref 544, .ref 545, .ref 546, .ref 547, .int (iI (o 28)), .int (iI (o 29)), .int (iI (o 30)), .int (iI (o 31)), .int (iI (o 32)), .int (iI (o 33)), .ref 548, .ref 549, .ref 550, .ref 551, .int (iI (o 38)), .ref 552, .ref 553, .ref 554, .ref 555, .ref 556, .ref 557, .ref 558, .ref 559, .ref 560, .ref 561, .int (iI (o 49)), .ref 562, .ref 563, .ref 564, .ref 565, .ref 566, .ref 567, .ref 568, .ref 569, .int (iI (o 58)), .ref 570, .ref 571, .ref 572, .ref 573, .ref 574, .ref 575, .ref 576, .ref 577, .ref 578, .int (iI (o 68)), .int (iI (o 69)), .int (iI (o 70)), .ref 579]) rfl (pc' := 112) rfl (fun S126 h127 n128 e129 => ?_)
                refine T_p xr_143_112 xn_143 (pc' := 113) (ls' := [(2, .int (iI ((en - (o 7)) - 1))), (1, .int (iI (bI (¬ X_DA tb len (p + 1) en)))), (0, .ref 530)]) (st' := [.ref 530]) rfl ?_
                refine T_p xr_143_113 xn_143 (pc' := 114) (ls' := [(2, .int (iI ((en - (o 7)) - 1))), (1, .int (iI (bI (¬ X_DA tb len (p + 1) en)))), (0, .ref 530)]) (st' := [.ref 530, .ref 530]) rfl ?_
                refine T_get xr_143_114 h127 rfl (v := .int (iI (o 7))) rfl (pc' := 117) rfl ?_
                refine T_p xr_143_117 xn_143 (pc' := 118) (ls' := [(2, .int (iI ((en - (o 7)) - 1))), (1, .int (iI (bI (¬ X_DA tb len (p + 1) en)))), (0, .ref 530)]) (st' := [.int (iI 1), .int (iI (o 7)), .ref 530]) rfl ?_
                refine T_ziadd xr_143_118 (z := (o 7) + 1) rfl (pc' := 119) rfl ?_
                refine T_p xr_143_119 xn_143 (pc' := 120) (ls' := [(2, .int (iI ((en - (o 7)) - 1))), (1, .int (iI (bI (¬ X_DA tb len (p + 1) en)))), (0, .ref 530)]) (st' := [.ref 530, .int (iI ((o 7) + 1)), .ref 530]) rfl ?_
                refine T_get xr_143_120 h127 rfl (v := .int (iI en)) rfl (pc' := 123) rfl ?_
                refine T_cv (S := S126) (q := 530) xr_143_123 xf_142.1 xf_142.2.1 xn_142 (as := [.int (iI ((o 7) + 1)), .int (iI en)]) (r := []) rfl h127 (Nat.le_of_ble_eq_true rfl) (Nat.le_of_ble_eq_true rfl) (pc' := 126) rfl (ls' := [(0, .ref 530), (1, .int (iI ((o 7) + 1))), (2, .int (iI en))]) rfl ?_
                have h130 := (n128 532 (by decide)).trans (h42)
                refine T_mono (r_pack sc S126 (X_ou (X_ou o 8 en) 9 5) nm tx tb len ((o 7) + 1) en h127 h130 (show (o 3) = len from by first | assumption | omega) hl htx (by omega) (by omega)) (fun v131 S132 h133 => ?_)
                rcases h133 with ⟨nm134, hv135, hp136, hM137, hf138⟩
                rw [hv135]
                have h139 : S132.1 530 = .inr (11, [.ref 531, .int (iI (o 1)), .ref 532, .int (iI (o 3)), .int (iI (o 4)), .int (iI (o 5)), .int (iI (o 6)), .int (iI (o 7)), .int (iI en), .int (iI 5), .int (iI (o 10)), .int (iI (o 11)), .long nm134, .ref 533, .ref 534, .ref 535, .ref 536, .ref 537, .ref 538, .ref 539, .ref 540, .ref 541, .ref 542, .ref 543, .ref 544, .ref 545, .ref 546, .ref 547, .int (iI (o 28)), .int (iI (o 29)), .int (iI (o 30)), .int (iI (o 31)), .int (iI (o 32)), .int (iI (o 33)), .ref 548, .ref 549, .ref 550, .ref 551, .int (iI (o 38)), .ref 552, .ref 553, .ref 554, .ref 555, .ref 556, .ref 557, .ref 558, .ref 559, .ref 560, .ref 561, .int (iI (o 49)), .ref 562, .ref 563, .ref 564, .ref 565, .ref 566, .ref 567, .ref 568, .ref 569, .int (iI (o 58)), .ref 570, .ref 571, .ref 572, .ref 573, .ref 574, .ref 575, .ref 576, .ref 577, .ref 578, .int (iI (o 68)), .int (iI (o 69)), .int (iI (o 70)), .ref 579]) := hM137
                show X_T sc 143 (126, [(2, .int (iI ((en - (o 7)) - 1))), (1, .int (iI (bI (¬ X_DA tb len (p + 1) en)))), (0, .ref 530)], [], S132) _
                refine T_p xr_143_126 xn_143 (pc' := 127) (ls' := [(2, .int (iI ((en - (o 7)) - 1))), (1, .int (iI (bI (¬ X_DA tb len (p + 1) en)))), (0, .ref 530)]) (st' := [.ref 530]) rfl ?_
                refine T_p xr_143_127 xn_143 (pc' := 128) (ls' := [(2, .int (iI ((en - (o 7)) - 1))), (1, .int (iI (bI (¬ X_DA tb len (p + 1) en)))), (0, .ref 530)]) (st' := [.ref 530, .ref 530]) rfl ?_
                refine T_get xr_143_128 h139 rfl (v := .int (iI en)) rfl (pc' := 131) rfl ?_
                refine T_p xr_143_131 xn_143 (pc' := 132) (ls' := [(2, .int (iI ((en - (o 7)) - 1))), (1, .int (iI (bI (¬ X_DA tb len (p + 1) en)))), (0, .ref 530)]) (st' := [.int (iI 1), .int (iI en), .ref 530]) rfl ?_
                refine T_ziadd xr_143_132 (z := en + 1) rfl (pc' := 133) rfl ?_
                refine T_put xr_143_133 h139 rfl (Nat.le_of_ble_eq_true rfl) rfl (fs' := [.ref 531, .int (iI (o 1)), .ref 532, .int (iI (o 3)), .int (iI (o 4)), .int (iI (o 5)), .int (iI (o 6)), .int (iI (o 7)), .int (iI (en + 1)), .int (iI 5), .int (iI (o 10)), .int (iI (o 11)), .long nm134, .ref 533, .ref 534, .ref 535, .ref 536, .ref 537, .ref 538, .ref 539, .ref 540, .ref 541, .ref 542, .ref 543, .ref 544, .ref 545, .ref 546, .ref 547, .int (iI (o 28)), .int (iI (o 29)), .int (iI (o 30)), .int (iI (o 31)), .int (iI (o 32)), .int (iI (o 33)), .ref 548, .ref 549, .ref 550, .ref 551, .int (iI (o 38)), .ref 552, .ref 553, .ref 554, .ref 555, .ref 556, .ref 557, .ref 558, .ref 559, .ref 560, .ref 561, .int (iI (o 49)), .ref 562, .ref 563, .ref 564, .ref 565, .ref 566, .ref 567, .ref 568, .ref 569, .int (iI (o 58)), .ref 570, .ref 571, .ref 572, .ref 573, .ref 574, .ref 575, .ref 576, .ref 577, .ref 578, .int (iI (o 68)), .int (iI (o 69)), .int (iI (o 70)), .ref 579]) rfl (pc' := 136) rfl (fun S140 h141 n142 e143 => ?_)
                refine T_vret xr_143_136 xf_143.2.2 ?_
                refine hQ _ _ ?_
                refine ⟨en + 1, 5, nm134, 6, nm134, en + 1, rfl, ?_, rfl, ?_, by first | assumption | omega, h141, ((((X_Fr.rf).tr (X_Fr.mono ⟨hF39.1, hF39.2⟩ (fun q hq => (by omega)))).tr (X_Fr.of n128 e129 (by omega))).tr (X_Fr.mono ⟨hf138.1, hf138.2⟩ (fun q hq => (by omega)))).tr (X_Fr.of n142 e143 (by omega))⟩
                · refine ⟨hp4, en, hm.symm, Or.inr ⟨by omega, by omega, by assumption, rfl, ?_, rfl⟩⟩
                  have h9 := hp136 (by omega)
                  rw [hp1] at h9
                  exact h9
                · intro _
                  exact ⟨rfl, rfl⟩
      · skip
        have c41 : ¬ ((o 3) ≤ en) := c41
        refine T_p xr_143_13 xn_143 (pc' := 14) (ls' := [(1, .int (iI (bI (¬ X_DA tb len (p + 1) en)))), (0, .ref 530)]) (st' := [.ref 530]) rfl ?_
        refine T_p xr_143_14 xn_143 (pc' := 15) (ls' := [(1, .int (iI (bI (¬ X_DA tb len (p + 1) en)))), (0, .ref 530)]) (st' := [.ref 530, .ref 530]) rfl ?_
        refine T_get xr_143_15 hM1 rfl (v := .int (iI en)) rfl (pc' := 18) rfl ?_
        refine T_cv (S := S40) (q := 530) xr_143_18 xf_136.1 xf_136.2.1 xn_136 (as := [.int (iI en)]) (r := []) rfl hM1 (Nat.le_of_ble_eq_true rfl) (Nat.le_of_ble_eq_true rfl) (pc' := 21) rfl (ls' := [(0, .ref 530), (1, .int (iI en))]) rfl ?_
        have h144 := (hF39.1 532 (by omega)).trans (hA532)
        refine T_mono (r_sign sc S40 (X_ou o 8 en) nm tx tb len en hM1 h144 (show (o 3) = len from by first | assumption | omega) hl htx (by omega)) (fun v145 S146 h147 => ?_)
        rcases h147 with ⟨hv148, hf149⟩
        rw [hv148]
        rw [hf149]
        have hg150 := X_sg_r (tb := tb) (len := len) (k := en) (by omega)
        have hg151 := X_sg_c (tb := tb) (len := len) (k := en)
        show X_T sc 143 (21, [(1, .int (iI (bI (¬ X_DA tb len (p + 1) en)))), (0, .ref 530)], [.int (iI (X_sg tb len en))], S40) _
        refine T_cs xr_143_21 (by decide) xf_144.1 xn_144 (as := [.int (iI (X_sg tb len en))]) (r := []) rfl (Nat.le_of_ble_eq_true rfl) (Nat.le_of_ble_eq_true rfl) (pc' := 24) rfl (ls' := [(0, .int (iI (X_sg tb len en)))]) rfl ?_
        refine T_mono (r_isPartSign sc S40 (X_sg tb len en) (by omega)) (fun v152 S153 h154 => ?_)
        rcases h154 with ⟨hv155, hf156⟩
        rw [hv155]
        rw [hf156]
        show X_T sc 143 (24, [(1, .int (iI (bI (¬ X_DA tb len (p + 1) en)))), (0, .ref 530)], [.int (iI (bI (X_isPB (X_sg tb len en))))], S40) _
        refine T_bif_eq xr_143_24 (t := 64) (pc' := 27) rfl rfl (fun c157 => ?_) (fun c157 => ?_)
        · skip
          have c157 : ¬ (X_isPB (X_sg tb len en)) := c157
          have hm : X_se X_isPB tb len (p + 1) = en := hse.symm.trans (X_se_no (by first | (intro h; omega) | (intro h; exact absurd (X_sg_B.mpr h) (by assumption))))
          refine T_p xr_143_64 xn_143 (pc' := 65) (ls' := [(1, .int (iI (bI (¬ X_DA tb len (p + 1) en)))), (0, .ref 530)]) (st' := [.ref 530]) rfl ?_
          refine T_get xr_143_65 hM1 rfl (v := .int (iI en)) rfl (pc' := 68) rfl ?_
          refine T_p xr_143_68 xn_143 (pc' := 69) (ls' := [(1, .int (iI (bI (¬ X_DA tb len (p + 1) en)))), (0, .ref 530)]) (st' := [.ref 530, .int (iI en)]) rfl ?_
          refine T_get xr_143_69 hM1 rfl (v := .int (iI (o 7))) rfl (pc' := 72) rfl ?_
          refine T_zisub xr_143_72 (z := en - (o 7)) rfl (pc' := 73) rfl ?_
          refine T_p xr_143_73 xn_143 (pc' := 74) (ls' := [(1, .int (iI (bI (¬ X_DA tb len (p + 1) en)))), (0, .ref 530)]) (st' := [.int (iI 1), .int (iI (en - (o 7)))]) rfl ?_
          refine T_zisub xr_143_74 (z := (en - (o 7)) - 1) rfl (pc' := 75) rfl ?_
          refine T_p xr_143_75 xn_143 (pc' := 76) (ls' := [(2, .int (iI ((en - (o 7)) - 1))), (1, .int (iI (bI (¬ X_DA tb len (p + 1) en)))), (0, .ref 530)]) (st' := []) rfl ?_
          refine T_p xr_143_76 xn_143 (pc' := 77) (ls' := [(2, .int (iI ((en - (o 7)) - 1))), (1, .int (iI (bI (¬ X_DA tb len (p + 1) en)))), (0, .ref 530)]) (st' := [.ref 530]) rfl ?_
          refine T_p xr_143_77 xn_143 (pc' := 78) (ls' := [(2, .int (iI ((en - (o 7)) - 1))), (1, .int (iI (bI (¬ X_DA tb len (p + 1) en)))), (0, .ref 530)]) (st' := [.ref 530, .ref 530]) rfl ?_
          refine T_p xr_143_78 xn_143 (pc' := 79) (ls' := [(2, .int (iI ((en - (o 7)) - 1))), (1, .int (iI (bI (¬ X_DA tb len (p + 1) en)))), (0, .ref 530)]) (st' := [.ref 530, .ref 530, .ref 530]) rfl ?_
          refine T_get xr_143_79 hM1 rfl (v := .int (iI en)) rfl (pc' := 82) rfl ?_
          refine T_cv (S := S40) (q := 530) xr_143_82 xf_136.1 xf_136.2.1 xn_136 (as := [.int (iI en)]) (r := [.ref 530]) rfl hM1 (Nat.le_of_ble_eq_true rfl) (Nat.le_of_ble_eq_true rfl) (pc' := 85) rfl (ls' := [(0, .ref 530), (1, .int (iI en))]) rfl ?_
          refine T_mono (r_sign sc S40 (X_ou o 8 en) nm tx tb len en hM1 h144 (show (o 3) = len from by first | assumption | omega) hl htx (by omega)) (fun v158 S159 h160 => ?_)
          rcases h160 with ⟨hv161, hf162⟩
          rw [hv161]
          rw [hf162]
          have hg163 := X_sg_r (tb := tb) (len := len) (k := en) (by omega)
          have hg164 := X_sg_c (tb := tb) (len := len) (k := en)
          show X_T sc 143 (85, [(2, .int (iI ((en - (o 7)) - 1))), (1, .int (iI (bI (¬ X_DA tb len (p + 1) en)))), (0, .ref 530)], [.int (iI (X_sg tb len en)), .ref 530], S40) _
          refine T_p xr_143_85 xn_143 (pc' := 87) (ls' := [(2, .int (iI ((en - (o 7)) - 1))), (1, .int (iI (bI (¬ X_DA tb len (p + 1) en)))), (0, .ref 530)]) (st' := [.int (iI 34), .int (iI (X_sg tb len en)), .ref 530]) rfl ?_
          refine T_zicmp_ne xr_143_87 (t := 108) (pc' := 90) rfl rfl (fun c165 => ?_) (fun c165 => ?_)
          · skip
            have c165 : ¬ (X_sg tb len en) = 34 := c165
            refine T_p xr_143_108 xn_143 (pc' := 109) (ls' := [(2, .int (iI ((en - (o 7)) - 1))), (1, .int (iI (bI (¬ X_DA tb len (p + 1) en)))), (0, .ref 530)]) (st' := [.int (iI 1), .ref 530]) rfl ?_
            refine T_put xr_143_109 hM1 rfl (Nat.le_of_ble_eq_true rfl) rfl (fs' := [.ref 531, .int (iI (o 1)), .ref 532, .int (iI (o 3)), .int (iI (o 4)), .int (iI (o 5)), .int (iI (o 6)), .int (iI (o 7)), .int (iI en), .int (iI 1), .int (iI (o 10)), .int (iI (o 11)), .long nm, .ref 533, .ref 534, .ref 535, .ref 536, .ref 537, .ref 538, .ref 539, .ref 540, .ref 541, .ref 542, .ref 543, .ref 544, .ref 545, .ref 546, .ref 547, .int (iI (o 28)), .int (iI (o 29)), .int (iI (o 30)), .int (iI (o 31)), .int (iI (o 32)), .int (iI (o 33)), .ref 548, .ref 549, .ref 550, .ref 551, .int (iI (o 38)), .ref 552, .ref 553, .ref 554, .ref 555, .ref 556, .ref 557, .ref 558, .ref 559, .ref 560, .ref 561, .int (iI (o 49)), .ref 562, .ref 563, .ref 564, .ref 565, .ref 566, .ref 567, .ref 568, .ref 569, .int (iI (o 58)), .ref 570, .ref 571, .ref 572, .ref 573, .ref 574, .ref 575, .ref 576, .ref 577, .ref 578, .int (iI (o 68)), .int (iI (o 69)), .int (iI (o 70)), .ref 579]) rfl (pc' := 112) rfl (fun S166 h167 n168 e169 => ?_)
            refine T_p xr_143_112 xn_143 (pc' := 113) (ls' := [(2, .int (iI ((en - (o 7)) - 1))), (1, .int (iI (bI (¬ X_DA tb len (p + 1) en)))), (0, .ref 530)]) (st' := [.ref 530]) rfl ?_
            refine T_p xr_143_113 xn_143 (pc' := 114) (ls' := [(2, .int (iI ((en - (o 7)) - 1))), (1, .int (iI (bI (¬ X_DA tb len (p + 1) en)))), (0, .ref 530)]) (st' := [.ref 530, .ref 530]) rfl ?_
            refine T_get xr_143_114 h167 rfl (v := .int (iI (o 7))) rfl (pc' := 117) rfl ?_
            refine T_p xr_143_117 xn_143 (pc' := 118) (ls' := [(2, .int (iI ((en - (o 7)) - 1))), (1, .int (iI (bI (¬ X_DA tb len (p + 1) en)))), (0, .ref 530)]) (st' := [.int (iI 1), .int (iI (o 7)), .ref 530]) rfl ?_
            refine T_ziadd xr_143_118 (z := (o 7) + 1) rfl (pc' := 119) rfl ?_
            refine T_p xr_143_119 xn_143 (pc' := 120) (ls' := [(2, .int (iI ((en - (o 7)) - 1))), (1, .int (iI (bI (¬ X_DA tb len (p + 1) en)))), (0, .ref 530)]) (st' := [.ref 530, .int (iI ((o 7) + 1)), .ref 530]) rfl ?_
            refine T_get xr_143_120 h167 rfl (v := .int (iI en)) rfl (pc' := 123) rfl ?_
            refine T_cv (S := S166) (q := 530) xr_143_123 xf_142.1 xf_142.2.1 xn_142 (as := [.int (iI ((o 7) + 1)), .int (iI en)]) (r := []) rfl h167 (Nat.le_of_ble_eq_true rfl) (Nat.le_of_ble_eq_true rfl) (pc' := 126) rfl (ls' := [(0, .ref 530), (1, .int (iI ((o 7) + 1))), (2, .int (iI en))]) rfl ?_
            have h170 := (n168 532 (by decide)).trans (h144)
            refine T_mono (r_pack sc S166 (X_ou (X_ou o 8 en) 9 1) nm tx tb len ((o 7) + 1) en h167 h170 (show (o 3) = len from by first | assumption | omega) hl htx (by omega) (by omega)) (fun v171 S172 h173 => ?_)
            rcases h173 with ⟨nm174, hv175, hp176, hM177, hf178⟩
            rw [hv175]
            have h179 : S172.1 530 = .inr (11, [.ref 531, .int (iI (o 1)), .ref 532, .int (iI (o 3)), .int (iI (o 4)), .int (iI (o 5)), .int (iI (o 6)), .int (iI (o 7)), .int (iI en), .int (iI 1), .int (iI (o 10)), .int (iI (o 11)), .long nm174, .ref 533, .ref 534, .ref 535, .ref 536, .ref 537, .ref 538, .ref 539, .ref 540, .ref 541, .ref 542, .ref 543, .ref 544, .ref 545, .ref 546, .ref 547, .int (iI (o 28)), .int (iI (o 29)), .int (iI (o 30)), .int (iI (o 31)), .int (iI (o 32)), .int (iI (o 33)), .ref 548, .ref 549, .ref 550, .ref 551, .int (iI (o 38)), .ref 552, .ref 553, .ref 554, .ref 555, .ref 556, .ref 557, .ref 558, .ref 559, .ref 560, .ref 561, .int (iI (o 49)), .ref 562, .ref 563, .ref 564, .ref 565, .ref 566, .ref 567, .ref 568, .ref 569, .int (iI (o 58)), .ref 570, .ref 571, .ref 572, .ref 573, .ref 574, .ref 575, .ref 576, .ref 577, .ref 578, .int (iI (o 68)), .int (iI (o 69)), .int (iI (o 70)), .ref 579]) := hM177
            show X_T sc 143 (126, [(2, .int (iI ((en - (o 7)) - 1))), (1, .int (iI (bI (¬ X_DA tb len (p + 1) en)))), (0, .ref 530)], [], S172) _
            refine T_p xr_143_126 xn_143 (pc' := 127) (ls' := [(2, .int (iI ((en - (o 7)) - 1))), (1, .int (iI (bI (¬ X_DA tb len (p + 1) en)))), (0, .ref 530)]) (st' := [.ref 530]) rfl ?_
            refine T_p xr_143_127 xn_143 (pc' := 128) (ls' := [(2, .int (iI ((en - (o 7)) - 1))), (1, .int (iI (bI (¬ X_DA tb len (p + 1) en)))), (0, .ref 530)]) (st' := [.ref 530, .ref 530]) rfl ?_
            refine T_get xr_143_128 h179 rfl (v := .int (iI en)) rfl (pc' := 131) rfl ?_
            refine T_p xr_143_131 xn_143 (pc' := 132) (ls' := [(2, .int (iI ((en - (o 7)) - 1))), (1, .int (iI (bI (¬ X_DA tb len (p + 1) en)))), (0, .ref 530)]) (st' := [.int (iI 1), .int (iI en), .ref 530]) rfl ?_
            refine T_ziadd xr_143_132 (z := en + 1) rfl (pc' := 133) rfl ?_
            refine T_put xr_143_133 h179 rfl (Nat.le_of_ble_eq_true rfl) rfl (fs' := [.ref 531, .int (iI (o 1)), .ref 532, .int (iI (o 3)), .int (iI (o 4)), .int (iI (o 5)), .int (iI (o 6)), .int (iI (o 7)), .int (iI (en + 1)), .int (iI 1), .int (iI (o 10)), .int (iI (o 11)), .long nm174, .ref 533, .ref 534, .ref 535, .ref 536, .ref 537, .ref 538, .ref 539, .ref 540, .ref 541, .ref 542, .ref 543, .ref 544, .ref 545, .ref 546, .ref 547, .int (iI (o 28)), .int (iI (o 29)), .int (iI (o 30)), .int (iI (o 31)), .int (iI (o 32)), .int (iI (o 33)), .ref 548, .ref 549, .ref 550, .ref 551, .int (iI (o 38)), .ref 552, .ref 553, .ref 554, .ref 555, .ref 556, .ref 557, .ref 558, .ref 559, .ref 560, .ref 561, .int (iI (o 49)), .ref 562, .ref 563, .ref 564, .ref 565, .ref 566, .ref 567, .ref 568, .ref 569, .int (iI (o 58)), .ref 570, .ref 571, .ref 572, .ref 573, .ref 574, .ref 575, .ref 576, .ref 577, .ref 578, .int (iI (o 68)), .int (iI (o 69)), .int (iI (o 70)), .ref 579]) rfl (pc' := 136) rfl (fun S180 h181 n182 e183 => ?_)
            refine T_vret xr_143_136 xf_143.2.2 ?_
            refine hQ _ _ ?_
            exact ⟨en + 1, 1, nm174, 1, 0, en, rfl, ⟨hp4, en, hm.symm, Or.inl ⟨by first | exact Or.inl (by omega) | exact Or.inr (Or.inl (by omega)) | exact Or.inr (Or.inr (fun k g1 g2 => absurd g2 (by omega))) | exact Or.inr (Or.inr (Classical.not_not.mp (by assumption))), rfl, rfl, rfl⟩⟩, rfl, fun h => absurd rfl h, by first | assumption | omega, h181, ((((X_Fr.rf).tr (X_Fr.mono ⟨hF39.1, hF39.2⟩ (fun q hq => (by omega)))).tr (X_Fr.of n168 e169 (by omega))).tr (X_Fr.mono ⟨hf178.1, hf178.2⟩ (fun q hq => (by omega)))).tr (X_Fr.of n182 e183 (by omega))⟩
          · skip
            have c165 : ¬ (¬ (X_sg tb len en) = 34) := c165
            refine T_p xr_143_90 xn_143 (pc' := 91) (ls' := [(2, .int (iI ((en - (o 7)) - 1))), (1, .int (iI (bI (¬ X_DA tb len (p + 1) en)))), (0, .ref 530)]) (st' := [.int (iI ((en - (o 7)) - 1)), .ref 530]) rfl ?_
            refine T_zif_le xr_143_91 (t := 108) (pc' := 94) rfl rfl (fun c184 => ?_) (fun c184 => ?_)
            · skip
              have c184 : ((en - (o 7)) - 1) ≤ 0 := c184
              refine T_p xr_143_108 xn_143 (pc' := 109) (ls' := [(2, .int (iI ((en - (o 7)) - 1))), (1, .int (iI (bI (¬ X_DA tb len (p + 1) en)))), (0, .ref 530)]) (st' := [.int (iI 1), .ref 530]) rfl ?_
              refine T_put xr_143_109 hM1 rfl (Nat.le_of_ble_eq_true rfl) rfl (fs' := [.ref 531, .int (iI (o 1)), .ref 532, .int (iI (o 3)), .int (iI (o 4)), .int (iI (o 5)), .int (iI (o 6)), .int (iI (o 7)), .int (iI en), .int (iI 1), .int (iI (o 10)), .int (iI (o 11)), .long nm, .ref 533, .ref 534, .ref 535, .ref 536, .ref 537, .ref 538, .ref 539, .ref 540, .ref 541, .ref 542, .ref 543, .ref 544, .ref 545, .ref 546, .ref 547, .int (iI (o 28)), .int (iI (o 29)), .int (iI (o 30)), .int (iI (o 31)), .int (iI (o 32)), .int (iI (o 33)), .ref 548, .ref 549, .ref 550, .ref 551, .int (iI (o 38)), .ref 552, .ref 553, .ref 554, .ref 555, .ref 556, .ref 557, .ref 558, .ref 559, .ref 560, .ref 561, .int (iI (o 49)), .ref 562, .ref 563, .ref 564, .ref 565, .ref 566, .ref 567, .ref 568, .ref 569, .int (iI (o 58)), .ref 570, .ref 571, .ref 572, .ref 573, .ref 574, .ref 575, .ref 576, .ref 577, .ref 578, .int (iI (o 68)), .int (iI (o 69)), .int (iI (o 70)), .ref 579]) rfl (pc' := 112) rfl (fun S185 h186 n187 e188 => ?_)
              refine T_p xr_143_112 xn_143 (pc' := 113) (ls' := [(2, .int (iI ((en - (o 7)) - 1))), (1, .int (iI (bI (¬ X_DA tb len (p + 1) en)))), (0, .ref 530)]) (st' := [.ref 530]) rfl ?_
              refine T_p xr_143_113 xn_143 (pc' := 114) (ls' := [(2, .int (iI ((en - (o 7)) - 1))), (1, .int (iI (bI (¬ X_DA tb len (p + 1) en)))), (0, .ref 530)]) (st' := [.ref 530, .ref 530]) rfl ?_
              refine T_get xr_143_114 h186 rfl (v := .int (iI (o 7))) rfl (pc' := 117) rfl ?_
              refine T_p xr_143_117 xn_143 (pc' := 118) (ls' := [(2, .int (iI ((en - (o 7)) - 1))), (1, .int (iI (bI (¬ X_DA tb len (p + 1) en)))), (0, .ref 530)]) (st' := [.int (iI 1), .int (iI (o 7)), .ref 530]) rfl ?_
              refine T_ziadd xr_143_118 (z := (o 7) + 1) rfl (pc' := 119) rfl ?_
              refine T_p xr_143_119 xn_143 (pc' := 120) (ls' := [(2, .int (iI ((en - (o 7)) - 1))), (1, .int (iI (bI (¬ X_DA tb len (p + 1) en)))), (0, .ref 530)]) (st' := [.ref 530, .int (iI ((o 7) + 1)), .ref 530]) rfl ?_
              refine T_get xr_143_120 h186 rfl (v := .int (iI en)) rfl (pc' := 123) rfl ?_
              refine T_cv (S := S185) (q := 530) xr_143_123 xf_142.1 xf_142.2.1 xn_142 (as := [.int (iI ((o 7) + 1)), .int (iI en)]) (r := []) rfl h186 (Nat.le_of_ble_eq_true rfl) (Nat.le_of_ble_eq_true rfl) (pc' := 126) rfl (ls' := [(0, .ref 530), (1, .int (iI ((o 7) + 1))), (2, .int (iI en))]) rfl ?_
              have h189 := (n187 532 (by decide)).trans (h144)
              refine T_mono (r_pack sc S185 (X_ou (X_ou o 8 en) 9 1) nm tx tb len ((o 7) + 1) en h186 h189 (show (o 3) = len from by first | assumption | omega) hl htx (by omega) (by omega)) (fun v190 S191 h192 => ?_)
              rcases h192 with ⟨nm193, hv194, hp195, hM196, hf197⟩
              rw [hv194]
              have h198 : S191.1 530 = .inr (11, [.ref 531, .int (iI (o 1)), .ref 532, .int (iI (o 3)), .int (iI (o 4)), .int (iI (o 5)), .int (iI (o 6)), .int (iI (o 7)), .int (iI en), .int (iI 1), .int (iI (o 10)), .int (iI (o 11)), .long nm193, .ref 533, .ref 534, .ref 535, .ref 536, .ref 537, .ref 538, .ref 539, .ref 540, .ref 541, .ref 542, .ref 543, .ref 544, .ref 545, .ref 546, .ref 547, .int (iI (o 28)), .int (iI (o 29)), .int (iI (o 30)), .int (iI (o 31)), .int (iI (o 32)), .int (iI (o 33)), .ref 548, .ref 549, .ref 550, .ref 551, .int (iI (o 38)), .ref 552, .ref 553, .ref 554, .ref 555, .ref 556, .ref 557, .ref 558, .ref 559, .ref 560, .ref 561, .int (iI (o 49)), .ref 562, .ref 563, .ref 564, .ref 565, .ref 566, .ref 567, .ref 568, .ref 569, .int (iI (o 58)), .ref 570, .ref 571, .ref 572, .ref 573, .ref 574, .ref 575, .ref 576, .ref 577, .ref 578, .int (iI (o 68)), .int (iI (o 69)), .int (iI (o 70)), .ref 579]) := hM196
              show X_T sc 143 (126, [(2, .int (iI ((en - (o 7)) - 1))), (1, .int (iI (bI (¬ X_DA tb len (p + 1) en)))), (0, .ref 530)], [], S191) _
              refine T_p xr_143_126 xn_143 (pc' := 127) (ls' := [(2, .int (iI ((en - (o 7)) - 1))), (1, .int (iI (bI (¬ X_DA tb len (p + 1) en)))), (0, .ref 530)]) (st' := [.ref 530]) rfl ?_
              refine T_p xr_143_127 xn_143 (pc' := 128) (ls' := [(2, .int (iI ((en - (o 7)) - 1))), (1, .int (iI (bI (¬ X_DA tb len (p + 1) en)))), (0, .ref 530)]) (st' := [.ref 530, .ref 530]) rfl ?_
              refine T_get xr_143_128 h198 rfl (v := .int (iI en)) rfl (pc' := 131) rfl ?_
              refine T_p xr_143_131 xn_143 (pc' := 132) (ls' := [(2, .int (iI ((en - (o 7)) - 1))), (1, .int (iI (bI (¬ X_DA tb len (p + 1) en)))), (0, .ref 530)]) (st' := [.int (iI 1), .int (iI en), .ref 530]) rfl ?_
              refine T_ziadd xr_143_132 (z := en + 1) rfl (pc' := 133) rfl ?_
              refine T_put xr_143_133 h198 rfl (Nat.le_of_ble_eq_true rfl) rfl (fs' := [.ref 531, .int (iI (o 1)), .ref 532, .int (iI (o 3)), .int (iI (o 4)), .int (iI (o 5)), .int (iI (o 6)), .int (iI (o 7)), .int (iI (en + 1)), .int (iI 1), .int (iI (o 10)), .int (iI (o 11)), .long nm193, .ref 533, .ref 534, .ref 535, .ref 536, .ref 537, .ref 538, .ref 539, .ref 540, .ref 541, .ref 542, .ref 543, .ref 544, .ref 545, .ref 546, .ref 547, .int (iI (o 28)), .int (iI (o 29)), .int (iI (o 30)), .int (iI (o 31)), .int (iI (o 32)), .int (iI (o 33)), .ref 548, .ref 549, .ref 550, .ref 551, .int (iI (o 38)), .ref 552, .ref 553, .ref 554, .ref 555, .ref 556, .ref 557, .ref 558, .ref 559, .ref 560, .ref 561, .int (iI (o 49)), .ref 562, .ref 563, .ref 564, .ref 565, .ref 566, .ref 567, .ref 568, .ref 569, .int (iI (o 58)), .ref 570, .ref 571, .ref 572, .ref 573, .ref 574, .ref 575, .ref 576, .ref 577, .ref 578, .int (iI (o 68)), .int (iI (o 69)), .int (iI (o 70)), .ref 579]) rfl (pc' := 136) rfl (fun S199 h200 n201 e202 => ?_)
              refine T_vret xr_143_136 xf_143.2.2 ?_
              refine hQ _ _ ?_
              exact ⟨en + 1, 1, nm193, 1, 0, en, rfl, ⟨hp4, en, hm.symm, Or.inl ⟨by first | exact Or.inl (by omega) | exact Or.inr (Or.inl (by omega)) | exact Or.inr (Or.inr (fun k g1 g2 => absurd g2 (by omega))) | exact Or.inr (Or.inr (Classical.not_not.mp (by assumption))), rfl, rfl, rfl⟩⟩, rfl, fun h => absurd rfl h, by first | assumption | omega, h200, ((((X_Fr.rf).tr (X_Fr.mono ⟨hF39.1, hF39.2⟩ (fun q hq => (by omega)))).tr (X_Fr.of n187 e188 (by omega))).tr (X_Fr.mono ⟨hf197.1, hf197.2⟩ (fun q hq => (by omega)))).tr (X_Fr.of n201 e202 (by omega))⟩
            · skip
              have c184 : ¬ (((en - (o 7)) - 1) ≤ 0) := c184
              refine T_p xr_143_94 xn_143 (pc' := 95) (ls' := [(2, .int (iI ((en - (o 7)) - 1))), (1, .int (iI (bI (¬ X_DA tb len (p + 1) en)))), (0, .ref 530)]) (st' := [.int (iI ((en - (o 7)) - 1)), .ref 530]) rfl ?_
              refine T_p xr_143_95 xn_143 (pc' := 97) (ls' := [(2, .int (iI ((en - (o 7)) - 1))), (1, .int (iI (bI (¬ X_DA tb len (p + 1) en)))), (0, .ref 530)]) (st' := [.int (iI 9), .int (iI ((en - (o 7)) - 1)), .ref 530]) rfl ?_
              refine T_zicmp_ge xr_143_97 (t := 108) (pc' := 100) rfl rfl (fun c203 => ?_) (fun c203 => ?_)
              · skip
                have c203 : 9 ≤ ((en - (o 7)) - 1) := c203
                refine T_p xr_143_108 xn_143 (pc' := 109) (ls' := [(2, .int (iI ((en - (o 7)) - 1))), (1, .int (iI (bI (¬ X_DA tb len (p + 1) en)))), (0, .ref 530)]) (st' := [.int (iI 1), .ref 530]) rfl ?_
                refine T_put xr_143_109 hM1 rfl (Nat.le_of_ble_eq_true rfl) rfl (fs' := [.ref 531, .int (iI (o 1)), .ref 532, .int (iI (o 3)), .int (iI (o 4)), .int (iI (o 5)), .int (iI (o 6)), .int (iI (o 7)), .int (iI en), .int (iI 1), .int (iI (o 10)), .int (iI (o 11)), .long nm, .ref 533, .ref 534, .ref 535, .ref 536, .ref 537, .ref 538, .ref 539, .ref 540, .ref 541, .ref 542, .ref 543, .ref 544, .ref 545, .ref 546, .ref 547, .int (iI (o 28)), .int (iI (o 29)), .int (iI (o 30)), .int (iI (o 31)), .int (iI (o 32)), .int (iI (o 33)), .ref 548, .ref 549, .ref 550, .ref 551, .int (iI (o 38)), .ref 552, .ref 553, .ref 554, .ref 555, .ref 556, .ref 557, .ref 558, .ref 559, .ref 560, .ref 561, .int (iI (o 49)), .ref 562, .ref 563, .ref 564, .ref 565, .ref 566, .ref 567, .ref 568, .ref 569, .int (iI (o 58)), .ref 570, .ref 571, .ref 572, .ref 573, .ref 574, .ref 575, .ref 576, .ref 577, .ref 578, .int (iI (o 68)), .int (iI (o 69)), .int (iI (o 70)), .ref 579]) rfl (pc' := 112) rfl (fun S204 h205 n206 e207 => ?_)
                refine T_p xr_143_112 xn_143 (pc' := 113) (ls' := [(2, .int (iI ((en - (o 7)) - 1))), (1, .int (iI (bI (¬ X_DA tb len (p + 1) en)))), (0, .ref 530)]) (st' := [.ref 530]) rfl ?_
                refine T_p xr_143_113 xn_143 (pc' := 114) (ls' := [(2, .int (iI ((en - (o 7)) - 1))), (1, .int (iI (bI (¬ X_DA tb len (p + 1) en)))), (0, .ref 530)]) (st' := [.ref 530, .ref 530]) rfl ?_
                refine T_get xr_143_114 h205 rfl (v := .int (iI (o 7))) rfl (pc' := 117) rfl ?_
                refine T_p xr_143_117 xn_143 (pc' := 118) (ls' := [(2, .int (iI ((en - (o 7)) - 1))), (1, .int (iI (bI (¬ X_DA tb len (p + 1) en)))), (0, .ref 530)]) (st' := [.int (iI 1), .int (iI (o 7)), .ref 530]) rfl ?_
                refine T_ziadd xr_143_118 (z := (o 7) + 1) rfl (pc' := 119) rfl ?_
                refine T_p xr_143_119 xn_143 (pc' := 120) (ls' := [(2, .int (iI ((en - (o 7)) - 1))), (1, .int (iI (bI (¬ X_DA tb len (p + 1) en)))), (0, .ref 530)]) (st' := [.ref 530, .int (iI ((o 7) + 1)), .ref 530]) rfl ?_
                refine T_get xr_143_120 h205 rfl (v := .int (iI en)) rfl (pc' := 123) rfl ?_
                refine T_cv (S := S204) (q := 530) xr_143_123 xf_142.1 xf_142.2.1 xn_142 (as := [.int (iI ((o 7) + 1)), .int (iI en)]) (r := []) rfl h205 (Nat.le_of_ble_eq_true rfl) (Nat.le_of_ble_eq_true rfl) (pc' := 126) rfl (ls' := [(0, .ref 530), (1, .int (iI ((o 7) + 1))), (2, .int (iI en))]) rfl ?_
                have h208 := (n206 532 (by decide)).trans (h144)
                refine T_mono (r_pack sc S204 (X_ou (X_ou o 8 en) 9 1) nm tx tb len ((o 7) + 1) en h205 h208 (show (o 3) = len from by first | assumption | omega) hl htx (by omega) (by omega)) (fun v209 S210 h211 => ?_)
                rcases h211 with ⟨nm212, hv213, hp214, hM215, hf216⟩
                rw [hv213]
                have h217 : S210.1 530 = .inr (11, [.ref 531, .int (iI (o 1)), .ref 532, .int (iI (o 3)), .int (iI (o 4)), .int (iI (o 5)), .int (iI (o 6)), .int (iI (o 7)), .int (iI en), .int (iI 1), .int (iI (o 10)), .int (iI (o 11)), .long nm212, .ref 533, .ref 534, .ref 535, .ref 536, .ref 537, .ref 538, .ref 539, .ref 540, .ref 541, .ref 542, .ref 543, .ref 544, .ref 545, .ref 546, .ref 547, .int (iI (o 28)), .int (iI (o 29)), .int (iI (o 30)), .int (iI (o 31)), .int (iI (o 32)), .int (iI (o 33)), .ref 548, .ref 549, .ref 550, .ref 551, .int (iI (o 38)), .ref 552, .ref 553, .ref 554, .ref 555, .ref 556, .ref 557, .ref 558, .ref 559, .ref 560, .ref 561, .int (iI (o 49)), .ref 562, .ref 563, .ref 564, .ref 565, .ref 566, .ref 567, .ref 568, .ref 569, .int (iI (o 58)), .ref 570, .ref 571, .ref 572, .ref 573, .ref 574, .ref 575, .ref 576, .ref 577, .ref 578, .int (iI (o 68)), .int (iI (o 69)), .int (iI (o 70)), .ref 579]) := hM215
                show X_T sc 143 (126, [(2, .int (iI ((en - (o 7)) - 1))), (1, .int (iI (bI (¬ X_DA tb len (p + 1) en)))), (0, .ref 530)], [], S210) _
                refine T_p xr_143_126 xn_143 (pc' := 127) (ls' := [(2, .int (iI ((en - (o 7)) - 1))), (1, .int (iI (bI (¬ X_DA tb len (p + 1) en)))), (0, .ref 530)]) (st' := [.ref 530]) rfl ?_
                refine T_p xr_143_127 xn_143 (pc' := 128) (ls' := [(2, .int (iI ((en - (o 7)) - 1))), (1, .int (iI (bI (¬ X_DA tb len (p + 1) en)))), (0, .ref 530)]) (st' := [.ref 530, .ref 530]) rfl ?_
                refine T_get xr_143_128 h217 rfl (v := .int (iI en)) rfl (pc' := 131) rfl ?_
                refine T_p xr_143_131 xn_143 (pc' := 132) (ls' := [(2, .int (iI ((en - (o 7)) - 1))), (1, .int (iI (bI (¬ X_DA tb len (p + 1) en)))), (0, .ref 530)]) (st' := [.int (iI 1), .int (iI en), .ref 530]) rfl ?_
                refine T_ziadd xr_143_132 (z := en + 1) rfl (pc' := 133) rfl ?_
                refine T_put xr_143_133 h217 rfl (Nat.le_of_ble_eq_true rfl) rfl (fs' := [.ref 531, .int (iI (o 1)), .ref 532, .int (iI (o 3)), .int (iI (o 4)), .int (iI (o 5)), .int (iI (o 6)), .int (iI (o 7)), .int (iI (en + 1)), .int (iI 1), .int (iI (o 10)), .int (iI (o 11)), .long nm212, .ref 533, .ref 534, .ref 535, .ref 536, .ref 537, .ref 538, .ref 539, .ref 540, .ref 541, .ref 542, .ref 543, .ref 544, .ref 545, .ref 546, .ref 547, .int (iI (o 28)), .int (iI (o 29)), .int (iI (o 30)), .int (iI (o 31)), .int (iI (o 32)), .int (iI (o 33)), .ref 548, .ref 549, .ref 550, .ref 551, .int (iI (o 38)), .ref 552, .ref 553, .ref 554, .ref 555, .ref 556, .ref 557, .ref 558, .ref 559, .ref 560, .ref 561, .int (iI (o 49)), .ref 562, .ref 563, .ref 564, .ref 565, .ref 566, .ref 567, .ref 568, .ref 569, .int (iI (o 58)), .ref 570, .ref 571, .ref 572, .ref 573, .ref 574, .ref 575, .ref 576, .ref 577, .ref 578, .int (iI (o 68)), .int (iI (o 69)), .int (iI (o 70)), .ref 579]) rfl (pc' := 136) rfl (fun S218 h219 n220 e221 => ?_)
                refine T_vret xr_143_136 xf_143.2.2 ?_
                refine hQ _ _ ?_
                exact ⟨en + 1, 1, nm212, 1, 0, en, rfl, ⟨hp4, en, hm.symm, Or.inl ⟨by first | exact Or.inl (by omega) | exact Or.inr (Or.inl (by omega)) | exact Or.inr (Or.inr (fun k g1 g2 => absurd g2 (by omega))) | exact Or.inr (Or.inr (Classical.not_not.mp (by assumption))), rfl, rfl, rfl⟩⟩, rfl, fun h => absurd rfl h, by first | assumption | omega, h219, ((((X_Fr.rf).tr (X_Fr.mono ⟨hF39.1, hF39.2⟩ (fun q hq => (by omega)))).tr (X_Fr.of n206 e207 (by omega))).tr (X_Fr.mono ⟨hf216.1, hf216.2⟩ (fun q hq => (by omega)))).tr (X_Fr.of n220 e221 (by omega))⟩
              · skip
                have c203 : ¬ (9 ≤ ((en - (o 7)) - 1)) := c203
                refine T_p xr_143_100 xn_143 (pc' := 101) (ls' := [(2, .int (iI ((en - (o 7)) - 1))), (1, .int (iI (bI (¬ X_DA tb len (p + 1) en)))), (0, .ref 530)]) (st' := [.int (iI (bI (¬ X_DA tb len (p + 1) en))), .ref 530]) rfl ?_
                refine T_bif_eq xr_143_101 (t := 108) (pc' := 104) rfl rfl (fun c222 => ?_) (fun c222 => ?_)
                · skip
                  have c222 : ¬ (¬ X_DA tb len (p + 1) en) := c222
                  refine T_p xr_143_108 xn_143 (pc' := 109) (ls' := [(2, .int (iI ((en - (o 7)) - 1))), (1, .int (iI (bI (¬ X_DA tb len (p + 1) en)))), (0, .ref 530)]) (st' := [.int (iI 1), .ref 530]) rfl ?_
                  refine T_put xr_143_109 hM1 rfl (Nat.le_of_ble_eq_true rfl) rfl (fs' := [.ref 531, .int (iI (o 1)), .ref 532, .int (iI (o 3)), .int (iI (o 4)), .int (iI (o 5)), .int (iI (o 6)), .int (iI (o 7)), .int (iI en), .int (iI 1), .int (iI (o 10)), .int (iI (o 11)), .long nm, .ref 533, .ref 534, .ref 535, .ref 536, .ref 537, .ref 538, .ref 539, .ref 540, .ref 541, .ref 542, .ref 543, .ref 544, .ref 545, .ref 546, .ref 547, .int (iI (o 28)), .int (iI (o 29)), .int (iI (o 30)), .int (iI (o 31)), .int (iI (o 32)), .int (iI (o 33)), .ref 548, .ref 549, .ref 550, .ref 551, .int (iI (o 38)), .ref 552, .ref 553, .ref 554, .ref 555, .ref 556, .ref 557, .ref 558, .ref 559, .ref 560, .ref 561, .int (iI (o 49)), .ref 562, .ref 563, .ref 564, .ref 565, .ref 566, .ref 567, .ref 568, .ref 569, .int (iI (o 58)), .ref 570, .ref 571, .ref 572, .ref 573, .ref 574, .ref 575, .ref 576, .ref 577, .ref 578, .int (iI (o 68)), .int (iI (o 69)), .int (iI (o 70)), .ref 579]) rfl (pc' := 112) rfl (fun S223 h224 n225 e226 => ?_)
                  refine T_p xr_143_112 xn_143 (pc' := 113) (ls' := [(2, .int (iI ((en - (o 7)) - 1))), (1, .int (iI (bI (¬ X_DA tb len (p + 1) en)))), (0, .ref 530)]) (st' := [.ref 530]) rfl ?_
                  refine T_p xr_143_113 xn_143 (pc' := 114) (ls' := [(2, .int (iI ((en - (o 7)) - 1))), (1, .int (iI (bI (¬ X_DA tb len (p + 1) en)))), (0, .ref 530)]) (st' := [.ref 530, .ref 530]) rfl ?_
                  refine T_get xr_143_114 h224 rfl (v := .int (iI (o 7))) rfl (pc' := 117) rfl ?_
                  refine T_p xr_143_117 xn_143 (pc' := 118) (ls' := [(2, .int (iI ((en - (o 7)) - 1))), (1, .int (iI (bI (¬ X_DA tb len (p + 1) en)))), (0, .ref 530)]) (st' := [.int (iI 1), .int (iI (o 7)), .ref 530]) rfl ?_
                  refine T_ziadd xr_143_118 (z := (o 7) + 1) rfl (pc' := 119) rfl ?_
                  refine T_p xr_143_119 xn_143 (pc' := 120) (ls' := [(2, .int (iI ((en - (o 7)) - 1))), (1, .int (iI (bI (¬ X_DA tb len (p + 1) en)))), (0, .ref 530)]) (st' := [.ref 530, .int (iI ((o 7) + 1)), .ref 530]) rfl ?_
                  refine T_get xr_143_120 h224 rfl (v := .int (iI en)) rfl (pc' := 123) rfl ?_
                  refine T_cv (S := S223) (q := 530) xr_143_123 xf_142.1 xf_142.2.1 xn_142 (as := [.int (iI ((o 7) + 1)), .int (iI en)]) (r := []) rfl h224 (Nat.le_of_ble_eq_true rfl) (Nat.le_of_ble_eq_true rfl) (pc' := 126) rfl (ls' := [(0, .ref 530), (1, .int (iI ((o 7) + 1))), (2, .int (iI en))]) rfl ?_
                  have h227 := (n225 532 (by decide)).trans (h144)
                  refine T_mono (r_pack sc S223 (X_ou (X_ou o 8 en) 9 1) nm tx tb len ((o 7) + 1) en h224 h227 (show (o 3) = len from by first | assumption | omega) hl htx (by omega) (by omega)) (fun v228 S229 h230 => ?_)
                  rcases h230 with ⟨nm231, hv232, hp233, hM234, hf235⟩
                  rw [hv232]
                  have h236 : S229.1 530 = .inr (11, [.ref 531, .int (iI (o 1)), .ref 532, .int (iI (o 3)), .int (iI (o 4)), .int (iI (o 5)), .int (iI (o 6)), .int (iI (o 7)), .int (iI en), .int (iI 1), .int (iI (o 10)), .int (iI (o 11)), .long nm231, .ref 533, .ref 534, .ref 535, .ref 536, .ref 537, .ref 538, .ref 539, .ref 540, .ref 541, .ref 542, .ref 543, .ref 544, .ref 545, .ref 546, .ref 547, .int (iI (o 28)), .int (iI (o 29)), .int (iI (o 30)), .int (iI (o 31)), .int (iI (o 32)), .int (iI (o 33)), .ref 548, .ref 549, .ref 550, .ref 551, .int (iI (o 38)), .ref 552, .ref 553, .ref 554, .ref 555, .ref 556, .ref 557, .ref 558, .ref 559, .ref 560, .ref 561, .int (iI (o 49)), .ref 562, .ref 563, .ref 564, .ref 565, .ref 566, .ref 567, .ref 568, .ref 569, .int (iI (o 58)), .ref 570, .ref 571, .ref 572, .ref 573, .ref 574, .ref 575, .ref 576, .ref 577, .ref 578, .int (iI (o 68)), .int (iI (o 69)), .int (iI (o 70)), .ref 579]) := hM234
                  show X_T sc 143 (126, [(2, .int (iI ((en - (o 7)) - 1))), (1, .int (iI (bI (¬ X_DA tb len (p + 1) en)))), (0, .ref 530)], [], S229) _
                  refine T_p xr_143_126 xn_143 (pc' := 127) (ls' := [(2, .int (iI ((en - (o 7)) - 1))), (1, .int (iI (bI (¬ X_DA tb len (p + 1) en)))), (0, .ref 530)]) (st' := [.ref 530]) rfl ?_
                  refine T_p xr_143_127 xn_143 (pc' := 128) (ls' := [(2, .int (iI ((en - (o 7)) - 1))), (1, .int (iI (bI (¬ X_DA tb len (p + 1) en)))), (0, .ref 530)]) (st' := [.ref 530, .ref 530]) rfl ?_
                  refine T_get xr_143_128 h236 rfl (v := .int (iI en)) rfl (pc' := 131) rfl ?_
                  refine T_p xr_143_131 xn_143 (pc' := 132) (ls' := [(2, .int (iI ((en - (o 7)) - 1))), (1, .int (iI (bI (¬ X_DA tb len (p + 1) en)))), (0, .ref 530)]) (st' := [.int (iI 1), .int (iI en), .ref 530]) rfl ?_
                  refine T_ziadd xr_143_132 (z := en + 1) rfl (pc' := 133) rfl ?_
                  refine T_put xr_143_133 h236 rfl (Nat.le_of_ble_eq_true rfl) rfl (fs' := [.ref 531, .int (iI (o 1)), .ref 532, .int (iI (o 3)), .int (iI (o 4)), .int (iI (o 5)), .int (iI (o 6)), .int (iI (o 7)), .int (iI (en + 1)), .int (iI 1), .int (iI (o 10)), .int (iI (o 11)), .long nm231, .ref 533, .ref 534, .ref 535, .ref 536, .ref 537, .ref 538, .ref 539, .ref 540, .ref 541, .ref 542, .ref 543, .ref 544, .ref 545, .ref 546, .ref 547, .int (iI (o 28)), .int (iI (o 29)), .int (iI (o 30)), .int (iI (o 31)), .int (iI (o 32)), .int (iI (o 33)), .ref 548, .ref 549, .ref 550, .ref 551, .int (iI (o 38)), .ref 552, .ref 553, .ref 554, .ref 555, .ref 556, .ref 557, .ref 558, .ref 559, .ref 560, .ref 561, .int (iI (o 49)), .ref 562, .ref 563, .ref 564, .ref 565, .ref 566, .ref 567, .ref 568, .ref 569, .int (iI (o 58)), .ref 570, .ref 571, .ref 572, .ref 573, .ref 574, .ref 575, .ref 576, .ref 577, .ref 578, .int (iI (o 68)), .int (iI (o 69)), .int (iI (o 70)), .ref 579]) rfl (pc' := 136) rfl (fun S237 h238 n239 e240 => ?_)
                  refine T_vret xr_143_136 xf_143.2.2 ?_
                  refine hQ _ _ ?_
                  exact ⟨en + 1, 1, nm231, 1, 0, en, rfl, ⟨hp4, en, hm.symm, Or.inl ⟨by first | exact Or.inl (by omega) | exact Or.inr (Or.inl (by omega)) | exact Or.inr (Or.inr (fun k g1 g2 => absurd g2 (by omega))) | exact Or.inr (Or.inr (Classical.not_not.mp (by assumption))), rfl, rfl, rfl⟩⟩, rfl, fun h => absurd rfl h, by first | assumption | omega, h238, ((((X_Fr.rf).tr (X_Fr.mono ⟨hF39.1, hF39.2⟩ (fun q hq => (by omega)))).tr (X_Fr.of n225 e226 (by omega))).tr (X_Fr.mono ⟨hf235.1, hf235.2⟩ (fun q hq => (by omega)))).tr (X_Fr.of n239 e240 (by omega))⟩
                · skip
                  have c222 : (¬ X_DA tb len (p + 1) en) := c222
                  refine T_p xr_143_104 xn_143 (pc' := 105) (ls' := [(2, .int (iI ((en - (o 7)) - 1))), (1, .int (iI (bI (¬ X_DA tb len (p + 1) en)))), (0, .ref 530)]) (st' := [.int (iI 5), .ref 530]) rfl ?_
                  refine T_p xr_143_105 xn_143 (pc' := 109) (ls' := [(2, .int (iI ((en - (o 7)) - 1))), (1, .int (iI (bI (¬ X_DA tb len (p + 1) en)))), (0, .ref 530)]) (st' := [.int (iI 5), .ref 530]) rfl ?_
                  refine T_put xr_143_109 hM1 rfl (Nat.le_of_ble_eq_true rfl) rfl (fs' := [.ref 531, .int (iI (o 1)), .ref 532, .int (iI (o 3)), .int (iI (o 4)), .int (iI (o 5)), .int (iI (o 6)), .int (iI (o 7)), .int (iI en), .int (iI 5), .int (iI (o 10)), .int (iI (o 11)), .long nm, .ref 533, .ref 534, .ref 535, .ref 536, .ref 537, .ref 538, .ref 539, .ref 540, .ref 541, .ref 542, .ref 543, .ref 544, .ref 545, .ref 546, .ref 547, .int (iI (o 28)), .int (iI (o 29)), .int (iI (o 30)), .int (iI (o 31)), .int (iI (o 32)), .int (iI (o 33)), .ref 548, .ref 549, .ref 550, .ref 551, .int (iI (o 38)), .ref 552, .ref 553, .ref 554, .ref 555, .ref 556, .ref 557, .ref 558, .ref 559, .ref 560, .ref 561, .int (iI (o 49)), .ref 562, .ref 563, .ref 564, .ref 565, .ref 566, .ref 567, .ref 568, .ref 569, .int (iI (o 58)), .ref 570, .ref 571, .ref 572, .ref 573, .ref 574, .ref 575, .ref 576, .ref 577, .ref 578, .int (iI (o 68)), .int (iI (o 69)), .int (iI (o 70)), .ref 579]) rfl (pc' := 112) rfl (fun S241 h242 n243 e244 => ?_)
                  refine T_p xr_143_112 xn_143 (pc' := 113) (ls' := [(2, .int (iI ((en - (o 7)) - 1))), (1, .int (iI (bI (¬ X_DA tb len (p + 1) en)))), (0, .ref 530)]) (st' := [.ref 530]) rfl ?_
                  refine T_p xr_143_113 xn_143 (pc' := 114) (ls' := [(2, .int (iI ((en - (o 7)) - 1))), (1, .int (iI (bI (¬ X_DA tb len (p + 1) en)))), (0, .ref 530)]) (st' := [.ref 530, .ref 530]) rfl ?_
                  refine T_get xr_143_114 h242 rfl (v := .int (iI (o 7))) rfl (pc' := 117) rfl ?_
                  refine T_p xr_143_117 xn_143 (pc' := 118) (ls' := [(2, .int (iI ((en - (o 7)) - 1))), (1, .int (iI (bI (¬ X_DA tb len (p + 1) en)))), (0, .ref 530)]) (st' := [.int (iI 1), .int (iI (o 7)), .ref 530]) rfl ?_
                  refine T_ziadd xr_143_118 (z := (o 7) + 1) rfl (pc' := 119) rfl ?_
                  refine T_p xr_143_119 xn_143 (pc' := 120) (ls' := [(2, .int (iI ((en - (o 7)) - 1))), (1, .int (iI (bI (¬ X_DA tb len (p + 1) en)))), (0, .ref 530)]) (st' := [.ref 530, .int (iI ((o 7) + 1)), .ref 530]) rfl ?_
                  refine T_get xr_143_120 h242 rfl (v := .int (iI en)) rfl (pc' := 123) rfl ?_
                  refine T_cv (S := S241) (q := 530) xr_143_123 xf_142.1 xf_142.2.1 xn_142 (as := [.int (iI ((o 7) + 1)), .int (iI en)]) (r := []) rfl h242 (Nat.le_of_ble_eq_true rfl) (Nat.le_of_ble_eq_true rfl) (pc' := 126) rfl (ls' := [(0, .ref 530), (1, .int (iI ((o 7) + 1))), (2, .int (iI en))]) rfl ?_
                  have h245 := (n243 532 (by decide)).trans (h144)
                  refine T_mono (r_pack sc S241 (X_ou (X_ou o 8 en) 9 5) nm tx tb len ((o 7) + 1) en h242 h245 (show (o 3) = len from by first | assumption | omega) hl htx (by omega) (by omega)) (fun v246 S247 h248 => ?_)
                  rcases h248 with ⟨nm249, hv250, hp251, hM252, hf253⟩
                  rw [hv250]
                  have h254 : S247.1 530 = .inr (11, [.ref 531, .int (iI (o 1)), .ref 532, .int (iI (o 3)), .int (iI (o 4)), .int (iI (o 5)), .int (iI (o 6)), .int (iI (o 7)), .int (iI en), .int (iI 5), .int (iI (o 10)), .int (iI (o 11)), .long nm249, .ref 533, .ref 534, .ref 535, .ref 536, .ref 537, .ref 538, .ref 539, .ref 540, .ref 541, .ref 542, .ref 543, .ref 544, .ref 545, .ref 546, .ref 547, .int (iI (o 28)), .int (iI (o 29)), .int (iI (o 30)), .int (iI (o 31)), .int (iI (o 32)), .int (iI (o 33)), .ref 548, .ref 549, .ref 550, .ref 551, .int (iI (o 38)), .ref 552, .ref 553, .ref 554, .ref 555, .ref 556, .ref 557, .ref 558, .ref 559, .ref 560, .ref 561, .int (iI (o 49)), .ref 562, .ref 563, .ref 564, .ref 565, .ref 566, .ref 567, .ref 568, .ref 569, .int (iI (o 58)), .ref 570, .ref 571, .ref 572, .ref 573, .ref 574, .ref 575, .ref 576, .ref 577, .ref 578, .int (iI (o 68)), .int (iI (o 69)), .int (iI (o 70)), .ref 579]) := hM252
                  show X_T sc 143 (126, [(2, .int (iI ((en - (o 7)) - 1))), (1, .int (iI (bI (¬ X_DA tb len (p + 1) en)))), (0, .ref 530)], [], S247) _
                  refine T_p xr_143_126 xn_143 (pc' := 127) (ls' := [(2, .int (iI ((en - (o 7)) - 1))), (1, .int (iI (bI (¬ X_DA tb len (p + 1) en)))), (0, .ref 530)]) (st' := [.ref 530]) rfl ?_
                  refine T_p xr_143_127 xn_143 (pc' := 128) (ls' := [(2, .int (iI ((en - (o 7)) - 1))), (1, .int (iI (bI (¬ X_DA tb len (p + 1) en)))), (0, .ref 530)]) (st' := [.ref 530, .ref 530]) rfl ?_
                  refine T_get xr_143_128 h254 rfl (v := .int (iI en)) rfl (pc' := 131) rfl ?_
                  refine T_p xr_143_131 xn_143 (pc' := 132) (ls' := [(2, .int (iI ((en - (o 7)) - 1))), (1, .int (iI (bI (¬ X_DA tb len (p + 1) en)))), (0, .ref 530)]) (st' := [.int (iI 1), .int (iI en), .ref 530]) rfl ?_
                  refine T_ziadd xr_143_132 (z := en + 1) rfl (pc' := 133) rfl ?_
                  refine T_put xr_143_133 h254 rfl (Nat.le_of_ble_eq_true rfl) rfl (fs' := [.ref 531, .int (iI (o 1)), .ref 532, .int (iI (o 3)), .int (iI (o 4)), .int (iI (o 5)), .int (iI (o 6)), .int (iI (o 7)), .int (iI (en + 1)), .int (iI 5), .int (iI (o 10)), .int (iI (o 11)), .long nm249, .ref 533, .ref 534, .ref 535, .ref 536, .ref 537, .ref 538, .ref 539, .ref 540, .ref 541, .ref 542, .ref 543, .ref 544, .ref 545, .ref 546, .ref 547, .int (iI (o 28)), .int (iI (o 29)), .int (iI (o 30)), .int (iI (o 31)), .int (iI (o 32)), .int (iI (o 33)), .ref 548, .ref 549, .ref 550, .ref 551, .int (iI (o 38)), .ref 552, .ref 553, .ref 554, .ref 555, .ref 556, .ref 557, .ref 558, .ref 559, .ref 560, .ref 561, .int (iI (o 49)), .ref 562, .ref 563, .ref 564, .ref 565, .ref 566, .ref 567, .ref 568, .ref 569, .int (iI (o 58)), .ref 570, .ref 571, .ref 572, .ref 573, .ref 574, .ref 575, .ref 576, .ref 577, .ref 578, .int (iI (o 68)), .int (iI (o 69)), .int (iI (o 70)), .ref 579]) rfl (pc' := 136) rfl (fun S255 h256 n257 e258 => ?_)
                  refine T_vret xr_143_136 xf_143.2.2 ?_
                  refine hQ _ _ ?_
                  refine ⟨en + 1, 5, nm249, 6, nm249, en + 1, rfl, ?_, rfl, ?_, by first | assumption | omega, h256, ((((X_Fr.rf).tr (X_Fr.mono ⟨hF39.1, hF39.2⟩ (fun q hq => (by omega)))).tr (X_Fr.of n243 e244 (by omega))).tr (X_Fr.mono ⟨hf253.1, hf253.2⟩ (fun q hq => (by omega)))).tr (X_Fr.of n257 e258 (by omega))⟩
                  · refine ⟨hp4, en, hm.symm, Or.inr ⟨by omega, by omega, by assumption, rfl, ?_, rfl⟩⟩
                    have h9 := hp251 (by omega)
                    rw [hp1] at h9
                    exact h9
                  · intro _
                    exact ⟨rfl, rfl⟩
        · skip
          have c157 : (X_isPB (X_sg tb len en)) := c157
          have J259 : X_T sc 143 (50, [(1, .int (iI (bI (¬ X_DA tb len (p + 1) en)))), (0, .ref 530)], [.int (iI (bI (¬ X_DA tb len (p + 1) (en + 1))))], S40) Q := by
            refine T_p xr_143_50 xn_143 (pc' := 51) (ls' := [(1, .int (iI (bI (¬ X_DA tb len (p + 1) (en + 1))))), (0, .ref 530)]) (st' := []) rfl ?_
            refine T_p xr_143_51 xn_143 (pc' := 52) (ls' := [(1, .int (iI (bI (¬ X_DA tb len (p + 1) (en + 1))))), (0, .ref 530)]) (st' := [.ref 530]) rfl ?_
            refine T_p xr_143_52 xn_143 (pc' := 53) (ls' := [(1, .int (iI (bI (¬ X_DA tb len (p + 1) (en + 1))))), (0, .ref 530)]) (st' := [.ref 530, .ref 530]) rfl ?_
            refine T_get xr_143_53 hM1 rfl (v := .int (iI en)) rfl (pc' := 56) rfl ?_
            refine T_p xr_143_56 xn_143 (pc' := 57) (ls' := [(1, .int (iI (bI (¬ X_DA tb len (p + 1) (en + 1))))), (0, .ref 530)]) (st' := [.int (iI 1), .int (iI en), .ref 530]) rfl ?_
            refine T_ziadd xr_143_57 (z := en + 1) rfl (pc' := 58) rfl ?_
            refine T_put xr_143_58 hM1 rfl (Nat.le_of_ble_eq_true rfl) rfl (fs' := [.ref 531, .int (iI (o 1)), .ref 532, .int (iI (o 3)), .int (iI (o 4)), .int (iI (o 5)), .int (iI (o 6)), .int (iI (o 7)), .int (iI (en + 1)), .int (iI (o 9)), .int (iI (o 10)), .int (iI (o 11)), .long nm, .ref 533, .ref 534, .ref 535, .ref 536, .ref 537, .ref 538, .ref 539, .ref 540, .ref 541, .ref 542, .ref 543, .ref 544, .ref 545, .ref 546, .ref 547, .int (iI (o 28)), .int (iI (o 29)), .int (iI (o 30)), .int (iI (o 31)), .int (iI (o 32)), .int (iI (o 33)), .ref 548, .ref 549, .ref 550, .ref 551, .int (iI (o 38)), .ref 552, .ref 553, .ref 554, .ref 555, .ref 556, .ref 557, .ref 558, .ref 559, .ref 560, .ref 561, .int (iI (o 49)), .ref 562, .ref 563, .ref 564, .ref 565, .ref 566, .ref 567, .ref 568, .ref 569, .int (iI (o 58)), .ref 570, .ref 571, .ref 572, .ref 573, .ref 574, .ref 575, .ref 576, .ref 577, .ref 578, .int (iI (o 68)), .int (iI (o 69)), .int (iI (o 70)), .ref 579]) rfl (pc' := 61) rfl (fun S260 h261 n262 e263 => ?_)
            refine T_p xr_143_61 xn_143 (pc' := 2) (ls' := [(1, .int (iI (bI (¬ X_DA tb len (p + 1) (en + 1))))), (0, .ref 530)]) (st' := []) rfl ?_
            exact ih36 S260 (en + 1) h261 (hF39.tr ((X_Fr.rf).tr (X_Fr.of n262 e263 (by omega)))) (by omega) ((X_se_go (by omega) (X_sg_B.mp (by assumption)).2).symm.trans hse) (by omega)
          refine T_p xr_143_27 xn_143 (pc' := 28) (ls' := [(1, .int (iI (bI (¬ X_DA tb len (p + 1) en)))), (0, .ref 530)]) (st' := [.int (iI (bI (¬ X_DA tb len (p + 1) en)))]) rfl ?_
          refine T_bif_ne xr_143_28 (t := 45) (pc' := 31) rfl rfl (fun c264 => ?_) (fun c264 => ?_)
          · skip
            have c264 : (¬ X_DA tb len (p + 1) en) := c264
            refine T_p xr_143_45 xn_143 (pc' := 46) (ls' := [(1, .int (iI (bI (¬ X_DA tb len (p + 1) en)))), (0, .ref 530)]) (st' := [.int (iI 1)]) rfl ?_
            refine T_p xr_143_46 xn_143 (pc' := 50) (ls' := [(1, .int (iI (bI (¬ X_DA tb len (p + 1) en)))), (0, .ref 530)]) (st' := [.int (iI 1)]) rfl ?_
            refine T_ie (y := iI (bI (¬ X_DA tb len (p + 1) (en + 1)))) (by rw [bI_t (by first | (intro h; exact absurd (show X_DA tb len (p + 1) en from fun k h1 h2 => h k h1 (by omega)) (by assumption)) | (intro h; exact absurd (X_sg_D.mpr ⟨by omega, h en (by omega) (by omega)⟩) (by assumption)))]) ?_
            exact J259
          · skip
            have c264 : ¬ (¬ X_DA tb len (p + 1) en) := c264
            refine T_p xr_143_31 xn_143 (pc' := 32) (ls' := [(1, .int (iI (bI (¬ X_DA tb len (p + 1) en)))), (0, .ref 530)]) (st' := [.ref 530]) rfl ?_
            refine T_p xr_143_32 xn_143 (pc' := 33) (ls' := [(1, .int (iI (bI (¬ X_DA tb len (p + 1) en)))), (0, .ref 530)]) (st' := [.ref 530, .ref 530]) rfl ?_
            refine T_get xr_143_33 hM1 rfl (v := .int (iI en)) rfl (pc' := 36) rfl ?_
            refine T_cv (S := S40) (q := 530) xr_143_36 xf_136.1 xf_136.2.1 xn_136 (as := [.int (iI en)]) (r := []) rfl hM1 (Nat.le_of_ble_eq_true rfl) (Nat.le_of_ble_eq_true rfl) (pc' := 39) rfl (ls' := [(0, .ref 530), (1, .int (iI en))]) rfl ?_
            refine T_mono (r_sign sc S40 (X_ou o 8 en) nm tx tb len en hM1 h144 (show (o 3) = len from by first | assumption | omega) hl htx (by omega)) (fun v265 S266 h267 => ?_)
            rcases h267 with ⟨hv268, hf269⟩
            rw [hv268]
            rw [hf269]
            have hg270 := X_sg_r (tb := tb) (len := len) (k := en) (by omega)
            have hg271 := X_sg_c (tb := tb) (len := len) (k := en)
            show X_T sc 143 (39, [(1, .int (iI (bI (¬ X_DA tb len (p + 1) en)))), (0, .ref 530)], [.int (iI (X_sg tb len en))], S40) _
            refine T_cs xr_143_39 (by decide) xf_138.1 xn_138 (as := [.int (iI (X_sg tb len en))]) (r := []) rfl (Nat.le_of_ble_eq_true rfl) (Nat.le_of_ble_eq_true rfl) (pc' := 42) rfl (ls' := [(0, .int (iI (X_sg tb len en)))]) rfl ?_
            refine T_mono (r_isDigit sc S40 (X_sg tb len en) (by omega)) (fun v272 S273 h274 => ?_)
            rcases h274 with ⟨hv275, hf276⟩
            rw [hv275]
            rw [hf276]
            show X_T sc 143 (42, [(1, .int (iI (bI (¬ X_DA tb len (p + 1) en)))), (0, .ref 530)], [.int (iI (bI (X_isD (X_sg tb len en))))], S40) _
            refine T_bif_ne xr_143_42 (t := 49) (pc' := 45) rfl rfl (fun c277 => ?_) (fun c277 => ?_)
            · skip
              have c277 : (X_isD (X_sg tb len en)) := c277
              refine T_p xr_143_49 xn_143 (pc' := 50) (ls' := [(1, .int (iI (bI (¬ X_DA tb len (p + 1) en)))), (0, .ref 530)]) (st' := [.int (iI 0)]) rfl ?_
              refine T_ie (y := iI (bI (¬ X_DA tb len (p + 1) (en + 1)))) (by rw [bI_f (by exact fun z => z (X_DA_go (Classical.not_not.mp (by assumption)) (X_sg_D.mp (by assumption)).2))]) ?_
              exact J259
            · skip
              have c277 : ¬ (X_isD (X_sg tb len en)) := c277
              refine T_p xr_143_45 xn_143 (pc' := 46) (ls' := [(1, .int (iI (bI (¬ X_DA tb len (p + 1) en)))), (0, .ref 530)]) (st' := [.int (iI 1)]) rfl ?_
              refine T_p xr_143_46 xn_143 (pc' := 50) (ls' := [(1, .int (iI (bI (¬ X_DA tb len (p + 1) en)))), (0, .ref 530)]) (st' := [.int (iI 1)]) rfl ?_
              refine T_ie (y := iI (bI (¬ X_DA tb len (p + 1) (en + 1)))) (by rw [bI_t (by first | (intro h; exact absurd (show X_DA tb len (p + 1) en from fun k h1 h2 => h k h1 (by omega)) (by assumption)) | (intro h; exact absurd (X_sg_D.mpr ⟨by omega, h en (by omega) (by omega)⟩) (by assumption)))]) ?_
              exact J259
  exact L35 (len + 1).toNat S (o 8) hM ((X_Fr.rf)) (by omega) (by rw [hp2]) (by omega)
theorem r_next (sc : X_Sc) (S : X_S) (o : Nat → Int) (nm : Int64) (tx : Int → Int) (tb : Int → Int) (len : Int) (hM : M_o S o nm) (hA532 : S.1 532 = .inl (.byte, 2000, .inl fun k : Nat => iI (tx (k : Int)))) (hlen : o 3 = len) (hl : 0 ≤ len ∧ len ≤ 2000) (htx : ∀ k, 0 ≤ k → k < len → tx k = tb k) (he : 0 ≤ o 8 ∧ o 8 ≤ len) : X_T sc 141 (0, [(0, .ref 530)], [], S) (fun v S' => ∃ (at1 : Int) (en1 : Int) (tk1 : Int) (nu1 : Int) (dg1 : Int) (nm1 : Int64) (r1 : Int) (ct1 : Int64) (e1 : Int), v = none ∧ at1 = X_se X_isBl tb len (o 8) ∧ X_Tok tb len at1 r1 ct1 e1 ∧ tk1 = X_rk r1 ∧ (¬ r1 = 1 → en1 = e1) ∧ ((r1 = 2 ∨ r1 = 3 ∨ r1 = 6) → nm1 = ct1) ∧ ((r1 = 4 ∨ r1 = 5) → ct1 = iL nu1 ∧ (dg1 = 1 ↔ r1 = 5) ∧ (1 ≤ dg1 ∧ dg1 ≤ 9) ∧ 0 ≤ nu1 ∧ nu1 ≤ 999999999) ∧ (0 ≤ en1 ∧ en1 ≤ len + 1) ∧ M_o S' (X_ou (X_ou (X_ou (X_ou (X_ou o 7 at1) 8 en1) 9 tk1) 10 nu1) 11 dg1) nm1 ∧ X_Fr (fun q => q = 530) S S') := by
  refine X_QI (fun Q hQ => ?_)
  refine T_p xr_141_0 xn_141 (pc' := 1) (ls' := [(0, .ref 530)]) (st' := [.ref 530]) rfl ?_
  refine T_p xr_141_1 xn_141 (pc' := 2) (ls' := [(0, .ref 530)]) (st' := [.ref 530, .ref 530]) rfl ?_
  refine T_get xr_141_2 hM rfl (v := .int (iI (o 8))) rfl (pc' := 5) rfl ?_
  refine T_put xr_141_5 hM rfl (Nat.le_of_ble_eq_true rfl) rfl (fs' := [.ref 531, .int (iI (o 1)), .ref 532, .int (iI (o 3)), .int (iI (o 4)), .int (iI (o 5)), .int (iI (o 6)), .int (iI (o 8)), .int (iI (o 8)), .int (iI (o 9)), .int (iI (o 10)), .int (iI (o 11)), .long nm, .ref 533, .ref 534, .ref 535, .ref 536, .ref 537, .ref 538, .ref 539, .ref 540, .ref 541, .ref 542, .ref 543, .ref 544, .ref 545, .ref 546, .ref 547, .int (iI (o 28)), .int (iI (o 29)), .int (iI (o 30)), .int (iI (o 31)), .int (iI (o 32)), .int (iI (o 33)), .ref 548, .ref 549, .ref 550, .ref 551, .int (iI (o 38)), .ref 552, .ref 553, .ref 554, .ref 555, .ref 556, .ref 557, .ref 558, .ref 559, .ref 560, .ref 561, .int (iI (o 49)), .ref 562, .ref 563, .ref 564, .ref 565, .ref 566, .ref 567, .ref 568, .ref 569, .int (iI (o 58)), .ref 570, .ref 571, .ref 572, .ref 573, .ref 574, .ref 575, .ref 576, .ref 577, .ref 578, .int (iI (o 68)), .int (iI (o 69)), .int (iI (o 70)), .ref 579]) rfl (pc' := 8) rfl (fun S278 h279 n280 e281 => ?_)
  have L282 : ∀ (m284 : Nat) (S287 : X_S) (at_ : Int) (hM1 : S287.1 530 = .inr (11, [.ref 531, .int (iI (o 1)), .ref 532, .int (iI (o 3)), .int (iI (o 4)), .int (iI (o 5)), .int (iI (o 6)), .int (iI at_), .int (iI (o 8)), .int (iI (o 9)), .int (iI (o 10)), .int (iI (o 11)), .long nm, .ref 533, .ref 534, .ref 535, .ref 536, .ref 537, .ref 538, .ref 539, .ref 540, .ref 541, .ref 542, .ref 543, .ref 544, .ref 545, .ref 546, .ref 547, .int (iI (o 28)), .int (iI (o 29)), .int (iI (o 30)), .int (iI (o 31)), .int (iI (o 32)), .int (iI (o 33)), .ref 548, .ref 549, .ref 550, .ref 551, .int (iI (o 38)), .ref 552, .ref 553, .ref 554, .ref 555, .ref 556, .ref 557, .ref 558, .ref 559, .ref 560, .ref 561, .int (iI (o 49)), .ref 562, .ref 563, .ref 564, .ref 565, .ref 566, .ref 567, .ref 568, .ref 569, .int (iI (o 58)), .ref 570, .ref 571, .ref 572, .ref 573, .ref 574, .ref 575, .ref 576, .ref 577, .ref 578, .int (iI (o 68)), .int (iI (o 69)), .int (iI (o 70)), .ref 579])) (hF286 : X_Fr (fun q => q = 530) S278 S287) (hat : o 8 ≤ at_ ∧ at_ ≤ len) (hse0 : X_se X_isBl tb len at_ = X_se X_isBl tb len (o 8)) (hm285 : len - at_ < m284), X_T sc 141 (8, [(0, .ref 530)], [], S287) Q := by
    intro m284
    induction m284 with
    | zero =>
      intro S287 at_ hM1 hF286 hat hse0 hm285
      exact (show False by omega).elim
    | succ m284 ih283 =>
      intro S287 at_ hM1 hF286 hat hse0 hm285
      refine T_p xr_141_8 xn_141 (pc' := 9) (ls' := [(0, .ref 530)]) (st' := [.ref 530]) rfl ?_
      refine T_get xr_141_9 hM1 rfl (v := .int (iI at_)) rfl (pc' := 12) rfl ?_
      refine T_p xr_141_12 xn_141 (pc' := 13) (ls' := [(0, .ref 530)]) (st' := [.ref 530, .int (iI at_)]) rfl ?_
      refine T_get xr_141_13 hM1 rfl (v := .int (iI (o 3))) rfl (pc' := 16) rfl ?_
      refine T_zicmp_ge xr_141_16 (t := 58) (pc' := 19) rfl rfl (fun c288 => ?_) (fun c288 => ?_)
      · skip
        have c288 : (o 3) ≤ at_ := c288
        have hp : at_ = X_se X_isBl tb len (o 8) := (X_se_no (by first | (intro h; omega) | (rintro ⟨h1, h2⟩; unfold X_isBl at h2; omega))).symm.trans hse0
        refine T_p xr_141_58 xn_141 (pc' := 59) (ls' := [(0, .ref 530)]) (st' := [.ref 530]) rfl ?_
        refine T_p xr_141_59 xn_141 (pc' := 60) (ls' := [(0, .ref 530)]) (st' := [.ref 530, .ref 530]) rfl ?_
        refine T_get xr_141_60 hM1 rfl (v := .int (iI at_)) rfl (pc' := 63) rfl ?_
        refine T_cv (S := S287) (q := 530) xr_141_63 xf_136.1 xf_136.2.1 xn_136 (as := [.int (iI at_)]) (r := []) rfl hM1 (Nat.le_of_ble_eq_true rfl) (Nat.le_of_ble_eq_true rfl) (pc' := 66) rfl (ls' := [(0, .ref 530), (1, .int (iI at_))]) rfl ?_
        have h289 := (hF286.1 532 (by omega)).trans ((n280 532 (by decide)).trans (hA532))
        refine T_mono (r_sign sc S287 (X_ou o 7 at_) nm tx tb len at_ hM1 h289 (show (o 3) = len from by first | assumption | omega) hl htx (by omega)) (fun v290 S291 h292 => ?_)
        rcases h292 with ⟨hv293, hf294⟩
        rw [hv293]
        rw [hf294]
        have hg295 := X_sg_r (tb := tb) (len := len) (k := at_) (by omega)
        have hg296 := X_sg_c (tb := tb) (len := len) (k := at_)
        show X_T sc 141 (66, [(0, .ref 530)], [.int (iI (X_sg tb len at_))], S287) _
        refine T_p xr_141_66 xn_141 (pc' := 67) (ls' := [(1, .int (iI (X_sg tb len at_))), (0, .ref 530)]) (st' := []) rfl ?_
        refine T_p xr_141_67 xn_141 (pc' := 68) (ls' := [(1, .int (iI (X_sg tb len at_))), (0, .ref 530)]) (st' := [.ref 530]) rfl ?_
        refine T_p xr_141_68 xn_141 (pc' := 69) (ls' := [(1, .int (iI (X_sg tb len at_))), (0, .ref 530)]) (st' := [.ref 530, .ref 530]) rfl ?_
        refine T_get xr_141_69 hM1 rfl (v := .int (iI at_)) rfl (pc' := 72) rfl ?_
        refine T_p xr_141_72 xn_141 (pc' := 73) (ls' := [(1, .int (iI (X_sg tb len at_))), (0, .ref 530)]) (st' := [.int (iI 1), .int (iI at_), .ref 530]) rfl ?_
        refine T_ziadd xr_141_73 (z := at_ + 1) rfl (pc' := 74) rfl ?_
        refine T_put xr_141_74 hM1 rfl (Nat.le_of_ble_eq_true rfl) rfl (fs' := [.ref 531, .int (iI (o 1)), .ref 532, .int (iI (o 3)), .int (iI (o 4)), .int (iI (o 5)), .int (iI (o 6)), .int (iI at_), .int (iI (at_ + 1)), .int (iI (o 9)), .int (iI (o 10)), .int (iI (o 11)), .long nm, .ref 533, .ref 534, .ref 535, .ref 536, .ref 537, .ref 538, .ref 539, .ref 540, .ref 541, .ref 542, .ref 543, .ref 544, .ref 545, .ref 546, .ref 547, .int (iI (o 28)), .int (iI (o 29)), .int (iI (o 30)), .int (iI (o 31)), .int (iI (o 32)), .int (iI (o 33)), .ref 548, .ref 549, .ref 550, .ref 551, .int (iI (o 38)), .ref 552, .ref 553, .ref 554, .ref 555, .ref 556, .ref 557, .ref 558, .ref 559, .ref 560, .ref 561, .int (iI (o 49)), .ref 562, .ref 563, .ref 564, .ref 565, .ref 566, .ref 567, .ref 568, .ref 569, .int (iI (o 58)), .ref 570, .ref 571, .ref 572, .ref 573, .ref 574, .ref 575, .ref 576, .ref 577, .ref 578, .int (iI (o 68)), .int (iI (o 69)), .int (iI (o 70)), .ref 579]) rfl (pc' := 77) rfl (fun S297 h298 n299 e300 => ?_)
        refine T_p xr_141_77 xn_141 (pc' := 78) (ls' := [(1, .int (iI (X_sg tb len at_))), (0, .ref 530)]) (st' := [.ref 530]) rfl ?_
        refine T_get xr_141_78 h298 rfl (v := .int (iI at_)) rfl (pc' := 81) rfl ?_
        refine T_p xr_141_81 xn_141 (pc' := 82) (ls' := [(1, .int (iI (X_sg tb len at_))), (0, .ref 530)]) (st' := [.ref 530, .int (iI at_)]) rfl ?_
        refine T_get xr_141_82 h298 rfl (v := .int (iI (o 3))) rfl (pc' := 85) rfl ?_
        refine T_zicmp_lt xr_141_85 (t := 112) (pc' := 88) rfl rfl (fun c301 => ?_) (fun c301 => ?_)
        · skip
          have c301 : at_ < (o 3) := c301
          refine T_p xr_141_112 xn_141 (pc' := 113) (ls' := [(1, .int (iI (X_sg tb len at_))), (0, .ref 530)]) (st' := [.int (iI (X_sg tb len at_))]) rfl ?_
          refine T_cs xr_141_113 (by decide) xf_137.1 xn_137 (as := [.int (iI (X_sg tb len at_))]) (r := []) rfl (Nat.le_of_ble_eq_true rfl) (Nat.le_of_ble_eq_true rfl) (pc' := 116) rfl (ls' := [(0, .int (iI (X_sg tb len at_)))]) rfl ?_
          refine T_mono (r_isLetter sc S297 (X_sg tb len at_) (by omega)) (fun v302 S303 h304 => ?_)
          rcases h304 with ⟨hv305, hf306⟩
          rw [hv305]
          rw [hf306]
          show X_T sc 141 (116, [(1, .int (iI (X_sg tb len at_))), (0, .ref 530)], [.int (iI (bI (X_isL (X_sg tb len at_))))], S297) _
          refine T_bif_eq xr_141_116 (t := 289) (pc' := 119) rfl rfl (fun c307 => ?_) (fun c307 => ?_)
          · skip
            have c307 : ¬ (X_isL (X_sg tb len at_)) := c307
            refine T_p xr_141_289 xn_141 (pc' := 290) (ls' := [(1, .int (iI (X_sg tb len at_))), (0, .ref 530)]) (st' := [.int (iI (X_sg tb len at_))]) rfl ?_
            refine T_cs xr_141_290 (by decide) xf_138.1 xn_138 (as := [.int (iI (X_sg tb len at_))]) (r := []) rfl (Nat.le_of_ble_eq_true rfl) (Nat.le_of_ble_eq_true rfl) (pc' := 293) rfl (ls' := [(0, .int (iI (X_sg tb len at_)))]) rfl ?_
            refine T_mono (r_isDigit sc S297 (X_sg tb len at_) (by omega)) (fun v308 S309 h310 => ?_)
            rcases h310 with ⟨hv311, hf312⟩
            rw [hv311]
            rw [hf312]
            show X_T sc 141 (293, [(1, .int (iI (X_sg tb len at_))), (0, .ref 530)], [.int (iI (bI (X_isD (X_sg tb len at_))))], S297) _
            refine T_bif_eq xr_141_293 (t := 421) (pc' := 296) rfl rfl (fun c313 => ?_) (fun c313 => ?_)
            · skip
              have c313 : ¬ (X_isD (X_sg tb len at_)) := c313
              refine T_p xr_141_421 xn_141 (pc' := 422) (ls' := [(1, .int (iI (X_sg tb len at_))), (0, .ref 530)]) (st' := [.int (iI (X_sg tb len at_))]) rfl ?_
              refine T_p xr_141_422 xn_141 (pc' := 424) (ls' := [(1, .int (iI (X_sg tb len at_))), (0, .ref 530)]) (st' := [.int (iI 34), .int (iI (X_sg tb len at_))]) rfl ?_
              refine T_zicmp_ne xr_141_424 (t := 434) (pc' := 427) rfl rfl (fun c314 => ?_) (fun c314 => ?_)
              · skip
                have c314 : ¬ (X_sg tb len at_) = 34 := c314
                refine T_p xr_141_434 xn_141 (pc' := 435) (ls' := [(1, .int (iI (X_sg tb len at_))), (0, .ref 530)]) (st' := [.int (iI (X_sg tb len at_))]) rfl ?_
                refine T_p xr_141_435 xn_141 (pc' := 437) (ls' := [(1, .int (iI (X_sg tb len at_))), (0, .ref 530)]) (st' := [.int (iI 95), .int (iI (X_sg tb len at_))]) rfl ?_
                refine T_zicmp_ne xr_141_437 (t := 481) (pc' := 440) rfl rfl (fun c315 => ?_) (fun c315 => ?_)
                · skip
                  have c315 : ¬ (X_sg tb len at_) = 95 := c315
                  refine T_p xr_141_481 xn_141 (pc' := 482) (ls' := [(1, .int (iI (X_sg tb len at_))), (0, .ref 530)]) (st' := [.ref 530]) rfl ?_
                  refine T_p xr_141_482 xn_141 (pc' := 483) (ls' := [(1, .int (iI (X_sg tb len at_))), (0, .ref 530)]) (st' := [.int (iI (X_sg tb len at_)), .ref 530]) rfl ?_
                  refine T_p xr_141_483 xn_141 (pc' := 485) (ls' := [(1, .int (iI (X_sg tb len at_))), (0, .ref 530)]) (st' := [.int (iI 59), .int (iI (X_sg tb len at_)), .ref 530]) rfl ?_
                  refine T_zicmp_eq xr_141_485 (t := 542) (pc' := 488) rfl rfl (fun c316 => ?_) (fun c316 => ?_)
                  · skip
                    have c316 : (X_sg tb len at_) = 59 := c316
                    refine T_p xr_141_542 xn_141 (pc' := 544) (ls' := [(1, .int (iI (X_sg tb len at_))), (0, .ref 530)]) (st' := [.int (iI 6), .ref 530]) rfl ?_
                    refine T_p xr_141_544 xn_141 (pc' := 548) (ls' := [(1, .int (iI (X_sg tb len at_))), (0, .ref 530)]) (st' := [.int (iI 6), .ref 530]) rfl ?_
                    refine T_put xr_141_548 h298 rfl (Nat.le_of_ble_eq_true rfl) rfl (fs' := [.ref 531, .int (iI (o 1)), .ref 532, .int (iI (o 3)), .int (iI (o 4)), .int (iI (o 5)), .int (iI (o 6)), .int (iI at_), .int (iI (at_ + 1)), .int (iI 6), .int (iI (o 10)), .int (iI (o 11)), .long nm, .ref 533, .ref 534, .ref 535, .ref 536, .ref 537, .ref 538, .ref 539, .ref 540, .ref 541, .ref 542, .ref 543, .ref 544, .ref 545, .ref 546, .ref 547, .int (iI (o 28)), .int (iI (o 29)), .int (iI (o 30)), .int (iI (o 31)), .int (iI (o 32)), .int (iI (o 33)), .ref 548, .ref 549, .ref 550, .ref 551, .int (iI (o 38)), .ref 552, .ref 553, .ref 554, .ref 555, .ref 556, .ref 557, .ref 558, .ref 559, .ref 560, .ref 561, .int (iI (o 49)), .ref 562, .ref 563, .ref 564, .ref 565, .ref 566, .ref 567, .ref 568, .ref 569, .int (iI (o 58)), .ref 570, .ref 571, .ref 572, .ref 573, .ref 574, .ref 575, .ref 576, .ref 577, .ref 578, .int (iI (o 68)), .int (iI (o 69)), .int (iI (o 70)), .ref 579]) rfl (pc' := 551) rfl (fun S317 h318 n319 e320 => ?_)
                    refine T_vret xr_141_551 xf_141.2.2 ?_
                    refine hQ _ _ ?_
                    exact ⟨at_, at_ + 1, 6, o 10, o 11, nm, (X_at tb len at_), 0, at_ + 1, rfl, hp, (Or.inr (Or.inr (Or.inr (Or.inr ⟨fun h => absurd (X_sg_L.mpr ⟨by omega, h⟩) (by assumption), fun h => absurd (X_sg_D.mpr ⟨by omega, h⟩) (by assumption), by omega, by omega, rfl, rfl, Or.inl ⟨by unfold X_isSg; omega, by first | (intro h; omega) | (intro h; exact absurd h.2 (X_sg_n (by assumption) (by assumption))), rfl⟩⟩)))), (by rw [show X_at tb len at_ = X_sg tb len at_ by omega]; unfold X_rk; (repeat (first | rw [if_neg (by omega)] | rw [if_pos (by omega)]))), (fun _ => rfl), (fun h => absurd h (by omega)), (fun h => absurd h (by omega)), by first | assumption | omega, h318, ((((X_Fr.rf).tr (X_Fr.of n280 e281 (by omega))).tr (X_Fr.mono ⟨hF286.1, hF286.2⟩ (fun q hq => (by omega)))).tr (X_Fr.of n299 e300 (by omega))).tr (X_Fr.of n319 e320 (by omega))⟩
                  · skip
                    have c316 : ¬ ((X_sg tb len at_) = 59) := c316
                    refine T_p xr_141_488 xn_141 (pc' := 489) (ls' := [(1, .int (iI (X_sg tb len at_))), (0, .ref 530)]) (st' := [.int (iI (X_sg tb len at_)), .ref 530]) rfl ?_
                    refine T_p xr_141_489 xn_141 (pc' := 491) (ls' := [(1, .int (iI (X_sg tb len at_))), (0, .ref 530)]) (st' := [.int (iI 58), .int (iI (X_sg tb len at_)), .ref 530]) rfl ?_
                    refine T_zicmp_eq xr_141_491 (t := 542) (pc' := 494) rfl rfl (fun c321 => ?_) (fun c321 => ?_)
                    · skip
                      have c321 : (X_sg tb len at_) = 58 := c321
                      refine T_p xr_141_542 xn_141 (pc' := 544) (ls' := [(1, .int (iI (X_sg tb len at_))), (0, .ref 530)]) (st' := [.int (iI 6), .ref 530]) rfl ?_
                      refine T_p xr_141_544 xn_141 (pc' := 548) (ls' := [(1, .int (iI (X_sg tb len at_))), (0, .ref 530)]) (st' := [.int (iI 6), .ref 530]) rfl ?_
                      refine T_put xr_141_548 h298 rfl (Nat.le_of_ble_eq_true rfl) rfl (fs' := [.ref 531, .int (iI (o 1)), .ref 532, .int (iI (o 3)), .int (iI (o 4)), .int (iI (o 5)), .int (iI (o 6)), .int (iI at_), .int (iI (at_ + 1)), .int (iI 6), .int (iI (o 10)), .int (iI (o 11)), .long nm, .ref 533, .ref 534, .ref 535, .ref 536, .ref 537, .ref 538, .ref 539, .ref 540, .ref 541, .ref 542, .ref 543, .ref 544, .ref 545, .ref 546, .ref 547, .int (iI (o 28)), .int (iI (o 29)), .int (iI (o 30)), .int (iI (o 31)), .int (iI (o 32)), .int (iI (o 33)), .ref 548, .ref 549, .ref 550, .ref 551, .int (iI (o 38)), .ref 552, .ref 553, .ref 554, .ref 555, .ref 556, .ref 557, .ref 558, .ref 559, .ref 560, .ref 561, .int (iI (o 49)), .ref 562, .ref 563, .ref 564, .ref 565, .ref 566, .ref 567, .ref 568, .ref 569, .int (iI (o 58)), .ref 570, .ref 571, .ref 572, .ref 573, .ref 574, .ref 575, .ref 576, .ref 577, .ref 578, .int (iI (o 68)), .int (iI (o 69)), .int (iI (o 70)), .ref 579]) rfl (pc' := 551) rfl (fun S322 h323 n324 e325 => ?_)
                      refine T_vret xr_141_551 xf_141.2.2 ?_
                      refine hQ _ _ ?_
                      exact ⟨at_, at_ + 1, 6, o 10, o 11, nm, (X_at tb len at_), 0, at_ + 1, rfl, hp, (Or.inr (Or.inr (Or.inr (Or.inr ⟨fun h => absurd (X_sg_L.mpr ⟨by omega, h⟩) (by assumption), fun h => absurd (X_sg_D.mpr ⟨by omega, h⟩) (by assumption), by omega, by omega, rfl, rfl, Or.inl ⟨by unfold X_isSg; omega, by first | (intro h; omega) | (intro h; exact absurd h.2 (X_sg_n (by assumption) (by assumption))), rfl⟩⟩)))), (by rw [show X_at tb len at_ = X_sg tb len at_ by omega]; unfold X_rk; (repeat (first | rw [if_neg (by omega)] | rw [if_pos (by omega)]))), (fun _ => rfl), (fun h => absurd h (by omega)), (fun h => absurd h (by omega)), by first | assumption | omega, h323, ((((X_Fr.rf).tr (X_Fr.of n280 e281 (by omega))).tr (X_Fr.mono ⟨hF286.1, hF286.2⟩ (fun q hq => (by omega)))).tr (X_Fr.of n299 e300 (by omega))).tr (X_Fr.of n324 e325 (by omega))⟩
                    · skip
                      have c321 : ¬ ((X_sg tb len at_) = 58) := c321
                      refine T_p xr_141_494 xn_141 (pc' := 495) (ls' := [(1, .int (iI (X_sg tb len at_))), (0, .ref 530)]) (st' := [.int (iI (X_sg tb len at_)), .ref 530]) rfl ?_
                      refine T_p xr_141_495 xn_141 (pc' := 497) (ls' := [(1, .int (iI (X_sg tb len at_))), (0, .ref 530)]) (st' := [.int (iI 61), .int (iI (X_sg tb len at_)), .ref 530]) rfl ?_
                      refine T_zicmp_eq xr_141_497 (t := 542) (pc' := 500) rfl rfl (fun c326 => ?_) (fun c326 => ?_)
                      · skip
                        have c326 : (X_sg tb len at_) = 61 := c326
                        refine T_p xr_141_542 xn_141 (pc' := 544) (ls' := [(1, .int (iI (X_sg tb len at_))), (0, .ref 530)]) (st' := [.int (iI 6), .ref 530]) rfl ?_
                        refine T_p xr_141_544 xn_141 (pc' := 548) (ls' := [(1, .int (iI (X_sg tb len at_))), (0, .ref 530)]) (st' := [.int (iI 6), .ref 530]) rfl ?_
                        refine T_put xr_141_548 h298 rfl (Nat.le_of_ble_eq_true rfl) rfl (fs' := [.ref 531, .int (iI (o 1)), .ref 532, .int (iI (o 3)), .int (iI (o 4)), .int (iI (o 5)), .int (iI (o 6)), .int (iI at_), .int (iI (at_ + 1)), .int (iI 6), .int (iI (o 10)), .int (iI (o 11)), .long nm, .ref 533, .ref 534, .ref 535, .ref 536, .ref 537, .ref 538, .ref 539, .ref 540, .ref 541, .ref 542, .ref 543, .ref 544, .ref 545, .ref 546, .ref 547, .int (iI (o 28)), .int (iI (o 29)), .int (iI (o 30)), .int (iI (o 31)), .int (iI (o 32)), .int (iI (o 33)), .ref 548, .ref 549, .ref 550, .ref 551, .int (iI (o 38)), .ref 552, .ref 553, .ref 554, .ref 555, .ref 556, .ref 557, .ref 558, .ref 559, .ref 560, .ref 561, .int (iI (o 49)), .ref 562, .ref 563, .ref 564, .ref 565, .ref 566, .ref 567, .ref 568, .ref 569, .int (iI (o 58)), .ref 570, .ref 571, .ref 572, .ref 573, .ref 574, .ref 575, .ref 576, .ref 577, .ref 578, .int (iI (o 68)), .int (iI (o 69)), .int (iI (o 70)), .ref 579]) rfl (pc' := 551) rfl (fun S327 h328 n329 e330 => ?_)
                        refine T_vret xr_141_551 xf_141.2.2 ?_
                        refine hQ _ _ ?_
                        exact ⟨at_, at_ + 1, 6, o 10, o 11, nm, (X_at tb len at_), 0, at_ + 1, rfl, hp, (Or.inr (Or.inr (Or.inr (Or.inr ⟨fun h => absurd (X_sg_L.mpr ⟨by omega, h⟩) (by assumption), fun h => absurd (X_sg_D.mpr ⟨by omega, h⟩) (by assumption), by omega, by omega, rfl, rfl, Or.inl ⟨by unfold X_isSg; omega, by first | (intro h; omega) | (intro h; exact absurd h.2 (X_sg_n (by assumption) (by assumption))), rfl⟩⟩)))), (by rw [show X_at tb len at_ = X_sg tb len at_ by omega]; unfold X_rk; (repeat (first | rw [if_neg (by omega)] | rw [if_pos (by omega)]))), (fun _ => rfl), (fun h => absurd h (by omega)), (fun h => absurd h (by omega)), by first | assumption | omega, h328, ((((X_Fr.rf).tr (X_Fr.of n280 e281 (by omega))).tr (X_Fr.mono ⟨hF286.1, hF286.2⟩ (fun q hq => (by omega)))).tr (X_Fr.of n299 e300 (by omega))).tr (X_Fr.of n329 e330 (by omega))⟩
                      · skip
                        have c326 : ¬ ((X_sg tb len at_) = 61) := c326
                        refine T_p xr_141_500 xn_141 (pc' := 501) (ls' := [(1, .int (iI (X_sg tb len at_))), (0, .ref 530)]) (st' := [.int (iI (X_sg tb len at_)), .ref 530]) rfl ?_
                        refine T_p xr_141_501 xn_141 (pc' := 503) (ls' := [(1, .int (iI (X_sg tb len at_))), (0, .ref 530)]) (st' := [.int (iI 64), .int (iI (X_sg tb len at_)), .ref 530]) rfl ?_
                        refine T_zicmp_eq xr_141_503 (t := 542) (pc' := 506) rfl rfl (fun c331 => ?_) (fun c331 => ?_)
                        · skip
                          have c331 : (X_sg tb len at_) = 64 := c331
                          refine T_p xr_141_542 xn_141 (pc' := 544) (ls' := [(1, .int (iI (X_sg tb len at_))), (0, .ref 530)]) (st' := [.int (iI 6), .ref 530]) rfl ?_
                          refine T_p xr_141_544 xn_141 (pc' := 548) (ls' := [(1, .int (iI (X_sg tb len at_))), (0, .ref 530)]) (st' := [.int (iI 6), .ref 530]) rfl ?_
                          refine T_put xr_141_548 h298 rfl (Nat.le_of_ble_eq_true rfl) rfl (fs' := [.ref 531, .int (iI (o 1)), .ref 532, .int (iI (o 3)), .int (iI (o 4)), .int (iI (o 5)), .int (iI (o 6)), .int (iI at_), .int (iI (at_ + 1)), .int (iI 6), .int (iI (o 10)), .int (iI (o 11)), .long nm, .ref 533, .ref 534, .ref 535, .ref 536, .ref 537, .ref 538, .ref 539, .ref 540, .ref 541, .ref 542, .ref 543, .ref 544, .ref 545, .ref 546, .ref 547, .int (iI (o 28)), .int (iI (o 29)), .int (iI (o 30)), .int (iI (o 31)), .int (iI (o 32)), .int (iI (o 33)), .ref 548, .ref 549, .ref 550, .ref 551, .int (iI (o 38)), .ref 552, .ref 553, .ref 554, .ref 555, .ref 556, .ref 557, .ref 558, .ref 559, .ref 560, .ref 561, .int (iI (o 49)), .ref 562, .ref 563, .ref 564, .ref 565, .ref 566, .ref 567, .ref 568, .ref 569, .int (iI (o 58)), .ref 570, .ref 571, .ref 572, .ref 573, .ref 574, .ref 575, .ref 576, .ref 577, .ref 578, .int (iI (o 68)), .int (iI (o 69)), .int (iI (o 70)), .ref 579]) rfl (pc' := 551) rfl (fun S332 h333 n334 e335 => ?_)
                          refine T_vret xr_141_551 xf_141.2.2 ?_
                          refine hQ _ _ ?_
                          exact ⟨at_, at_ + 1, 6, o 10, o 11, nm, (X_at tb len at_), 0, at_ + 1, rfl, hp, (Or.inr (Or.inr (Or.inr (Or.inr ⟨fun h => absurd (X_sg_L.mpr ⟨by omega, h⟩) (by assumption), fun h => absurd (X_sg_D.mpr ⟨by omega, h⟩) (by assumption), by omega, by omega, rfl, rfl, Or.inl ⟨by unfold X_isSg; omega, by first | (intro h; omega) | (intro h; exact absurd h.2 (X_sg_n (by assumption) (by assumption))), rfl⟩⟩)))), (by rw [show X_at tb len at_ = X_sg tb len at_ by omega]; unfold X_rk; (repeat (first | rw [if_neg (by omega)] | rw [if_pos (by omega)]))), (fun _ => rfl), (fun h => absurd h (by omega)), (fun h => absurd h (by omega)), by first | assumption | omega, h333, ((((X_Fr.rf).tr (X_Fr.of n280 e281 (by omega))).tr (X_Fr.mono ⟨hF286.1, hF286.2⟩ (fun q hq => (by omega)))).tr (X_Fr.of n299 e300 (by omega))).tr (X_Fr.of n334 e335 (by omega))⟩
                        · skip
                          have c331 : ¬ ((X_sg tb len at_) = 64) := c331
                          refine T_p xr_141_506 xn_141 (pc' := 507) (ls' := [(1, .int (iI (X_sg tb len at_))), (0, .ref 530)]) (st' := [.int (iI (X_sg tb len at_)), .ref 530]) rfl ?_
                          refine T_p xr_141_507 xn_141 (pc' := 509) (ls' := [(1, .int (iI (X_sg tb len at_))), (0, .ref 530)]) (st' := [.int (iI 43), .int (iI (X_sg tb len at_)), .ref 530]) rfl ?_
                          refine T_zicmp_eq xr_141_509 (t := 542) (pc' := 512) rfl rfl (fun c336 => ?_) (fun c336 => ?_)
                          · skip
                            have c336 : (X_sg tb len at_) = 43 := c336
                            refine T_p xr_141_542 xn_141 (pc' := 544) (ls' := [(1, .int (iI (X_sg tb len at_))), (0, .ref 530)]) (st' := [.int (iI 6), .ref 530]) rfl ?_
                            refine T_p xr_141_544 xn_141 (pc' := 548) (ls' := [(1, .int (iI (X_sg tb len at_))), (0, .ref 530)]) (st' := [.int (iI 6), .ref 530]) rfl ?_
                            refine T_put xr_141_548 h298 rfl (Nat.le_of_ble_eq_true rfl) rfl (fs' := [.ref 531, .int (iI (o 1)), .ref 532, .int (iI (o 3)), .int (iI (o 4)), .int (iI (o 5)), .int (iI (o 6)), .int (iI at_), .int (iI (at_ + 1)), .int (iI 6), .int (iI (o 10)), .int (iI (o 11)), .long nm, .ref 533, .ref 534, .ref 535, .ref 536, .ref 537, .ref 538, .ref 539, .ref 540, .ref 541, .ref 542, .ref 543, .ref 544, .ref 545, .ref 546, .ref 547, .int (iI (o 28)), .int (iI (o 29)), .int (iI (o 30)), .int (iI (o 31)), .int (iI (o 32)), .int (iI (o 33)), .ref 548, .ref 549, .ref 550, .ref 551, .int (iI (o 38)), .ref 552, .ref 553, .ref 554, .ref 555, .ref 556, .ref 557, .ref 558, .ref 559, .ref 560, .ref 561, .int (iI (o 49)), .ref 562, .ref 563, .ref 564, .ref 565, .ref 566, .ref 567, .ref 568, .ref 569, .int (iI (o 58)), .ref 570, .ref 571, .ref 572, .ref 573, .ref 574, .ref 575, .ref 576, .ref 577, .ref 578, .int (iI (o 68)), .int (iI (o 69)), .int (iI (o 70)), .ref 579]) rfl (pc' := 551) rfl (fun S337 h338 n339 e340 => ?_)
                            refine T_vret xr_141_551 xf_141.2.2 ?_
                            refine hQ _ _ ?_
                            exact ⟨at_, at_ + 1, 6, o 10, o 11, nm, (X_at tb len at_), 0, at_ + 1, rfl, hp, (Or.inr (Or.inr (Or.inr (Or.inr ⟨fun h => absurd (X_sg_L.mpr ⟨by omega, h⟩) (by assumption), fun h => absurd (X_sg_D.mpr ⟨by omega, h⟩) (by assumption), by omega, by omega, rfl, rfl, Or.inl ⟨by unfold X_isSg; omega, by first | (intro h; omega) | (intro h; exact absurd h.2 (X_sg_n (by assumption) (by assumption))), rfl⟩⟩)))), (by rw [show X_at tb len at_ = X_sg tb len at_ by omega]; unfold X_rk; (repeat (first | rw [if_neg (by omega)] | rw [if_pos (by omega)]))), (fun _ => rfl), (fun h => absurd h (by omega)), (fun h => absurd h (by omega)), by first | assumption | omega, h338, ((((X_Fr.rf).tr (X_Fr.of n280 e281 (by omega))).tr (X_Fr.mono ⟨hF286.1, hF286.2⟩ (fun q hq => (by omega)))).tr (X_Fr.of n299 e300 (by omega))).tr (X_Fr.of n339 e340 (by omega))⟩
                          · skip
                            have c336 : ¬ ((X_sg tb len at_) = 43) := c336
                            refine T_p xr_141_512 xn_141 (pc' := 513) (ls' := [(1, .int (iI (X_sg tb len at_))), (0, .ref 530)]) (st' := [.int (iI (X_sg tb len at_)), .ref 530]) rfl ?_
                            refine T_p xr_141_513 xn_141 (pc' := 515) (ls' := [(1, .int (iI (X_sg tb len at_))), (0, .ref 530)]) (st' := [.int (iI 45), .int (iI (X_sg tb len at_)), .ref 530]) rfl ?_
                            refine T_zicmp_eq xr_141_515 (t := 542) (pc' := 518) rfl rfl (fun c341 => ?_) (fun c341 => ?_)
                            · skip
                              have c341 : (X_sg tb len at_) = 45 := c341
                              refine T_p xr_141_542 xn_141 (pc' := 544) (ls' := [(1, .int (iI (X_sg tb len at_))), (0, .ref 530)]) (st' := [.int (iI 6), .ref 530]) rfl ?_
                              refine T_p xr_141_544 xn_141 (pc' := 548) (ls' := [(1, .int (iI (X_sg tb len at_))), (0, .ref 530)]) (st' := [.int (iI 6), .ref 530]) rfl ?_
                              refine T_put xr_141_548 h298 rfl (Nat.le_of_ble_eq_true rfl) rfl (fs' := [.ref 531, .int (iI (o 1)), .ref 532, .int (iI (o 3)), .int (iI (o 4)), .int (iI (o 5)), .int (iI (o 6)), .int (iI at_), .int (iI (at_ + 1)), .int (iI 6), .int (iI (o 10)), .int (iI (o 11)), .long nm, .ref 533, .ref 534, .ref 535, .ref 536, .ref 537, .ref 538, .ref 539, .ref 540, .ref 541, .ref 542, .ref 543, .ref 544, .ref 545, .ref 546, .ref 547, .int (iI (o 28)), .int (iI (o 29)), .int (iI (o 30)), .int (iI (o 31)), .int (iI (o 32)), .int (iI (o 33)), .ref 548, .ref 549, .ref 550, .ref 551, .int (iI (o 38)), .ref 552, .ref 553, .ref 554, .ref 555, .ref 556, .ref 557, .ref 558, .ref 559, .ref 560, .ref 561, .int (iI (o 49)), .ref 562, .ref 563, .ref 564, .ref 565, .ref 566, .ref 567, .ref 568, .ref 569, .int (iI (o 58)), .ref 570, .ref 571, .ref 572, .ref 573, .ref 574, .ref 575, .ref 576, .ref 577, .ref 578, .int (iI (o 68)), .int (iI (o 69)), .int (iI (o 70)), .ref 579]) rfl (pc' := 551) rfl (fun S342 h343 n344 e345 => ?_)
                              refine T_vret xr_141_551 xf_141.2.2 ?_
                              refine hQ _ _ ?_
                              exact ⟨at_, at_ + 1, 6, o 10, o 11, nm, (X_at tb len at_), 0, at_ + 1, rfl, hp, (Or.inr (Or.inr (Or.inr (Or.inr ⟨fun h => absurd (X_sg_L.mpr ⟨by omega, h⟩) (by assumption), fun h => absurd (X_sg_D.mpr ⟨by omega, h⟩) (by assumption), by omega, by omega, rfl, rfl, Or.inl ⟨by unfold X_isSg; omega, by first | (intro h; omega) | (intro h; exact absurd h.2 (X_sg_n (by assumption) (by assumption))), rfl⟩⟩)))), (by rw [show X_at tb len at_ = X_sg tb len at_ by omega]; unfold X_rk; (repeat (first | rw [if_neg (by omega)] | rw [if_pos (by omega)]))), (fun _ => rfl), (fun h => absurd h (by omega)), (fun h => absurd h (by omega)), by first | assumption | omega, h343, ((((X_Fr.rf).tr (X_Fr.of n280 e281 (by omega))).tr (X_Fr.mono ⟨hF286.1, hF286.2⟩ (fun q hq => (by omega)))).tr (X_Fr.of n299 e300 (by omega))).tr (X_Fr.of n344 e345 (by omega))⟩
                            · skip
                              have c341 : ¬ ((X_sg tb len at_) = 45) := c341
                              refine T_p xr_141_518 xn_141 (pc' := 519) (ls' := [(1, .int (iI (X_sg tb len at_))), (0, .ref 530)]) (st' := [.int (iI (X_sg tb len at_)), .ref 530]) rfl ?_
                              refine T_p xr_141_519 xn_141 (pc' := 521) (ls' := [(1, .int (iI (X_sg tb len at_))), (0, .ref 530)]) (st' := [.int (iI 42), .int (iI (X_sg tb len at_)), .ref 530]) rfl ?_
                              refine T_zicmp_eq xr_141_521 (t := 542) (pc' := 524) rfl rfl (fun c346 => ?_) (fun c346 => ?_)
                              · skip
                                have c346 : (X_sg tb len at_) = 42 := c346
                                refine T_p xr_141_542 xn_141 (pc' := 544) (ls' := [(1, .int (iI (X_sg tb len at_))), (0, .ref 530)]) (st' := [.int (iI 6), .ref 530]) rfl ?_
                                refine T_p xr_141_544 xn_141 (pc' := 548) (ls' := [(1, .int (iI (X_sg tb len at_))), (0, .ref 530)]) (st' := [.int (iI 6), .ref 530]) rfl ?_
                                refine T_put xr_141_548 h298 rfl (Nat.le_of_ble_eq_true rfl) rfl (fs' := [.ref 531, .int (iI (o 1)), .ref 532, .int (iI (o 3)), .int (iI (o 4)), .int (iI (o 5)), .int (iI (o 6)), .int (iI at_), .int (iI (at_ + 1)), .int (iI 6), .int (iI (o 10)), .int (iI (o 11)), .long nm, .ref 533, .ref 534, .ref 535, .ref 536, .ref 537, .ref 538, .ref 539, .ref 540, .ref 541, .ref 542, .ref 543, .ref 544, .ref 545, .ref 546, .ref 547, .int (iI (o 28)), .int (iI (o 29)), .int (iI (o 30)), .int (iI (o 31)), .int (iI (o 32)), .int (iI (o 33)), .ref 548, .ref 549, .ref 550, .ref 551, .int (iI (o 38)), .ref 552, .ref 553, .ref 554, .ref 555, .ref 556, .ref 557, .ref 558, .ref 559, .ref 560, .ref 561, .int (iI (o 49)), .ref 562, .ref 563, .ref 564, .ref 565, .ref 566, .ref 567, .ref 568, .ref 569, .int (iI (o 58)), .ref 570, .ref 571, .ref 572, .ref 573, .ref 574, .ref 575, .ref 576, .ref 577, .ref 578, .int (iI (o 68)), .int (iI (o 69)), .int (iI (o 70)), .ref 579]) rfl (pc' := 551) rfl (fun S347 h348 n349 e350 => ?_)
                                refine T_vret xr_141_551 xf_141.2.2 ?_
                                refine hQ _ _ ?_
                                exact ⟨at_, at_ + 1, 6, o 10, o 11, nm, (X_at tb len at_), 0, at_ + 1, rfl, hp, (Or.inr (Or.inr (Or.inr (Or.inr ⟨fun h => absurd (X_sg_L.mpr ⟨by omega, h⟩) (by assumption), fun h => absurd (X_sg_D.mpr ⟨by omega, h⟩) (by assumption), by omega, by omega, rfl, rfl, Or.inl ⟨by unfold X_isSg; omega, by first | (intro h; omega) | (intro h; exact absurd h.2 (X_sg_n (by assumption) (by assumption))), rfl⟩⟩)))), (by rw [show X_at tb len at_ = X_sg tb len at_ by omega]; unfold X_rk; (repeat (first | rw [if_neg (by omega)] | rw [if_pos (by omega)]))), (fun _ => rfl), (fun h => absurd h (by omega)), (fun h => absurd h (by omega)), by first | assumption | omega, h348, ((((X_Fr.rf).tr (X_Fr.of n280 e281 (by omega))).tr (X_Fr.mono ⟨hF286.1, hF286.2⟩ (fun q hq => (by omega)))).tr (X_Fr.of n299 e300 (by omega))).tr (X_Fr.of n349 e350 (by omega))⟩
                              · skip
                                have c346 : ¬ ((X_sg tb len at_) = 42) := c346
                                refine T_p xr_141_524 xn_141 (pc' := 525) (ls' := [(1, .int (iI (X_sg tb len at_))), (0, .ref 530)]) (st' := [.int (iI (X_sg tb len at_)), .ref 530]) rfl ?_
                                refine T_p xr_141_525 xn_141 (pc' := 527) (ls' := [(1, .int (iI (X_sg tb len at_))), (0, .ref 530)]) (st' := [.int (iI 47), .int (iI (X_sg tb len at_)), .ref 530]) rfl ?_
                                refine T_zicmp_eq xr_141_527 (t := 542) (pc' := 530) rfl rfl (fun c351 => ?_) (fun c351 => ?_)
                                · skip
                                  have c351 : (X_sg tb len at_) = 47 := c351
                                  refine T_p xr_141_542 xn_141 (pc' := 544) (ls' := [(1, .int (iI (X_sg tb len at_))), (0, .ref 530)]) (st' := [.int (iI 6), .ref 530]) rfl ?_
                                  refine T_p xr_141_544 xn_141 (pc' := 548) (ls' := [(1, .int (iI (X_sg tb len at_))), (0, .ref 530)]) (st' := [.int (iI 6), .ref 530]) rfl ?_
                                  refine T_put xr_141_548 h298 rfl (Nat.le_of_ble_eq_true rfl) rfl (fs' := [.ref 531, .int (iI (o 1)), .ref 532, .int (iI (o 3)), .int (iI (o 4)), .int (iI (o 5)), .int (iI (o 6)), .int (iI at_), .int (iI (at_ + 1)), .int (iI 6), .int (iI (o 10)), .int (iI (o 11)), .long nm, .ref 533, .ref 534, .ref 535, .ref 536, .ref 537, .ref 538, .ref 539, .ref 540, .ref 541, .ref 542, .ref 543, .ref 544, .ref 545, .ref 546, .ref 547, .int (iI (o 28)), .int (iI (o 29)), .int (iI (o 30)), .int (iI (o 31)), .int (iI (o 32)), .int (iI (o 33)), .ref 548, .ref 549, .ref 550, .ref 551, .int (iI (o 38)), .ref 552, .ref 553, .ref 554, .ref 555, .ref 556, .ref 557, .ref 558, .ref 559, .ref 560, .ref 561, .int (iI (o 49)), .ref 562, .ref 563, .ref 564, .ref 565, .ref 566, .ref 567, .ref 568, .ref 569, .int (iI (o 58)), .ref 570, .ref 571, .ref 572, .ref 573, .ref 574, .ref 575, .ref 576, .ref 577, .ref 578, .int (iI (o 68)), .int (iI (o 69)), .int (iI (o 70)), .ref 579]) rfl (pc' := 551) rfl (fun S352 h353 n354 e355 => ?_)
                                  refine T_vret xr_141_551 xf_141.2.2 ?_
                                  refine hQ _ _ ?_
                                  exact ⟨at_, at_ + 1, 6, o 10, o 11, nm, (X_at tb len at_), 0, at_ + 1, rfl, hp, (Or.inr (Or.inr (Or.inr (Or.inr ⟨fun h => absurd (X_sg_L.mpr ⟨by omega, h⟩) (by assumption), fun h => absurd (X_sg_D.mpr ⟨by omega, h⟩) (by assumption), by omega, by omega, rfl, rfl, Or.inl ⟨by unfold X_isSg; omega, by first | (intro h; omega) | (intro h; exact absurd h.2 (X_sg_n (by assumption) (by assumption))), rfl⟩⟩)))), (by rw [show X_at tb len at_ = X_sg tb len at_ by omega]; unfold X_rk; (repeat (first | rw [if_neg (by omega)] | rw [if_pos (by omega)]))), (fun _ => rfl), (fun h => absurd h (by omega)), (fun h => absurd h (by omega)), by first | assumption | omega, h353, ((((X_Fr.rf).tr (X_Fr.of n280 e281 (by omega))).tr (X_Fr.mono ⟨hF286.1, hF286.2⟩ (fun q hq => (by omega)))).tr (X_Fr.of n299 e300 (by omega))).tr (X_Fr.of n354 e355 (by omega))⟩
                                · skip
                                  have c351 : ¬ ((X_sg tb len at_) = 47) := c351
                                  refine T_p xr_141_530 xn_141 (pc' := 531) (ls' := [(1, .int (iI (X_sg tb len at_))), (0, .ref 530)]) (st' := [.int (iI (X_sg tb len at_)), .ref 530]) rfl ?_
                                  refine T_p xr_141_531 xn_141 (pc' := 533) (ls' := [(1, .int (iI (X_sg tb len at_))), (0, .ref 530)]) (st' := [.int (iI 37), .int (iI (X_sg tb len at_)), .ref 530]) rfl ?_
                                  refine T_zicmp_eq xr_141_533 (t := 542) (pc' := 536) rfl rfl (fun c356 => ?_) (fun c356 => ?_)
                                  · skip
                                    have c356 : (X_sg tb len at_) = 37 := c356
                                    refine T_p xr_141_542 xn_141 (pc' := 544) (ls' := [(1, .int (iI (X_sg tb len at_))), (0, .ref 530)]) (st' := [.int (iI 6), .ref 530]) rfl ?_
                                    refine T_p xr_141_544 xn_141 (pc' := 548) (ls' := [(1, .int (iI (X_sg tb len at_))), (0, .ref 530)]) (st' := [.int (iI 6), .ref 530]) rfl ?_
                                    refine T_put xr_141_548 h298 rfl (Nat.le_of_ble_eq_true rfl) rfl (fs' := [.ref 531, .int (iI (o 1)), .ref 532, .int (iI (o 3)), .int (iI (o 4)), .int (iI (o 5)), .int (iI (o 6)), .int (iI at_), .int (iI (at_ + 1)), .int (iI 6), .int (iI (o 10)), .int (iI (o 11)), .long nm, .ref 533, .ref 534, .ref 535, .ref 536, .ref 537, .ref 538, .ref 539, .ref 540, .ref 541, .ref 542, .ref 543, .ref 544, .ref 545, .ref 546, .ref 547, .int (iI (o 28)), .int (iI (o 29)), .int (iI (o 30)), .int (iI (o 31)), .int (iI (o 32)), .int (iI (o 33)), .ref 548, .ref 549, .ref 550, .ref 551, .int (iI (o 38)), .ref 552, .ref 553, .ref 554, .ref 555, .ref 556, .ref 557, .ref 558, .ref 559, .ref 560, .ref 561, .int (iI (o 49)), .ref 562, .ref 563, .ref 564, .ref 565, .ref 566, .ref 567, .ref 568, .ref 569, .int (iI (o 58)), .ref 570, .ref 571, .ref 572, .ref 573, .ref 574, .ref 575, .ref 576, .ref 577, .ref 578, .int (iI (o 68)), .int (iI (o 69)), .int (iI (o 70)), .ref 579]) rfl (pc' := 551) rfl (fun S357 h358 n359 e360 => ?_)
                                    refine T_vret xr_141_551 xf_141.2.2 ?_
                                    refine hQ _ _ ?_
                                    exact ⟨at_, at_ + 1, 6, o 10, o 11, nm, (X_at tb len at_), 0, at_ + 1, rfl, hp, (Or.inr (Or.inr (Or.inr (Or.inr ⟨fun h => absurd (X_sg_L.mpr ⟨by omega, h⟩) (by assumption), fun h => absurd (X_sg_D.mpr ⟨by omega, h⟩) (by assumption), by omega, by omega, rfl, rfl, Or.inl ⟨by unfold X_isSg; omega, by first | (intro h; omega) | (intro h; exact absurd h.2 (X_sg_n (by assumption) (by assumption))), rfl⟩⟩)))), (by rw [show X_at tb len at_ = X_sg tb len at_ by omega]; unfold X_rk; (repeat (first | rw [if_neg (by omega)] | rw [if_pos (by omega)]))), (fun _ => rfl), (fun h => absurd h (by omega)), (fun h => absurd h (by omega)), by first | assumption | omega, h358, ((((X_Fr.rf).tr (X_Fr.of n280 e281 (by omega))).tr (X_Fr.mono ⟨hF286.1, hF286.2⟩ (fun q hq => (by omega)))).tr (X_Fr.of n299 e300 (by omega))).tr (X_Fr.of n359 e360 (by omega))⟩
                                  · skip
                                    have c356 : ¬ ((X_sg tb len at_) = 37) := c356
                                    refine T_p xr_141_536 xn_141 (pc' := 537) (ls' := [(1, .int (iI (X_sg tb len at_))), (0, .ref 530)]) (st' := [.int (iI (X_sg tb len at_)), .ref 530]) rfl ?_
                                    refine T_p xr_141_537 xn_141 (pc' := 539) (ls' := [(1, .int (iI (X_sg tb len at_))), (0, .ref 530)]) (st' := [.int (iI 60), .int (iI (X_sg tb len at_)), .ref 530]) rfl ?_
                                    refine T_zicmp_ne xr_141_539 (t := 547) (pc' := 542) rfl rfl (fun c361 => ?_) (fun c361 => ?_)
                                    · skip
                                      have c361 : ¬ (X_sg tb len at_) = 60 := c361
                                      refine T_p xr_141_547 xn_141 (pc' := 548) (ls' := [(1, .int (iI (X_sg tb len at_))), (0, .ref 530)]) (st' := [.int (iI 1), .ref 530]) rfl ?_
                                      refine T_put xr_141_548 h298 rfl (Nat.le_of_ble_eq_true rfl) rfl (fs' := [.ref 531, .int (iI (o 1)), .ref 532, .int (iI (o 3)), .int (iI (o 4)), .int (iI (o 5)), .int (iI (o 6)), .int (iI at_), .int (iI (at_ + 1)), .int (iI 1), .int (iI (o 10)), .int (iI (o 11)), .long nm, .ref 533, .ref 534, .ref 535, .ref 536, .ref 537, .ref 538, .ref 539, .ref 540, .ref 541, .ref 542, .ref 543, .ref 544, .ref 545, .ref 546, .ref 547, .int (iI (o 28)), .int (iI (o 29)), .int (iI (o 30)), .int (iI (o 31)), .int (iI (o 32)), .int (iI (o 33)), .ref 548, .ref 549, .ref 550, .ref 551, .int (iI (o 38)), .ref 552, .ref 553, .ref 554, .ref 555, .ref 556, .ref 557, .ref 558, .ref 559, .ref 560, .ref 561, .int (iI (o 49)), .ref 562, .ref 563, .ref 564, .ref 565, .ref 566, .ref 567, .ref 568, .ref 569, .int (iI (o 58)), .ref 570, .ref 571, .ref 572, .ref 573, .ref 574, .ref 575, .ref 576, .ref 577, .ref 578, .int (iI (o 68)), .int (iI (o 69)), .int (iI (o 70)), .ref 579]) rfl (pc' := 551) rfl (fun S362 h363 n364 e365 => ?_)
                                      refine T_vret xr_141_551 xf_141.2.2 ?_
                                      refine hQ _ _ ?_
                                      exact ⟨at_, at_ + 1, 1, o 10, o 11, nm, 1, 0, at_ + 1, rfl, hp, (Or.inr (Or.inr (Or.inr (Or.inr ⟨fun h => absurd (X_sg_L.mpr ⟨by omega, h⟩) (by assumption), fun h => absurd (X_sg_D.mpr ⟨by omega, h⟩) (by assumption), by omega, by omega, rfl, rfl, Or.inr ⟨by first | exact Or.inl (by unfold X_isSg; omega) | exact Or.inr ⟨by omega, Or.inl (X_sg_L.mp (by assumption)).2⟩ | exact Or.inr ⟨by omega, Or.inr (X_sg_D.mp (by assumption)).2⟩, rfl⟩⟩)))), rfl, (fun _ => rfl), (fun h => absurd h (by omega)), (fun h => absurd h (by omega)), by first | assumption | omega, h363, ((((X_Fr.rf).tr (X_Fr.of n280 e281 (by omega))).tr (X_Fr.mono ⟨hF286.1, hF286.2⟩ (fun q hq => (by omega)))).tr (X_Fr.of n299 e300 (by omega))).tr (X_Fr.of n364 e365 (by omega))⟩
                                    · skip
                                      have c361 : ¬ (¬ (X_sg tb len at_) = 60) := c361
                                      refine T_p xr_141_542 xn_141 (pc' := 544) (ls' := [(1, .int (iI (X_sg tb len at_))), (0, .ref 530)]) (st' := [.int (iI 6), .ref 530]) rfl ?_
                                      refine T_p xr_141_544 xn_141 (pc' := 548) (ls' := [(1, .int (iI (X_sg tb len at_))), (0, .ref 530)]) (st' := [.int (iI 6), .ref 530]) rfl ?_
                                      refine T_put xr_141_548 h298 rfl (Nat.le_of_ble_eq_true rfl) rfl (fs' := [.ref 531, .int (iI (o 1)), .ref 532, .int (iI (o 3)), .int (iI (o 4)), .int (iI (o 5)), .int (iI (o 6)), .int (iI at_), .int (iI (at_ + 1)), .int (iI 6), .int (iI (o 10)), .int (iI (o 11)), .long nm, .ref 533, .ref 534, .ref 535, .ref 536, .ref 537, .ref 538, .ref 539, .ref 540, .ref 541, .ref 542, .ref 543, .ref 544, .ref 545, .ref 546, .ref 547, .int (iI (o 28)), .int (iI (o 29)), .int (iI (o 30)), .int (iI (o 31)), .int (iI (o 32)), .int (iI (o 33)), .ref 548, .ref 549, .ref 550, .ref 551, .int (iI (o 38)), .ref 552, .ref 553, .ref 554, .ref 555, .ref 556, .ref 557, .ref 558, .ref 559, .ref 560, .ref 561, .int (iI (o 49)), .ref 562, .ref 563, .ref 564, .ref 565, .ref 566, .ref 567, .ref 568, .ref 569, .int (iI (o 58)), .ref 570, .ref 571, .ref 572, .ref 573, .ref 574, .ref 575, .ref 576, .ref 577, .ref 578, .int (iI (o 68)), .int (iI (o 69)), .int (iI (o 70)), .ref 579]) rfl (pc' := 551) rfl (fun S366 h367 n368 e369 => ?_)
                                      refine T_vret xr_141_551 xf_141.2.2 ?_
                                      refine hQ _ _ ?_
                                      exact ⟨at_, at_ + 1, 6, o 10, o 11, nm, (X_at tb len at_), 0, at_ + 1, rfl, hp, (Or.inr (Or.inr (Or.inr (Or.inr ⟨fun h => absurd (X_sg_L.mpr ⟨by omega, h⟩) (by assumption), fun h => absurd (X_sg_D.mpr ⟨by omega, h⟩) (by assumption), by omega, by omega, rfl, rfl, Or.inl ⟨by unfold X_isSg; omega, by first | (intro h; omega) | (intro h; exact absurd h.2 (X_sg_n (by assumption) (by assumption))), rfl⟩⟩)))), (by rw [show X_at tb len at_ = X_sg tb len at_ by omega]; unfold X_rk; (repeat (first | rw [if_neg (by omega)] | rw [if_pos (by omega)]))), (fun _ => rfl), (fun h => absurd h (by omega)), (fun h => absurd h (by omega)), by first | assumption | omega, h367, ((((X_Fr.rf).tr (X_Fr.of n280 e281 (by omega))).tr (X_Fr.mono ⟨hF286.1, hF286.2⟩ (fun q hq => (by omega)))).tr (X_Fr.of n299 e300 (by omega))).tr (X_Fr.of n368 e369 (by omega))⟩
                · skip
                  have c315 : ¬ (¬ (X_sg tb len at_) = 95) := c315
                  refine T_p xr_141_440 xn_141 (pc' := 441) (ls' := [(1, .int (iI (X_sg tb len at_))), (0, .ref 530)]) (st' := [.ref 530]) rfl ?_
                  refine T_p xr_141_441 xn_141 (pc' := 442) (ls' := [(1, .int (iI (X_sg tb len at_))), (0, .ref 530)]) (st' := [.ref 530, .ref 530]) rfl ?_
                  refine T_p xr_141_442 xn_141 (pc' := 443) (ls' := [(1, .int (iI (X_sg tb len at_))), (0, .ref 530)]) (st' := [.ref 530, .ref 530, .ref 530]) rfl ?_
                  refine T_get xr_141_443 h298 rfl (v := .int (iI (at_ + 1))) rfl (pc' := 446) rfl ?_
                  refine T_cv (S := S297) (q := 530) xr_141_446 xf_136.1 xf_136.2.1 xn_136 (as := [.int (iI (at_ + 1))]) (r := [.ref 530]) rfl h298 (Nat.le_of_ble_eq_true rfl) (Nat.le_of_ble_eq_true rfl) (pc' := 449) rfl (ls' := [(0, .ref 530), (1, .int (iI (at_ + 1)))]) rfl ?_
                  have h370 := (n299 532 (by decide)).trans (h289)
                  refine T_mono (r_sign sc S297 (X_ou (X_ou o 7 at_) 8 (at_ + 1)) nm tx tb len (at_ + 1) h298 h370 (show (o 3) = len from by first | assumption | omega) hl htx (by omega)) (fun v371 S372 h373 => ?_)
                  rcases h373 with ⟨hv374, hf375⟩
                  rw [hv374]
                  rw [hf375]
                  have hg376 := X_sg_r (tb := tb) (len := len) (k := (at_ + 1)) (by omega)
                  have hg377 := X_sg_c (tb := tb) (len := len) (k := (at_ + 1))
                  show X_T sc 141 (449, [(1, .int (iI (X_sg tb len at_))), (0, .ref 530)], [.int (iI (X_sg tb len (at_ + 1))), .ref 530], S297) _
                  refine T_cs xr_141_449 (by decide) xf_137.1 xn_137 (as := [.int (iI (X_sg tb len (at_ + 1)))]) (r := [.ref 530]) rfl (Nat.le_of_ble_eq_true rfl) (Nat.le_of_ble_eq_true rfl) (pc' := 452) rfl (ls' := [(0, .int (iI (X_sg tb len (at_ + 1))))]) rfl ?_
                  refine T_mono (r_isLetter sc S297 (X_sg tb len (at_ + 1)) (by omega)) (fun v378 S379 h380 => ?_)
                  rcases h380 with ⟨hv381, hf382⟩
                  rw [hv381]
                  rw [hf382]
                  show X_T sc 141 (452, [(1, .int (iI (X_sg tb len at_))), (0, .ref 530)], [.int (iI (bI (X_isL (X_sg tb len (at_ + 1))))), .ref 530], S297) _
                  refine T_bif_ne xr_141_452 (t := 469) (pc' := 455) rfl rfl (fun c383 => ?_) (fun c383 => ?_)
                  · skip
                    have c383 : (X_isL (X_sg tb len (at_ + 1))) := c383
                    refine T_p xr_141_469 xn_141 (pc' := 470) (ls' := [(1, .int (iI (X_sg tb len at_))), (0, .ref 530)]) (st' := [.int (iI 1), .ref 530]) rfl ?_
                    refine T_p xr_141_470 xn_141 (pc' := 475) (ls' := [(1, .int (iI (X_sg tb len at_))), (0, .ref 530)]) (st' := [.int (iI 1), .ref 530]) rfl ?_
                    refine T_put xr_141_475 h298 rfl (Nat.le_of_ble_eq_true rfl) rfl (fs' := [.ref 531, .int (iI (o 1)), .ref 532, .int (iI (o 3)), .int (iI (o 4)), .int (iI (o 5)), .int (iI (o 6)), .int (iI at_), .int (iI (at_ + 1)), .int (iI 1), .int (iI (o 10)), .int (iI (o 11)), .long nm, .ref 533, .ref 534, .ref 535, .ref 536, .ref 537, .ref 538, .ref 539, .ref 540, .ref 541, .ref 542, .ref 543, .ref 544, .ref 545, .ref 546, .ref 547, .int (iI (o 28)), .int (iI (o 29)), .int (iI (o 30)), .int (iI (o 31)), .int (iI (o 32)), .int (iI (o 33)), .ref 548, .ref 549, .ref 550, .ref 551, .int (iI (o 38)), .ref 552, .ref 553, .ref 554, .ref 555, .ref 556, .ref 557, .ref 558, .ref 559, .ref 560, .ref 561, .int (iI (o 49)), .ref 562, .ref 563, .ref 564, .ref 565, .ref 566, .ref 567, .ref 568, .ref 569, .int (iI (o 58)), .ref 570, .ref 571, .ref 572, .ref 573, .ref 574, .ref 575, .ref 576, .ref 577, .ref 578, .int (iI (o 68)), .int (iI (o 69)), .int (iI (o 70)), .ref 579]) rfl (pc' := 478) rfl (fun S384 h385 n386 e387 => ?_)
                    refine T_p xr_141_478 xn_141 (pc' := 551) (ls' := [(1, .int (iI (X_sg tb len at_))), (0, .ref 530)]) (st' := []) rfl ?_
                    refine T_vret xr_141_551 xf_141.2.2 ?_
                    refine hQ _ _ ?_
                    exact ⟨at_, at_ + 1, 1, o 10, o 11, nm, 1, 0, at_ + 1, rfl, hp, (Or.inr (Or.inr (Or.inr (Or.inr ⟨fun h => absurd (X_sg_L.mpr ⟨by omega, h⟩) (by assumption), fun h => absurd (X_sg_D.mpr ⟨by omega, h⟩) (by assumption), by omega, by omega, rfl, rfl, Or.inr ⟨by first | exact Or.inl (by unfold X_isSg; omega) | exact Or.inr ⟨by omega, Or.inl (X_sg_L.mp (by assumption)).2⟩ | exact Or.inr ⟨by omega, Or.inr (X_sg_D.mp (by assumption)).2⟩, rfl⟩⟩)))), rfl, (fun _ => rfl), (fun h => absurd h (by omega)), (fun h => absurd h (by omega)), by first | assumption | omega, h385, ((((X_Fr.rf).tr (X_Fr.of n280 e281 (by omega))).tr (X_Fr.mono ⟨hF286.1, hF286.2⟩ (fun q hq => (by omega)))).tr (X_Fr.of n299 e300 (by omega))).tr (X_Fr.of n386 e387 (by omega))⟩
                  · skip
                    have c383 : ¬ (X_isL (X_sg tb len (at_ + 1))) := c383
                    refine T_p xr_141_455 xn_141 (pc' := 456) (ls' := [(1, .int (iI (X_sg tb len at_))), (0, .ref 530)]) (st' := [.ref 530, .ref 530]) rfl ?_
                    refine T_p xr_141_456 xn_141 (pc' := 457) (ls' := [(1, .int (iI (X_sg tb len at_))), (0, .ref 530)]) (st' := [.ref 530, .ref 530, .ref 530]) rfl ?_
                    refine T_get xr_141_457 h298 rfl (v := .int (iI (at_ + 1))) rfl (pc' := 460) rfl ?_
                    refine T_cv (S := S297) (q := 530) xr_141_460 xf_136.1 xf_136.2.1 xn_136 (as := [.int (iI (at_ + 1))]) (r := [.ref 530]) rfl h298 (Nat.le_of_ble_eq_true rfl) (Nat.le_of_ble_eq_true rfl) (pc' := 463) rfl (ls' := [(0, .ref 530), (1, .int (iI (at_ + 1)))]) rfl ?_
                    refine T_mono (r_sign sc S297 (X_ou (X_ou o 7 at_) 8 (at_ + 1)) nm tx tb len (at_ + 1) h298 h370 (show (o 3) = len from by first | assumption | omega) hl htx (by omega)) (fun v388 S389 h390 => ?_)
                    rcases h390 with ⟨hv391, hf392⟩
                    rw [hv391]
                    rw [hf392]
                    have hg393 := X_sg_r (tb := tb) (len := len) (k := (at_ + 1)) (by omega)
                    have hg394 := X_sg_c (tb := tb) (len := len) (k := (at_ + 1))
                    show X_T sc 141 (463, [(1, .int (iI (X_sg tb len at_))), (0, .ref 530)], [.int (iI (X_sg tb len (at_ + 1))), .ref 530], S297) _
                    refine T_cs xr_141_463 (by decide) xf_138.1 xn_138 (as := [.int (iI (X_sg tb len (at_ + 1)))]) (r := [.ref 530]) rfl (Nat.le_of_ble_eq_true rfl) (Nat.le_of_ble_eq_true rfl) (pc' := 466) rfl (ls' := [(0, .int (iI (X_sg tb len (at_ + 1))))]) rfl ?_
                    refine T_mono (r_isDigit sc S297 (X_sg tb len (at_ + 1)) (by omega)) (fun v395 S396 h397 => ?_)
                    rcases h397 with ⟨hv398, hf399⟩
                    rw [hv398]
                    rw [hf399]
                    show X_T sc 141 (466, [(1, .int (iI (X_sg tb len at_))), (0, .ref 530)], [.int (iI (bI (X_isD (X_sg tb len (at_ + 1))))), .ref 530], S297) _
                    refine T_bif_eq xr_141_466 (t := 473) (pc' := 469) rfl rfl (fun c400 => ?_) (fun c400 => ?_)
                    · skip
                      have c400 : ¬ (X_isD (X_sg tb len (at_ + 1))) := c400
                      refine T_p xr_141_473 xn_141 (pc' := 475) (ls' := [(1, .int (iI (X_sg tb len at_))), (0, .ref 530)]) (st' := [.int (iI 6), .ref 530]) rfl ?_
                      refine T_put xr_141_475 h298 rfl (Nat.le_of_ble_eq_true rfl) rfl (fs' := [.ref 531, .int (iI (o 1)), .ref 532, .int (iI (o 3)), .int (iI (o 4)), .int (iI (o 5)), .int (iI (o 6)), .int (iI at_), .int (iI (at_ + 1)), .int (iI 6), .int (iI (o 10)), .int (iI (o 11)), .long nm, .ref 533, .ref 534, .ref 535, .ref 536, .ref 537, .ref 538, .ref 539, .ref 540, .ref 541, .ref 542, .ref 543, .ref 544, .ref 545, .ref 546, .ref 547, .int (iI (o 28)), .int (iI (o 29)), .int (iI (o 30)), .int (iI (o 31)), .int (iI (o 32)), .int (iI (o 33)), .ref 548, .ref 549, .ref 550, .ref 551, .int (iI (o 38)), .ref 552, .ref 553, .ref 554, .ref 555, .ref 556, .ref 557, .ref 558, .ref 559, .ref 560, .ref 561, .int (iI (o 49)), .ref 562, .ref 563, .ref 564, .ref 565, .ref 566, .ref 567, .ref 568, .ref 569, .int (iI (o 58)), .ref 570, .ref 571, .ref 572, .ref 573, .ref 574, .ref 575, .ref 576, .ref 577, .ref 578, .int (iI (o 68)), .int (iI (o 69)), .int (iI (o 70)), .ref 579]) rfl (pc' := 478) rfl (fun S401 h402 n403 e404 => ?_)
                      refine T_p xr_141_478 xn_141 (pc' := 551) (ls' := [(1, .int (iI (X_sg tb len at_))), (0, .ref 530)]) (st' := []) rfl ?_
                      refine T_vret xr_141_551 xf_141.2.2 ?_
                      refine hQ _ _ ?_
                      exact ⟨at_, at_ + 1, 6, o 10, o 11, nm, (X_at tb len at_), 0, at_ + 1, rfl, hp, (Or.inr (Or.inr (Or.inr (Or.inr ⟨fun h => absurd (X_sg_L.mpr ⟨by omega, h⟩) (by assumption), fun h => absurd (X_sg_D.mpr ⟨by omega, h⟩) (by assumption), by omega, by omega, rfl, rfl, Or.inl ⟨by unfold X_isSg; omega, by first | (intro h; omega) | (intro h; exact absurd h.2 (X_sg_n (by assumption) (by assumption))), rfl⟩⟩)))), (by rw [show X_at tb len at_ = X_sg tb len at_ by omega]; unfold X_rk; (repeat (first | rw [if_neg (by omega)] | rw [if_pos (by omega)]))), (fun _ => rfl), (fun h => absurd h (by omega)), (fun h => absurd h (by omega)), by first | assumption | omega, h402, ((((X_Fr.rf).tr (X_Fr.of n280 e281 (by omega))).tr (X_Fr.mono ⟨hF286.1, hF286.2⟩ (fun q hq => (by omega)))).tr (X_Fr.of n299 e300 (by omega))).tr (X_Fr.of n403 e404 (by omega))⟩
                    · skip
                      have c400 : (X_isD (X_sg tb len (at_ + 1))) := c400
                      refine T_p xr_141_469 xn_141 (pc' := 470) (ls' := [(1, .int (iI (X_sg tb len at_))), (0, .ref 530)]) (st' := [.int (iI 1), .ref 530]) rfl ?_
                      refine T_p xr_141_470 xn_141 (pc' := 475) (ls' := [(1, .int (iI (X_sg tb len at_))), (0, .ref 530)]) (st' := [.int (iI 1), .ref 530]) rfl ?_
                      refine T_put xr_141_475 h298 rfl (Nat.le_of_ble_eq_true rfl) rfl (fs' := [.ref 531, .int (iI (o 1)), .ref 532, .int (iI (o 3)), .int (iI (o 4)), .int (iI (o 5)), .int (iI (o 6)), .int (iI at_), .int (iI (at_ + 1)), .int (iI 1), .int (iI (o 10)), .int (iI (o 11)), .long nm, .ref 533, .ref 534, .ref 535, .ref 536, .ref 537, .ref 538, .ref 539, .ref 540, .ref 541, .ref 542, .ref 543, .ref 544, .ref 545, .ref 546, .ref 547, .int (iI (o 28)), .int (iI (o 29)), .int (iI (o 30)), .int (iI (o 31)), .int (iI (o 32)), .int (iI (o 33)), .ref 548, .ref 549, .ref 550, .ref 551, .int (iI (o 38)), .ref 552, .ref 553, .ref 554, .ref 555, .ref 556, .ref 557, .ref 558, .ref 559, .ref 560, .ref 561, .int (iI (o 49)), .ref 562, .ref 563, .ref 564, .ref 565, .ref 566, .ref 567, .ref 568, .ref 569, .int (iI (o 58)), .ref 570, .ref 571, .ref 572, .ref 573, .ref 574, .ref 575, .ref 576, .ref 577, .ref 578, .int (iI (o 68)), .int (iI (o 69)), .int (iI (o 70)), .ref 579]) rfl (pc' := 478) rfl (fun S405 h406 n407 e408 => ?_)
                      refine T_p xr_141_478 xn_141 (pc' := 551) (ls' := [(1, .int (iI (X_sg tb len at_))), (0, .ref 530)]) (st' := []) rfl ?_
                      refine T_vret xr_141_551 xf_141.2.2 ?_
                      refine hQ _ _ ?_
                      exact ⟨at_, at_ + 1, 1, o 10, o 11, nm, 1, 0, at_ + 1, rfl, hp, (Or.inr (Or.inr (Or.inr (Or.inr ⟨fun h => absurd (X_sg_L.mpr ⟨by omega, h⟩) (by assumption), fun h => absurd (X_sg_D.mpr ⟨by omega, h⟩) (by assumption), by omega, by omega, rfl, rfl, Or.inr ⟨by first | exact Or.inl (by unfold X_isSg; omega) | exact Or.inr ⟨by omega, Or.inl (X_sg_L.mp (by assumption)).2⟩ | exact Or.inr ⟨by omega, Or.inr (X_sg_D.mp (by assumption)).2⟩, rfl⟩⟩)))), rfl, (fun _ => rfl), (fun h => absurd h (by omega)), (fun h => absurd h (by omega)), by first | assumption | omega, h406, ((((X_Fr.rf).tr (X_Fr.of n280 e281 (by omega))).tr (X_Fr.mono ⟨hF286.1, hF286.2⟩ (fun q hq => (by omega)))).tr (X_Fr.of n299 e300 (by omega))).tr (X_Fr.of n407 e408 (by omega))⟩
              · skip
                have c314 : ¬ (¬ (X_sg tb len at_) = 34) := c314
                refine T_p xr_141_427 xn_141 (pc' := 428) (ls' := [(1, .int (iI (X_sg tb len at_))), (0, .ref 530)]) (st' := [.ref 530]) rfl ?_
                refine T_cv (S := S297) (q := 530) xr_141_428 xf_143.1 xf_143.2.1 xn_143 (as := []) (r := []) rfl h298 (Nat.le_of_ble_eq_true rfl) (Nat.le_of_ble_eq_true rfl) (pc' := 431) rfl (ls' := [(0, .ref 530)]) rfl ?_
                have h409 := (n299 532 (by decide)).trans (h289)
                refine T_mono (r_nextPart sc S297 (X_ou (X_ou o 7 at_) 8 (at_ + 1)) nm tx tb len at_ h298 h409 (show (o 3) = len from by first | assumption | omega) hl htx (show at_ = at_ from by omega) (show (at_ + 1) = at_ + 1 from by omega) (by omega) (by omega)) (fun v410 S411 h412 => ?_)
                rcases h412 with ⟨en413, tk414, nm415, r416, ct417, e418, hv419, hp420, hp421, hp422, hp423, hM424, hf425⟩
                rw [hv419]
                have h426 : S411.1 530 = .inr (11, [.ref 531, .int (iI (o 1)), .ref 532, .int (iI (o 3)), .int (iI (o 4)), .int (iI (o 5)), .int (iI (o 6)), .int (iI at_), .int (iI en413), .int (iI tk414), .int (iI (o 10)), .int (iI (o 11)), .long nm415, .ref 533, .ref 534, .ref 535, .ref 536, .ref 537, .ref 538, .ref 539, .ref 540, .ref 541, .ref 542, .ref 543, .ref 544, .ref 545, .ref 546, .ref 547, .int (iI (o 28)), .int (iI (o 29)), .int (iI (o 30)), .int (iI (o 31)), .int (iI (o 32)), .int (iI (o 33)), .ref 548, .ref 549, .ref 550, .ref 551, .int (iI (o 38)), .ref 552, .ref 553, .ref 554, .ref 555, .ref 556, .ref 557, .ref 558, .ref 559, .ref 560, .ref 561, .int (iI (o 49)), .ref 562, .ref 563, .ref 564, .ref 565, .ref 566, .ref 567, .ref 568, .ref 569, .int (iI (o 58)), .ref 570, .ref 571, .ref 572, .ref 573, .ref 574, .ref 575, .ref 576, .ref 577, .ref 578, .int (iI (o 68)), .int (iI (o 69)), .int (iI (o 70)), .ref 579]) := hM424
                show X_T sc 141 (431, [(1, .int (iI (X_sg tb len at_))), (0, .ref 530)], [], S411) _
                refine T_p xr_141_431 xn_141 (pc' := 551) (ls' := [(1, .int (iI (X_sg tb len at_))), (0, .ref 530)]) (st' := []) rfl ?_
                refine T_vret xr_141_551 xf_141.2.2 ?_
                refine hQ _ _ ?_
                exact ⟨at_, en413, tk414, o 10, o 11, nm415, r416, ct417, e418, rfl, hp, (Or.inr (Or.inr (Or.inr (Or.inl hp420)))), hp421, (fun h => (hp422 h).1), (fun h => (hp422 (by omega)).2), (fun h => by
                      exfalso
                      obtain ⟨-, m, -, h2 | h2⟩ := hp420
                      · have := h2.2.1; omega
                      · have := h2.2.2.2.1; omega), (by omega), h426, ((((X_Fr.rf).tr (X_Fr.of n280 e281 (by omega))).tr (X_Fr.mono ⟨hF286.1, hF286.2⟩ (fun q hq => (by omega)))).tr (X_Fr.of n299 e300 (by omega))).tr (X_Fr.mono ⟨hf425.1, hf425.2⟩ (fun q hq => (by omega)))⟩
            · skip
              have c313 : (X_isD (X_sg tb len at_)) := c313
              have hc0 : X_isD (X_sg tb len at_) := by assumption
              refine T_p xr_141_296 xn_141 (pc' := 297) (ls' := [(1, .int (iI (X_sg tb len at_))), (0, .ref 530)]) (st' := [.ref 530]) rfl ?_
              refine T_p xr_141_297 xn_141 (pc' := 298) (ls' := [(1, .int (iI (X_sg tb len at_))), (0, .ref 530)]) (st' := [.int (iI 0), .ref 530]) rfl ?_
              refine T_put xr_141_298 h298 rfl (Nat.le_of_ble_eq_true rfl) rfl (fs' := [.ref 531, .int (iI (o 1)), .ref 532, .int (iI (o 3)), .int (iI (o 4)), .int (iI (o 5)), .int (iI (o 6)), .int (iI at_), .int (iI (at_ + 1)), .int (iI (o 9)), .int (iI 0), .int (iI (o 11)), .long nm, .ref 533, .ref 534, .ref 535, .ref 536, .ref 537, .ref 538, .ref 539, .ref 540, .ref 541, .ref 542, .ref 543, .ref 544, .ref 545, .ref 546, .ref 547, .int (iI (o 28)), .int (iI (o 29)), .int (iI (o 30)), .int (iI (o 31)), .int (iI (o 32)), .int (iI (o 33)), .ref 548, .ref 549, .ref 550, .ref 551, .int (iI (o 38)), .ref 552, .ref 553, .ref 554, .ref 555, .ref 556, .ref 557, .ref 558, .ref 559, .ref 560, .ref 561, .int (iI (o 49)), .ref 562, .ref 563, .ref 564, .ref 565, .ref 566, .ref 567, .ref 568, .ref 569, .int (iI (o 58)), .ref 570, .ref 571, .ref 572, .ref 573, .ref 574, .ref 575, .ref 576, .ref 577, .ref 578, .int (iI (o 68)), .int (iI (o 69)), .int (iI (o 70)), .ref 579]) rfl (pc' := 301) rfl (fun S427 h428 n429 e430 => ?_)
              refine T_p xr_141_301 xn_141 (pc' := 302) (ls' := [(1, .int (iI (X_sg tb len at_))), (0, .ref 530)]) (st' := [.ref 530]) rfl ?_
              refine T_p xr_141_302 xn_141 (pc' := 303) (ls' := [(1, .int (iI (X_sg tb len at_))), (0, .ref 530)]) (st' := [.ref 530, .ref 530]) rfl ?_
              refine T_get xr_141_303 h428 rfl (v := .int (iI at_)) rfl (pc' := 306) rfl ?_
              refine T_put xr_141_306 h428 rfl (Nat.le_of_ble_eq_true rfl) rfl (fs' := [.ref 531, .int (iI (o 1)), .ref 532, .int (iI (o 3)), .int (iI (o 4)), .int (iI (o 5)), .int (iI (o 6)), .int (iI at_), .int (iI at_), .int (iI (o 9)), .int (iI 0), .int (iI (o 11)), .long nm, .ref 533, .ref 534, .ref 535, .ref 536, .ref 537, .ref 538, .ref 539, .ref 540, .ref 541, .ref 542, .ref 543, .ref 544, .ref 545, .ref 546, .ref 547, .int (iI (o 28)), .int (iI (o 29)), .int (iI (o 30)), .int (iI (o 31)), .int (iI (o 32)), .int (iI (o 33)), .ref 548, .ref 549, .ref 550, .ref 551, .int (iI (o 38)), .ref 552, .ref 553, .ref 554, .ref 555, .ref 556, .ref 557, .ref 558, .ref 559, .ref 560, .ref 561, .int (iI (o 49)), .ref 562, .ref 563, .ref 564, .ref 565, .ref 566, .ref 567, .ref 568, .ref 569, .int (iI (o 58)), .ref 570, .ref 571, .ref 572, .ref 573, .ref 574, .ref 575, .ref 576, .ref 577, .ref 578, .int (iI (o 68)), .int (iI (o 69)), .int (iI (o 70)), .ref 579]) rfl (pc' := 309) rfl (fun S431 h432 n433 e434 => ?_)
              have L435 : ∀ (m437 : Nat) (S440 : X_S) (en : Int) (nu : Int) (hM1 : S440.1 530 = .inr (11, [.ref 531, .int (iI (o 1)), .ref 532, .int (iI (o 3)), .int (iI (o 4)), .int (iI (o 5)), .int (iI (o 6)), .int (iI at_), .int (iI en), .int (iI (o 9)), .int (iI nu), .int (iI (o 11)), .long nm, .ref 533, .ref 534, .ref 535, .ref 536, .ref 537, .ref 538, .ref 539, .ref 540, .ref 541, .ref 542, .ref 543, .ref 544, .ref 545, .ref 546, .ref 547, .int (iI (o 28)), .int (iI (o 29)), .int (iI (o 30)), .int (iI (o 31)), .int (iI (o 32)), .int (iI (o 33)), .ref 548, .ref 549, .ref 550, .ref 551, .int (iI (o 38)), .ref 552, .ref 553, .ref 554, .ref 555, .ref 556, .ref 557, .ref 558, .ref 559, .ref 560, .ref 561, .int (iI (o 49)), .ref 562, .ref 563, .ref 564, .ref 565, .ref 566, .ref 567, .ref 568, .ref 569, .int (iI (o 58)), .ref 570, .ref 571, .ref 572, .ref 573, .ref 574, .ref 575, .ref 576, .ref 577, .ref 578, .int (iI (o 68)), .int (iI (o 69)), .int (iI (o 70)), .ref 579])) (hF439 : X_Fr (fun q => q = 530) S431 S440) (hen : at_ ≤ en ∧ en ≤ len) (hse : X_se X_isD tb len en = X_se X_isD tb len at_) (hnu1 : en - at_ ≤ 9 → nu = X_dv tb len at_ (en - at_).toNat) (hnu2 : 0 ≤ nu ∧ nu ≤ 999999999) (hD : ∀ k, at_ ≤ k → k < en → X_isD (X_at tb len k)) (hm438 : len - en < m437), X_T sc 141 (309, [(1, .int (iI (X_sg tb len at_))), (0, .ref 530)], [], S440) Q := by
                intro m437
                induction m437 with
                | zero =>
                  intro S440 en nu hM1 hF439 hen hse hnu1 hnu2 hD hm438
                  exact (show False by omega).elim
                | succ m437 ih436 =>
                  intro S440 en nu hM1 hF439 hen hse hnu1 hnu2 hD hm438
                  refine T_p xr_141_309 xn_141 (pc' := 310) (ls' := [(1, .int (iI (X_sg tb len at_))), (0, .ref 530)]) (st' := [.ref 530]) rfl ?_
                  refine T_p xr_141_310 xn_141 (pc' := 311) (ls' := [(1, .int (iI (X_sg tb len at_))), (0, .ref 530)]) (st' := [.ref 530, .ref 530]) rfl ?_
                  refine T_get xr_141_311 hM1 rfl (v := .int (iI en)) rfl (pc' := 314) rfl ?_
                  refine T_cv (S := S440) (q := 530) xr_141_314 xf_136.1 xf_136.2.1 xn_136 (as := [.int (iI en)]) (r := []) rfl hM1 (Nat.le_of_ble_eq_true rfl) (Nat.le_of_ble_eq_true rfl) (pc' := 317) rfl (ls' := [(0, .ref 530), (1, .int (iI en))]) rfl ?_
                  have h441 := (hF439.1 532 (by omega)).trans ((n433 532 (by decide)).trans ((n429 532 (by decide)).trans ((n299 532 (by decide)).trans (h289))))
                  refine T_mono (r_sign sc S440 (X_ou (X_ou (X_ou o 7 at_) 8 en) 10 nu) nm tx tb len en hM1 h441 (show (o 3) = len from by first | assumption | omega) hl htx (by omega)) (fun v442 S443 h444 => ?_)
                  rcases h444 with ⟨hv445, hf446⟩
                  rw [hv445]
                  rw [hf446]
                  have hg447 := X_sg_r (tb := tb) (len := len) (k := en) (by omega)
                  have hg448 := X_sg_c (tb := tb) (len := len) (k := en)
                  show X_T sc 141 (317, [(1, .int (iI (X_sg tb len at_))), (0, .ref 530)], [.int (iI (X_sg tb len en))], S440) _
                  refine T_cs xr_141_317 (by decide) xf_138.1 xn_138 (as := [.int (iI (X_sg tb len en))]) (r := []) rfl (Nat.le_of_ble_eq_true rfl) (Nat.le_of_ble_eq_true rfl) (pc' := 320) rfl (ls' := [(0, .int (iI (X_sg tb len en)))]) rfl ?_
                  refine T_mono (r_isDigit sc S440 (X_sg tb len en) (by omega)) (fun v449 S450 h451 => ?_)
                  rcases h451 with ⟨hv452, hf453⟩
                  rw [hv452]
                  rw [hf453]
                  show X_T sc 141 (320, [(1, .int (iI (X_sg tb len at_))), (0, .ref 530)], [.int (iI (bI (X_isD (X_sg tb len en))))], S440) _
                  refine T_bif_eq xr_141_320 (t := 373) (pc' := 323) rfl rfl (fun c454 => ?_) (fun c454 => ?_)
                  · skip
                    have c454 : ¬ (X_isD (X_sg tb len en)) := c454
                    have hm : X_se X_isD tb len at_ = en := hse.symm.trans (X_se_no (by intro h; exact absurd (X_sg_D.mpr h) (by assumption)))
                    have hnd : ¬ X_isD (X_sg tb len en) := by assumption
                    refine T_p xr_141_373 xn_141 (pc' := 374) (ls' := [(1, .int (iI (X_sg tb len at_))), (0, .ref 530)]) (st' := [.ref 530]) rfl ?_
                    refine T_p xr_141_374 xn_141 (pc' := 375) (ls' := [(1, .int (iI (X_sg tb len at_))), (0, .ref 530)]) (st' := [.ref 530, .ref 530]) rfl ?_
                    refine T_get xr_141_375 hM1 rfl (v := .int (iI en)) rfl (pc' := 378) rfl ?_
                    refine T_p xr_141_378 xn_141 (pc' := 379) (ls' := [(1, .int (iI (X_sg tb len at_))), (0, .ref 530)]) (st' := [.ref 530, .int (iI en), .ref 530]) rfl ?_
                    refine T_get xr_141_379 hM1 rfl (v := .int (iI at_)) rfl (pc' := 382) rfl ?_
                    refine T_zisub xr_141_382 (z := en - at_) rfl (pc' := 383) rfl ?_
                    refine T_put xr_141_383 hM1 rfl (Nat.le_of_ble_eq_true rfl) rfl (fs' := [.ref 531, .int (iI (o 1)), .ref 532, .int (iI (o 3)), .int (iI (o 4)), .int (iI (o 5)), .int (iI (o 6)), .int (iI at_), .int (iI en), .int (iI (o 9)), .int (iI nu), .int (iI (en - at_)), .long nm, .ref 533, .ref 534, .ref 535, .ref 536, .ref 537, .ref 538, .ref 539, .ref 540, .ref 541, .ref 542, .ref 543, .ref 544, .ref 545, .ref 546, .ref 547, .int (iI (o 28)), .int (iI (o 29)), .int (iI (o 30)), .int (iI (o 31)), .int (iI (o 32)), .int (iI (o 33)), .ref 548, .ref 549, .ref 550, .ref 551, .int (iI (o 38)), .ref 552, .ref 553, .ref 554, .ref 555, .ref 556, .ref 557, .ref 558, .ref 559, .ref 560, .ref 561, .int (iI (o 49)), .ref 562, .ref 563, .ref 564, .ref 565, .ref 566, .ref 567, .ref 568, .ref 569, .int (iI (o 58)), .ref 570, .ref 571, .ref 572, .ref 573, .ref 574, .ref 575, .ref 576, .ref 577, .ref 578, .int (iI (o 68)), .int (iI (o 69)), .int (iI (o 70)), .ref 579]) rfl (pc' := 386) rfl (fun S455 h456 n457 e458 => ?_)
                    refine T_p xr_141_386 xn_141 (pc' := 387) (ls' := [(1, .int (iI (X_sg tb len at_))), (0, .ref 530)]) (st' := [.ref 530]) rfl ?_
                    refine T_p xr_141_387 xn_141 (pc' := 388) (ls' := [(1, .int (iI (X_sg tb len at_))), (0, .ref 530)]) (st' := [.ref 530, .ref 530]) rfl ?_
                    refine T_get xr_141_388 h456 rfl (v := .int (iI (en - at_))) rfl (pc' := 391) rfl ?_
                    refine T_p xr_141_391 xn_141 (pc' := 393) (ls' := [(1, .int (iI (X_sg tb len at_))), (0, .ref 530)]) (st' := [.int (iI 9), .int (iI (en - at_)), .ref 530]) rfl ?_
                    refine T_zicmp_gt xr_141_393 (t := 410) (pc' := 396) rfl rfl (fun c459 => ?_) (fun c459 => ?_)
                    · skip
                      have c459 : 9 < (en - at_) := c459
                      refine T_p xr_141_410 xn_141 (pc' := 411) (ls' := [(1, .int (iI (X_sg tb len at_))), (0, .ref 530)]) (st' := [.int (iI 1), .ref 530]) rfl ?_
                      refine T_p xr_141_411 xn_141 (pc' := 415) (ls' := [(1, .int (iI (X_sg tb len at_))), (0, .ref 530)]) (st' := [.int (iI 1), .ref 530]) rfl ?_
                      refine T_put xr_141_415 h456 rfl (Nat.le_of_ble_eq_true rfl) rfl (fs' := [.ref 531, .int (iI (o 1)), .ref 532, .int (iI (o 3)), .int (iI (o 4)), .int (iI (o 5)), .int (iI (o 6)), .int (iI at_), .int (iI en), .int (iI 1), .int (iI nu), .int (iI (en - at_)), .long nm, .ref 533, .ref 534, .ref 535, .ref 536, .ref 537, .ref 538, .ref 539, .ref 540, .ref 541, .ref 542, .ref 543, .ref 544, .ref 545, .ref 546, .ref 547, .int (iI (o 28)), .int (iI (o 29)), .int (iI (o 30)), .int (iI (o 31)), .int (iI (o 32)), .int (iI (o 33)), .ref 548, .ref 549, .ref 550, .ref 551, .int (iI (o 38)), .ref 552, .ref 553, .ref 554, .ref 555, .ref 556, .ref 557, .ref 558, .ref 559, .ref 560, .ref 561, .int (iI (o 49)), .ref 562, .ref 563, .ref 564, .ref 565, .ref 566, .ref 567, .ref 568, .ref 569, .int (iI (o 58)), .ref 570, .ref 571, .ref 572, .ref 573, .ref 574, .ref 575, .ref 576, .ref 577, .ref 578, .int (iI (o 68)), .int (iI (o 69)), .int (iI (o 70)), .ref 579]) rfl (pc' := 418) rfl (fun S460 h461 n462 e463 => ?_)
                      refine T_p xr_141_418 xn_141 (pc' := 551) (ls' := [(1, .int (iI (X_sg tb len at_))), (0, .ref 530)]) (st' := []) rfl ?_
                      refine T_vret xr_141_551 xf_141.2.2 ?_
                      refine hQ _ _ ?_
                      exact ⟨at_, en, 1, nu, en - at_, nm, 1, 0, en, rfl, hp, (Or.inr (Or.inr (Or.inl ⟨(X_sg_D.mp hc0).2, hm.symm, Or.inl ⟨by first | exact Or.inl (by omega) | exact Or.inr (X_sg_L.mp (by assumption)).2, rfl, rfl⟩⟩))), rfl, fun h => absurd h (by omega), fun h => absurd h (by omega), fun h => absurd h (by omega), by first | assumption | omega, h461, ((((((((X_Fr.rf).tr (X_Fr.of n280 e281 (by omega))).tr (X_Fr.mono ⟨hF286.1, hF286.2⟩ (fun q hq => (by omega)))).tr (X_Fr.of n299 e300 (by omega))).tr (X_Fr.of n429 e430 (by omega))).tr (X_Fr.of n433 e434 (by omega))).tr (X_Fr.mono ⟨hF439.1, hF439.2⟩ (fun q hq => (by omega)))).tr (X_Fr.of n457 e458 (by omega))).tr (X_Fr.of n462 e463 (by omega))⟩
                    · skip
                      have c459 : ¬ (9 < (en - at_)) := c459
                      refine T_p xr_141_396 xn_141 (pc' := 397) (ls' := [(1, .int (iI (X_sg tb len at_))), (0, .ref 530)]) (st' := [.ref 530, .ref 530]) rfl ?_
                      refine T_p xr_141_397 xn_141 (pc' := 398) (ls' := [(1, .int (iI (X_sg tb len at_))), (0, .ref 530)]) (st' := [.ref 530, .ref 530, .ref 530]) rfl ?_
                      refine T_get xr_141_398 h456 rfl (v := .int (iI en)) rfl (pc' := 401) rfl ?_
                      refine T_cv (S := S455) (q := 530) xr_141_401 xf_136.1 xf_136.2.1 xn_136 (as := [.int (iI en)]) (r := [.ref 530]) rfl h456 (Nat.le_of_ble_eq_true rfl) (Nat.le_of_ble_eq_true rfl) (pc' := 404) rfl (ls' := [(0, .ref 530), (1, .int (iI en))]) rfl ?_
                      have h464 := (n457 532 (by decide)).trans (h441)
                      refine T_mono (r_sign sc S455 (X_ou (X_ou (X_ou (X_ou o 7 at_) 8 en) 10 nu) 11 (en - at_)) nm tx tb len en h456 h464 (show (o 3) = len from by first | assumption | omega) hl htx (by omega)) (fun v465 S466 h467 => ?_)
                      rcases h467 with ⟨hv468, hf469⟩
                      rw [hv468]
                      rw [hf469]
                      have hg470 := X_sg_r (tb := tb) (len := len) (k := en) (by omega)
                      have hg471 := X_sg_c (tb := tb) (len := len) (k := en)
                      show X_T sc 141 (404, [(1, .int (iI (X_sg tb len at_))), (0, .ref 530)], [.int (iI (X_sg tb len en)), .ref 530], S455) _
                      refine T_cs xr_141_404 (by decide) xf_137.1 xn_137 (as := [.int (iI (X_sg tb len en))]) (r := [.ref 530]) rfl (Nat.le_of_ble_eq_true rfl) (Nat.le_of_ble_eq_true rfl) (pc' := 407) rfl (ls' := [(0, .int (iI (X_sg tb len en)))]) rfl ?_
                      refine T_mono (r_isLetter sc S455 (X_sg tb len en) (by omega)) (fun v472 S473 h474 => ?_)
                      rcases h474 with ⟨hv475, hf476⟩
                      rw [hv475]
                      rw [hf476]
                      show X_T sc 141 (407, [(1, .int (iI (X_sg tb len at_))), (0, .ref 530)], [.int (iI (bI (X_isL (X_sg tb len en)))), .ref 530], S455) _
                      refine T_bif_eq xr_141_407 (t := 414) (pc' := 410) rfl rfl (fun c477 => ?_) (fun c477 => ?_)
                      · skip
                        have c477 : ¬ (X_isL (X_sg tb len en)) := c477
                        refine T_p xr_141_414 xn_141 (pc' := 415) (ls' := [(1, .int (iI (X_sg tb len at_))), (0, .ref 530)]) (st' := [.int (iI 4), .ref 530]) rfl ?_
                        refine T_put xr_141_415 h456 rfl (Nat.le_of_ble_eq_true rfl) rfl (fs' := [.ref 531, .int (iI (o 1)), .ref 532, .int (iI (o 3)), .int (iI (o 4)), .int (iI (o 5)), .int (iI (o 6)), .int (iI at_), .int (iI en), .int (iI 4), .int (iI nu), .int (iI (en - at_)), .long nm, .ref 533, .ref 534, .ref 535, .ref 536, .ref 537, .ref 538, .ref 539, .ref 540, .ref 541, .ref 542, .ref 543, .ref 544, .ref 545, .ref 546, .ref 547, .int (iI (o 28)), .int (iI (o 29)), .int (iI (o 30)), .int (iI (o 31)), .int (iI (o 32)), .int (iI (o 33)), .ref 548, .ref 549, .ref 550, .ref 551, .int (iI (o 38)), .ref 552, .ref 553, .ref 554, .ref 555, .ref 556, .ref 557, .ref 558, .ref 559, .ref 560, .ref 561, .int (iI (o 49)), .ref 562, .ref 563, .ref 564, .ref 565, .ref 566, .ref 567, .ref 568, .ref 569, .int (iI (o 58)), .ref 570, .ref 571, .ref 572, .ref 573, .ref 574, .ref 575, .ref 576, .ref 577, .ref 578, .int (iI (o 68)), .int (iI (o 69)), .int (iI (o 70)), .ref 579]) rfl (pc' := 418) rfl (fun S478 h479 n480 e481 => ?_)
                        refine T_p xr_141_418 xn_141 (pc' := 551) (ls' := [(1, .int (iI (X_sg tb len at_))), (0, .ref 530)]) (st' := []) rfl ?_
                        refine T_vret xr_141_551 xf_141.2.2 ?_
                        refine hQ _ _ ?_
                        have hne : ¬ en = at_ := fun e => by
                          rw [e] at hnd
                          exact hnd hc0
                        by_cases hd1 : en - at_ = 1
                        · skip
                          exact ⟨at_, en, 4, nu, en - at_, nm, 5, (iL nu), en, rfl, hp, (Or.inr (Or.inr (Or.inl ⟨(X_sg_D.mp hc0).2, hm.symm, Or.inr ⟨by omega, fun h => absurd (X_sg_L.mpr ⟨(by unfold X_isL at h; rcases X_sg_c (tb := tb) (len := len) (k := en) with z | z <;> omega), h⟩) (by assumption), by rw [hnu1 (by omega)], Or.inl ⟨hd1, rfl⟩⟩⟩))), rfl, fun _ => rfl, fun h => absurd h (by omega), fun _ => ⟨rfl, by exact ⟨fun _ => rfl, fun _ => hd1⟩, by omega, by omega⟩, (by omega), h479, ((((((((X_Fr.rf).tr (X_Fr.of n280 e281 (by omega))).tr (X_Fr.mono ⟨hF286.1, hF286.2⟩ (fun q hq => (by omega)))).tr (X_Fr.of n299 e300 (by omega))).tr (X_Fr.of n429 e430 (by omega))).tr (X_Fr.of n433 e434 (by omega))).tr (X_Fr.mono ⟨hF439.1, hF439.2⟩ (fun q hq => (by omega)))).tr (X_Fr.of n457 e458 (by omega))).tr (X_Fr.of n480 e481 (by omega))⟩
                        · skip
                          exact ⟨at_, en, 4, nu, en - at_, nm, 4, (iL nu), en, rfl, hp, (Or.inr (Or.inr (Or.inl ⟨(X_sg_D.mp hc0).2, hm.symm, Or.inr ⟨by omega, fun h => absurd (X_sg_L.mpr ⟨(by unfold X_isL at h; rcases X_sg_c (tb := tb) (len := len) (k := en) with z | z <;> omega), h⟩) (by assumption), by rw [hnu1 (by omega)], Or.inr ⟨hd1, rfl⟩⟩⟩))), rfl, fun _ => rfl, fun h => absurd h (by omega), fun _ => ⟨rfl, by exact ⟨fun h => absurd h hd1, fun h => absurd h (by omega)⟩, by omega, by omega⟩, (by omega), h479, ((((((((X_Fr.rf).tr (X_Fr.of n280 e281 (by omega))).tr (X_Fr.mono ⟨hF286.1, hF286.2⟩ (fun q hq => (by omega)))).tr (X_Fr.of n299 e300 (by omega))).tr (X_Fr.of n429 e430 (by omega))).tr (X_Fr.of n433 e434 (by omega))).tr (X_Fr.mono ⟨hF439.1, hF439.2⟩ (fun q hq => (by omega)))).tr (X_Fr.of n457 e458 (by omega))).tr (X_Fr.of n480 e481 (by omega))⟩
                      · skip
                        have c477 : (X_isL (X_sg tb len en)) := c477
                        refine T_p xr_141_410 xn_141 (pc' := 411) (ls' := [(1, .int (iI (X_sg tb len at_))), (0, .ref 530)]) (st' := [.int (iI 1), .ref 530]) rfl ?_
                        refine T_p xr_141_411 xn_141 (pc' := 415) (ls' := [(1, .int (iI (X_sg tb len at_))), (0, .ref 530)]) (st' := [.int (iI 1), .ref 530]) rfl ?_
                        refine T_put xr_141_415 h456 rfl (Nat.le_of_ble_eq_true rfl) rfl (fs' := [.ref 531, .int (iI (o 1)), .ref 532, .int (iI (o 3)), .int (iI (o 4)), .int (iI (o 5)), .int (iI (o 6)), .int (iI at_), .int (iI en), .int (iI 1), .int (iI nu), .int (iI (en - at_)), .long nm, .ref 533, .ref 534, .ref 535, .ref 536, .ref 537, .ref 538, .ref 539, .ref 540, .ref 541, .ref 542, .ref 543, .ref 544, .ref 545, .ref 546, .ref 547, .int (iI (o 28)), .int (iI (o 29)), .int (iI (o 30)), .int (iI (o 31)), .int (iI (o 32)), .int (iI (o 33)), .ref 548, .ref 549, .ref 550, .ref 551, .int (iI (o 38)), .ref 552, .ref 553, .ref 554, .ref 555, .ref 556, .ref 557, .ref 558, .ref 559, .ref 560, .ref 561, .int (iI (o 49)), .ref 562, .ref 563, .ref 564, .ref 565, .ref 566, .ref 567, .ref 568, .ref 569, .int (iI (o 58)), .ref 570, .ref 571, .ref 572, .ref 573, .ref 574, .ref 575, .ref 576, .ref 577, .ref 578, .int (iI (o 68)), .int (iI (o 69)), .int (iI (o 70)), .ref 579]) rfl (pc' := 418) rfl (fun S482 h483 n484 e485 => ?_)
                        refine T_p xr_141_418 xn_141 (pc' := 551) (ls' := [(1, .int (iI (X_sg tb len at_))), (0, .ref 530)]) (st' := []) rfl ?_
                        refine T_vret xr_141_551 xf_141.2.2 ?_
                        refine hQ _ _ ?_
                        exact ⟨at_, en, 1, nu, en - at_, nm, 1, 0, en, rfl, hp, (Or.inr (Or.inr (Or.inl ⟨(X_sg_D.mp hc0).2, hm.symm, Or.inl ⟨by first | exact Or.inl (by omega) | exact Or.inr (X_sg_L.mp (by assumption)).2, rfl, rfl⟩⟩))), rfl, fun h => absurd h (by omega), fun h => absurd h (by omega), fun h => absurd h (by omega), by first | assumption | omega, h483, ((((((((X_Fr.rf).tr (X_Fr.of n280 e281 (by omega))).tr (X_Fr.mono ⟨hF286.1, hF286.2⟩ (fun q hq => (by omega)))).tr (X_Fr.of n299 e300 (by omega))).tr (X_Fr.of n429 e430 (by omega))).tr (X_Fr.of n433 e434 (by omega))).tr (X_Fr.mono ⟨hF439.1, hF439.2⟩ (fun q hq => (by omega)))).tr (X_Fr.of n457 e458 (by omega))).tr (X_Fr.of n484 e485 (by omega))⟩
                  · skip
                    have c454 : (X_isD (X_sg tb len en)) := c454
                    have hlt : en < len := by first | exact (X_sg_L.mp (by assumption)).1 | exact (X_sg_D.mp (by assumption)).1
                    refine T_p xr_141_323 xn_141 (pc' := 324) (ls' := [(1, .int (iI (X_sg tb len at_))), (0, .ref 530)]) (st' := [.ref 530]) rfl ?_
                    refine T_get xr_141_324 hM1 rfl (v := .int (iI en)) rfl (pc' := 327) rfl ?_
                    refine T_p xr_141_327 xn_141 (pc' := 328) (ls' := [(1, .int (iI (X_sg tb len at_))), (0, .ref 530)]) (st' := [.ref 530, .int (iI en)]) rfl ?_
                    refine T_get xr_141_328 hM1 rfl (v := .int (iI at_)) rfl (pc' := 331) rfl ?_
                    refine T_zisub xr_141_331 (z := en - at_) rfl (pc' := 332) rfl ?_
                    refine T_p xr_141_332 xn_141 (pc' := 334) (ls' := [(1, .int (iI (X_sg tb len at_))), (0, .ref 530)]) (st' := [.int (iI 9), .int (iI (en - at_))]) rfl ?_
                    refine T_zicmp_ge xr_141_334 (t := 360) (pc' := 337) rfl rfl (fun c486 => ?_) (fun c486 => ?_)
                    · skip
                      have c486 : 9 ≤ (en - at_) := c486
                      refine T_p xr_141_360 xn_141 (pc' := 361) (ls' := [(1, .int (iI (X_sg tb len at_))), (0, .ref 530)]) (st' := [.ref 530]) rfl ?_
                      refine T_p xr_141_361 xn_141 (pc' := 362) (ls' := [(1, .int (iI (X_sg tb len at_))), (0, .ref 530)]) (st' := [.ref 530, .ref 530]) rfl ?_
                      refine T_get xr_141_362 hM1 rfl (v := .int (iI en)) rfl (pc' := 365) rfl ?_
                      refine T_p xr_141_365 xn_141 (pc' := 366) (ls' := [(1, .int (iI (X_sg tb len at_))), (0, .ref 530)]) (st' := [.int (iI 1), .int (iI en), .ref 530]) rfl ?_
                      refine T_ziadd xr_141_366 (z := en + 1) rfl (pc' := 367) rfl ?_
                      refine T_put xr_141_367 hM1 rfl (Nat.le_of_ble_eq_true rfl) rfl (fs' := [.ref 531, .int (iI (o 1)), .ref 532, .int (iI (o 3)), .int (iI (o 4)), .int (iI (o 5)), .int (iI (o 6)), .int (iI at_), .int (iI (en + 1)), .int (iI (o 9)), .int (iI nu), .int (iI (o 11)), .long nm, .ref 533, .ref 534, .ref 535, .ref 536, .ref 537, .ref 538, .ref 539, .ref 540, .ref 541, .ref 542, .ref 543, .ref 544, .ref 545, .ref 546, .ref 547, .int (iI (o 28)), .int (iI (o 29)), .int (iI (o 30)), .int (iI (o 31)), .int (iI (o 32)), .int (iI (o 33)), .ref 548, .ref 549, .ref 550, .ref 551, .int (iI (o 38)), .ref 552, .ref 553, .ref 554, .ref 555, .ref 556, .ref 557, .ref 558, .ref 559, .ref 560, .ref 561, .int (iI (o 49)), .ref 562, .ref 563, .ref 564, .ref 565, .ref 566, .ref 567, .ref 568, .ref 569, .int (iI (o 58)), .ref 570, .ref 571, .ref 572, .ref 573, .ref 574, .ref 575, .ref 576, .ref 577, .ref 578, .int (iI (o 68)), .int (iI (o 69)), .int (iI (o 70)), .ref 579]) rfl (pc' := 370) rfl (fun S487 h488 n489 e490 => ?_)
                      refine T_p xr_141_370 xn_141 (pc' := 309) (ls' := [(1, .int (iI (X_sg tb len at_))), (0, .ref 530)]) (st' := []) rfl ?_
                      exact ih436 S487 (en + 1) nu h488 (hF439.tr ((X_Fr.rf).tr (X_Fr.of n489 e490 (by omega)))) (by omega) ((X_se_go (by omega) (X_sg_D.mp (by assumption)).2).symm.trans hse) (fun h => by first | rfl | omega) (by omega) (fun k g1 g2 => by
                            by_cases hk : k = en
                            · subst hk; exact (X_sg_D.mp (by assumption)).2
                            · exact hD k g1 (by omega)) (by omega)
                    · skip
                      have c486 : ¬ (9 ≤ (en - at_)) := c486
                      refine T_p xr_141_337 xn_141 (pc' := 338) (ls' := [(1, .int (iI (X_sg tb len at_))), (0, .ref 530)]) (st' := [.ref 530]) rfl ?_
                      refine T_p xr_141_338 xn_141 (pc' := 340) (ls' := [(1, .int (iI (X_sg tb len at_))), (0, .ref 530)]) (st' := [.int (iI 10), .ref 530]) rfl ?_
                      refine T_p xr_141_340 xn_141 (pc' := 341) (ls' := [(1, .int (iI (X_sg tb len at_))), (0, .ref 530)]) (st' := [.ref 530, .int (iI 10), .ref 530]) rfl ?_
                      refine T_get xr_141_341 hM1 rfl (v := .int (iI nu)) rfl (pc' := 344) rfl ?_
                      refine T_zimul xr_141_344 (z := 10 * nu) rfl (pc' := 345) rfl ?_
                      refine T_p xr_141_345 xn_141 (pc' := 346) (ls' := [(1, .int (iI (X_sg tb len at_))), (0, .ref 530)]) (st' := [.ref 530, .int (iI (10 * nu)), .ref 530]) rfl ?_
                      refine T_p xr_141_346 xn_141 (pc' := 347) (ls' := [(1, .int (iI (X_sg tb len at_))), (0, .ref 530)]) (st' := [.ref 530, .ref 530, .int (iI (10 * nu)), .ref 530]) rfl ?_
                      refine T_get xr_141_347 hM1 rfl (v := .int (iI en)) rfl (pc' := 350) rfl ?_
                      refine T_cv (S := S440) (q := 530) xr_141_350 xf_136.1 xf_136.2.1 xn_136 (as := [.int (iI en)]) (r := [.int (iI (10 * nu)), .ref 530]) rfl hM1 (Nat.le_of_ble_eq_true rfl) (Nat.le_of_ble_eq_true rfl) (pc' := 353) rfl (ls' := [(0, .ref 530), (1, .int (iI en))]) rfl ?_
                      refine T_mono (r_sign sc S440 (X_ou (X_ou (X_ou o 7 at_) 8 en) 10 nu) nm tx tb len en hM1 h441 (show (o 3) = len from by first | assumption | omega) hl htx (by omega)) (fun v491 S492 h493 => ?_)
                      rcases h493 with ⟨hv494, hf495⟩
                      rw [hv494]
                      rw [hf495]
                      have hg496 := X_sg_r (tb := tb) (len := len) (k := en) (by omega)
                      have hg497 := X_sg_c (tb := tb) (len := len) (k := en)
                      show X_T sc 141 (353, [(1, .int (iI (X_sg tb len at_))), (0, .ref 530)], [.int (iI (X_sg tb len en)), .int (iI (10 * nu)), .ref 530], S440) _
                      refine T_ziadd xr_141_353 (z := (10 * nu) + (X_sg tb len en)) rfl (pc' := 354) rfl ?_
                      refine T_p xr_141_354 xn_141 (pc' := 356) (ls' := [(1, .int (iI (X_sg tb len at_))), (0, .ref 530)]) (st' := [.int (iI 48), .int (iI ((10 * nu) + (X_sg tb len en))), .ref 530]) rfl ?_
                      refine T_zisub xr_141_356 (z := ((10 * nu) + (X_sg tb len en)) - 48) rfl (pc' := 357) rfl ?_
                      refine T_ie (y := iI (X_dv tb len at_ (en + 1 - at_).toNat)) (by rw [hnu1 (by omega), show (en + 1 - at_).toNat = (en - at_).toNat + 1 by omega]; show _ = iI (X_dv tb len at_ (en - at_).toNat * 10 + X_at tb len (at_ + ((en - at_).toNat : Int)) - 48); rw [show at_ + ((en - at_).toNat : Int) = en by omega]; congr 1; omega) ?_
                      have hd9 := X_dv_9 (tb := tb) (len := len) (p := at_) (en + 1 - at_).toNat (by omega) (fun i g1 g2 => by
                        by_cases hi : at_ + i = en
                        · rw [hi]; exact (X_sg_D.mp (by assumption)).2
                        · exact hD _ (by omega) (by omega))
                      refine T_put xr_141_357 hM1 rfl (Nat.le_of_ble_eq_true rfl) rfl (fs' := [.ref 531, .int (iI (o 1)), .ref 532, .int (iI (o 3)), .int (iI (o 4)), .int (iI (o 5)), .int (iI (o 6)), .int (iI at_), .int (iI en), .int (iI (o 9)), .int (iI (X_dv tb len at_ (en + 1 - at_).toNat)), .int (iI (o 11)), .long nm, .ref 533, .ref 534, .ref 535, .ref 536, .ref 537, .ref 538, .ref 539, .ref 540, .ref 541, .ref 542, .ref 543, .ref 544, .ref 545, .ref 546, .ref 547, .int (iI (o 28)), .int (iI (o 29)), .int (iI (o 30)), .int (iI (o 31)), .int (iI (o 32)), .int (iI (o 33)), .ref 548, .ref 549, .ref 550, .ref 551, .int (iI (o 38)), .ref 552, .ref 553, .ref 554, .ref 555, .ref 556, .ref 557, .ref 558, .ref 559, .ref 560, .ref 561, .int (iI (o 49)), .ref 562, .ref 563, .ref 564, .ref 565, .ref 566, .ref 567, .ref 568, .ref 569, .int (iI (o 58)), .ref 570, .ref 571, .ref 572, .ref 573, .ref 574, .ref 575, .ref 576, .ref 577, .ref 578, .int (iI (o 68)), .int (iI (o 69)), .int (iI (o 70)), .ref 579]) rfl (pc' := 360) rfl (fun S498 h499 n500 e501 => ?_)
                      refine T_p xr_141_360 xn_141 (pc' := 361) (ls' := [(1, .int (iI (X_sg tb len at_))), (0, .ref 530)]) (st' := [.ref 530]) rfl ?_
                      refine T_p xr_141_361 xn_141 (pc' := 362) (ls' := [(1, .int (iI (X_sg tb len at_))), (0, .ref 530)]) (st' := [.ref 530, .ref 530]) rfl ?_
                      refine T_get xr_141_362 h499 rfl (v := .int (iI en)) rfl (pc' := 365) rfl ?_
                      refine T_p xr_141_365 xn_141 (pc' := 366) (ls' := [(1, .int (iI (X_sg tb len at_))), (0, .ref 530)]) (st' := [.int (iI 1), .int (iI en), .ref 530]) rfl ?_
                      refine T_ziadd xr_141_366 (z := en + 1) rfl (pc' := 367) rfl ?_
                      refine T_put xr_141_367 h499 rfl (Nat.le_of_ble_eq_true rfl) rfl (fs' := [.ref 531, .int (iI (o 1)), .ref 532, .int (iI (o 3)), .int (iI (o 4)), .int (iI (o 5)), .int (iI (o 6)), .int (iI at_), .int (iI (en + 1)), .int (iI (o 9)), .int (iI (X_dv tb len at_ (en + 1 - at_).toNat)), .int (iI (o 11)), .long nm, .ref 533, .ref 534, .ref 535, .ref 536, .ref 537, .ref 538, .ref 539, .ref 540, .ref 541, .ref 542, .ref 543, .ref 544, .ref 545, .ref 546, .ref 547, .int (iI (o 28)), .int (iI (o 29)), .int (iI (o 30)), .int (iI (o 31)), .int (iI (o 32)), .int (iI (o 33)), .ref 548, .ref 549, .ref 550, .ref 551, .int (iI (o 38)), .ref 552, .ref 553, .ref 554, .ref 555, .ref 556, .ref 557, .ref 558, .ref 559, .ref 560, .ref 561, .int (iI (o 49)), .ref 562, .ref 563, .ref 564, .ref 565, .ref 566, .ref 567, .ref 568, .ref 569, .int (iI (o 58)), .ref 570, .ref 571, .ref 572, .ref 573, .ref 574, .ref 575, .ref 576, .ref 577, .ref 578, .int (iI (o 68)), .int (iI (o 69)), .int (iI (o 70)), .ref 579]) rfl (pc' := 370) rfl (fun S502 h503 n504 e505 => ?_)
                      refine T_p xr_141_370 xn_141 (pc' := 309) (ls' := [(1, .int (iI (X_sg tb len at_))), (0, .ref 530)]) (st' := []) rfl ?_
                      exact ih436 S502 (en + 1) (X_dv tb len at_ (en + 1 - at_).toNat) h503 (hF439.tr (((X_Fr.rf).tr (X_Fr.of n500 e501 (by omega))).tr (X_Fr.of n504 e505 (by omega)))) (by omega) ((X_se_go (by omega) (X_sg_D.mp (by assumption)).2).symm.trans hse) (fun h => by first | rfl | omega) (by omega) (fun k g1 g2 => by
                            by_cases hk : k = en
                            · subst hk; exact (X_sg_D.mp (by assumption)).2
                            · exact hD k g1 (by omega)) (by omega)
              exact L435 (len + 1).toNat S431 at_ 0 h432 ((X_Fr.rf)) (by omega) rfl (fun _ => by rw [show (at_ - at_).toNat = 0 by omega]; rfl) (by omega) (fun k g1 g2 => absurd g2 (by omega)) (by omega)
          · skip
            have c307 : (X_isL (X_sg tb len at_)) := c307
            have L506 : ∀ (m508 : Nat) (S511 : X_S) (en : Int) (hM1 : S511.1 530 = .inr (11, [.ref 531, .int (iI (o 1)), .ref 532, .int (iI (o 3)), .int (iI (o 4)), .int (iI (o 5)), .int (iI (o 6)), .int (iI at_), .int (iI en), .int (iI (o 9)), .int (iI (o 10)), .int (iI (o 11)), .long nm, .ref 533, .ref 534, .ref 535, .ref 536, .ref 537, .ref 538, .ref 539, .ref 540, .ref 541, .ref 542, .ref 543, .ref 544, .ref 545, .ref 546, .ref 547, .int (iI (o 28)), .int (iI (o 29)), .int (iI (o 30)), .int (iI (o 31)), .int (iI (o 32)), .int (iI (o 33)), .ref 548, .ref 549, .ref 550, .ref 551, .int (iI (o 38)), .ref 552, .ref 553, .ref 554, .ref 555, .ref 556, .ref 557, .ref 558, .ref 559, .ref 560, .ref 561, .int (iI (o 49)), .ref 562, .ref 563, .ref 564, .ref 565, .ref 566, .ref 567, .ref 568, .ref 569, .int (iI (o 58)), .ref 570, .ref 571, .ref 572, .ref 573, .ref 574, .ref 575, .ref 576, .ref 577, .ref 578, .int (iI (o 68)), .int (iI (o 69)), .int (iI (o 70)), .ref 579])) (hF510 : X_Fr (fun q => q = 530) S297 S511) (hen : at_ + 1 ≤ en ∧ en ≤ len) (hse : X_se X_isLD tb len en = X_se X_isLD tb len (at_ + 1)) (hm509 : len - en < m508), X_T sc 141 (119, [(1, .int (iI (X_sg tb len at_))), (0, .ref 530)], [], S511) Q := by
              intro m508
              induction m508 with
              | zero =>
                intro S511 en hM1 hF510 hen hse hm509
                exact (show False by omega).elim
              | succ m508 ih507 =>
                intro S511 en hM1 hF510 hen hse hm509
                refine T_p xr_141_119 xn_141 (pc' := 120) (ls' := [(1, .int (iI (X_sg tb len at_))), (0, .ref 530)]) (st' := [.ref 530]) rfl ?_
                refine T_p xr_141_120 xn_141 (pc' := 121) (ls' := [(1, .int (iI (X_sg tb len at_))), (0, .ref 530)]) (st' := [.ref 530, .ref 530]) rfl ?_
                refine T_get xr_141_121 hM1 rfl (v := .int (iI en)) rfl (pc' := 124) rfl ?_
                refine T_cv (S := S511) (q := 530) xr_141_124 xf_136.1 xf_136.2.1 xn_136 (as := [.int (iI en)]) (r := []) rfl hM1 (Nat.le_of_ble_eq_true rfl) (Nat.le_of_ble_eq_true rfl) (pc' := 127) rfl (ls' := [(0, .ref 530), (1, .int (iI en))]) rfl ?_
                have h512 := (hF510.1 532 (by omega)).trans ((n299 532 (by decide)).trans (h289))
                refine T_mono (r_sign sc S511 (X_ou (X_ou o 7 at_) 8 en) nm tx tb len en hM1 h512 (show (o 3) = len from by first | assumption | omega) hl htx (by omega)) (fun v513 S514 h515 => ?_)
                rcases h515 with ⟨hv516, hf517⟩
                rw [hv516]
                rw [hf517]
                have hg518 := X_sg_r (tb := tb) (len := len) (k := en) (by omega)
                have hg519 := X_sg_c (tb := tb) (len := len) (k := en)
                show X_T sc 141 (127, [(1, .int (iI (X_sg tb len at_))), (0, .ref 530)], [.int (iI (X_sg tb len en))], S511) _
                refine T_cs xr_141_127 (by decide) xf_137.1 xn_137 (as := [.int (iI (X_sg tb len en))]) (r := []) rfl (Nat.le_of_ble_eq_true rfl) (Nat.le_of_ble_eq_true rfl) (pc' := 130) rfl (ls' := [(0, .int (iI (X_sg tb len en)))]) rfl ?_
                refine T_mono (r_isLetter sc S511 (X_sg tb len en) (by omega)) (fun v520 S521 h522 => ?_)
                rcases h522 with ⟨hv523, hf524⟩
                rw [hv523]
                rw [hf524]
                show X_T sc 141 (130, [(1, .int (iI (X_sg tb len at_))), (0, .ref 530)], [.int (iI (bI (X_isL (X_sg tb len en))))], S511) _
                refine T_bif_ne xr_141_130 (t := 147) (pc' := 133) rfl rfl (fun c525 => ?_) (fun c525 => ?_)
                · skip
                  have c525 : (X_isL (X_sg tb len en)) := c525
                  have hlt : en < len := by first | exact (X_sg_L.mp (by assumption)).1 | exact (X_sg_D.mp (by assumption)).1
                  refine T_p xr_141_147 xn_141 (pc' := 148) (ls' := [(1, .int (iI (X_sg tb len at_))), (0, .ref 530)]) (st' := [.ref 530]) rfl ?_
                  refine T_p xr_141_148 xn_141 (pc' := 149) (ls' := [(1, .int (iI (X_sg tb len at_))), (0, .ref 530)]) (st' := [.ref 530, .ref 530]) rfl ?_
                  refine T_get xr_141_149 hM1 rfl (v := .int (iI en)) rfl (pc' := 152) rfl ?_
                  refine T_p xr_141_152 xn_141 (pc' := 153) (ls' := [(1, .int (iI (X_sg tb len at_))), (0, .ref 530)]) (st' := [.int (iI 1), .int (iI en), .ref 530]) rfl ?_
                  refine T_ziadd xr_141_153 (z := en + 1) rfl (pc' := 154) rfl ?_
                  refine T_put xr_141_154 hM1 rfl (Nat.le_of_ble_eq_true rfl) rfl (fs' := [.ref 531, .int (iI (o 1)), .ref 532, .int (iI (o 3)), .int (iI (o 4)), .int (iI (o 5)), .int (iI (o 6)), .int (iI at_), .int (iI (en + 1)), .int (iI (o 9)), .int (iI (o 10)), .int (iI (o 11)), .long nm, .ref 533, .ref 534, .ref 535, .ref 536, .ref 537, .ref 538, .ref 539, .ref 540, .ref 541, .ref 542, .ref 543, .ref 544, .ref 545, .ref 546, .ref 547, .int (iI (o 28)), .int (iI (o 29)), .int (iI (o 30)), .int (iI (o 31)), .int (iI (o 32)), .int (iI (o 33)), .ref 548, .ref 549, .ref 550, .ref 551, .int (iI (o 38)), .ref 552, .ref 553, .ref 554, .ref 555, .ref 556, .ref 557, .ref 558, .ref 559, .ref 560, .ref 561, .int (iI (o 49)), .ref 562, .ref 563, .ref 564, .ref 565, .ref 566, .ref 567, .ref 568, .ref 569, .int (iI (o 58)), .ref 570, .ref 571, .ref 572, .ref 573, .ref 574, .ref 575, .ref 576, .ref 577, .ref 578, .int (iI (o 68)), .int (iI (o 69)), .int (iI (o 70)), .ref 579]) rfl (pc' := 157) rfl (fun S526 h527 n528 e529 => ?_)
                  refine T_p xr_141_157 xn_141 (pc' := 119) (ls' := [(1, .int (iI (X_sg tb len at_))), (0, .ref 530)]) (st' := []) rfl ?_
                  exact ih507 S526 (en + 1) h527 (hF510.tr ((X_Fr.rf).tr (X_Fr.of n528 e529 (by omega)))) (by omega) ((X_se_go (by omega) (by first | exact Or.inl (X_sg_L.mp (by assumption)).2 | exact Or.inr (X_sg_D.mp (by assumption)).2)).symm.trans hse) (by omega)
                · skip
                  have c525 : ¬ (X_isL (X_sg tb len en)) := c525
                  refine T_p xr_141_133 xn_141 (pc' := 134) (ls' := [(1, .int (iI (X_sg tb len at_))), (0, .ref 530)]) (st' := [.ref 530]) rfl ?_
                  refine T_p xr_141_134 xn_141 (pc' := 135) (ls' := [(1, .int (iI (X_sg tb len at_))), (0, .ref 530)]) (st' := [.ref 530, .ref 530]) rfl ?_
                  refine T_get xr_141_135 hM1 rfl (v := .int (iI en)) rfl (pc' := 138) rfl ?_
                  refine T_cv (S := S511) (q := 530) xr_141_138 xf_136.1 xf_136.2.1 xn_136 (as := [.int (iI en)]) (r := []) rfl hM1 (Nat.le_of_ble_eq_true rfl) (Nat.le_of_ble_eq_true rfl) (pc' := 141) rfl (ls' := [(0, .ref 530), (1, .int (iI en))]) rfl ?_
                  refine T_mono (r_sign sc S511 (X_ou (X_ou o 7 at_) 8 en) nm tx tb len en hM1 h512 (show (o 3) = len from by first | assumption | omega) hl htx (by omega)) (fun v530 S531 h532 => ?_)
                  rcases h532 with ⟨hv533, hf534⟩
                  rw [hv533]
                  rw [hf534]
                  have hg535 := X_sg_r (tb := tb) (len := len) (k := en) (by omega)
                  have hg536 := X_sg_c (tb := tb) (len := len) (k := en)
                  show X_T sc 141 (141, [(1, .int (iI (X_sg tb len at_))), (0, .ref 530)], [.int (iI (X_sg tb len en))], S511) _
                  refine T_cs xr_141_141 (by decide) xf_138.1 xn_138 (as := [.int (iI (X_sg tb len en))]) (r := []) rfl (Nat.le_of_ble_eq_true rfl) (Nat.le_of_ble_eq_true rfl) (pc' := 144) rfl (ls' := [(0, .int (iI (X_sg tb len en)))]) rfl ?_
                  refine T_mono (r_isDigit sc S511 (X_sg tb len en) (by omega)) (fun v537 S538 h539 => ?_)
                  rcases h539 with ⟨hv540, hf541⟩
                  rw [hv540]
                  rw [hf541]
                  show X_T sc 141 (144, [(1, .int (iI (X_sg tb len at_))), (0, .ref 530)], [.int (iI (bI (X_isD (X_sg tb len en))))], S511) _
                  refine T_bif_eq xr_141_144 (t := 160) (pc' := 147) rfl rfl (fun c542 => ?_) (fun c542 => ?_)
                  · skip
                    have c542 : ¬ (X_isD (X_sg tb len en)) := c542
                    have hm : X_se X_isLD tb len at_ = en := (X_se_go (by omega) (Or.inl (X_sg_L.mp (by assumption)).2)).trans (hse.symm.trans (X_se_no (by first | (intro h; omega) | (intro h; exact absurd h.2 (X_sg_n (by assumption) (by assumption))))))
                    refine T_p xr_141_160 xn_141 (pc' := 161) (ls' := [(1, .int (iI (X_sg tb len at_))), (0, .ref 530)]) (st' := [.ref 530]) rfl ?_
                    refine T_p xr_141_161 xn_141 (pc' := 162) (ls' := [(1, .int (iI (X_sg tb len at_))), (0, .ref 530)]) (st' := [.ref 530, .ref 530]) rfl ?_
                    refine T_get xr_141_162 hM1 rfl (v := .int (iI at_)) rfl (pc' := 165) rfl ?_
                    refine T_p xr_141_165 xn_141 (pc' := 166) (ls' := [(1, .int (iI (X_sg tb len at_))), (0, .ref 530)]) (st' := [.ref 530, .int (iI at_), .ref 530]) rfl ?_
                    refine T_get xr_141_166 hM1 rfl (v := .int (iI en)) rfl (pc' := 169) rfl ?_
                    refine T_cv (S := S511) (q := 530) xr_141_169 xf_142.1 xf_142.2.1 xn_142 (as := [.int (iI at_), .int (iI en)]) (r := []) rfl hM1 (Nat.le_of_ble_eq_true rfl) (Nat.le_of_ble_eq_true rfl) (pc' := 172) rfl (ls' := [(0, .ref 530), (1, .int (iI at_)), (2, .int (iI en))]) rfl ?_
                    refine T_mono (r_pack sc S511 (X_ou (X_ou o 7 at_) 8 en) nm tx tb len at_ en hM1 h512 (show (o 3) = len from by first | assumption | omega) hl htx (by omega) (by omega)) (fun v543 S544 h545 => ?_)
                    rcases h545 with ⟨nm546, hv547, hp548, hM549, hf550⟩
                    rw [hv547]
                    have h551 : S544.1 530 = .inr (11, [.ref 531, .int (iI (o 1)), .ref 532, .int (iI (o 3)), .int (iI (o 4)), .int (iI (o 5)), .int (iI (o 6)), .int (iI at_), .int (iI en), .int (iI (o 9)), .int (iI (o 10)), .int (iI (o 11)), .long nm546, .ref 533, .ref 534, .ref 535, .ref 536, .ref 537, .ref 538, .ref 539, .ref 540, .ref 541, .ref 542, .ref 543, .ref 544, .ref 545, .ref 546, .ref 547, .int (iI (o 28)), .int (iI (o 29)), .int (iI (o 30)), .int (iI (o 31)), .int (iI (o 32)), .int (iI (o 33)), .ref 548, .ref 549, .ref 550, .ref 551, .int (iI (o 38)), .ref 552, .ref 553, .ref 554, .ref 555, .ref 556, .ref 557, .ref 558, .ref 559, .ref 560, .ref 561, .int (iI (o 49)), .ref 562, .ref 563, .ref 564, .ref 565, .ref 566, .ref 567, .ref 568, .ref 569, .int (iI (o 58)), .ref 570, .ref 571, .ref 572, .ref 573, .ref 574, .ref 575, .ref 576, .ref 577, .ref 578, .int (iI (o 68)), .int (iI (o 69)), .int (iI (o 70)), .ref 579]) := hM549
                    show X_T sc 141 (172, [(1, .int (iI (X_sg tb len at_))), (0, .ref 530)], [], S544) _
                    have J552 : X_T sc 141 (254, [(1, .int (iI (X_sg tb len at_))), (0, .ref 530)], [.int (iI (bI (X_res nm546)))], S544) Q := by
                      refine T_p xr_141_254 xn_141 (pc' := 255) (ls' := [(2, .int (iI (bI (X_res nm546)))), (1, .int (iI (X_sg tb len at_))), (0, .ref 530)]) (st' := []) rfl ?_
                      refine T_p xr_141_255 xn_141 (pc' := 256) (ls' := [(2, .int (iI (bI (X_res nm546)))), (1, .int (iI (X_sg tb len at_))), (0, .ref 530)]) (st' := [.ref 530]) rfl ?_
                      refine T_p xr_141_256 xn_141 (pc' := 257) (ls' := [(2, .int (iI (bI (X_res nm546)))), (1, .int (iI (X_sg tb len at_))), (0, .ref 530)]) (st' := [.ref 530, .ref 530]) rfl ?_
                      refine T_get xr_141_257 h551 rfl (v := .int (iI en)) rfl (pc' := 260) rfl ?_
                      refine T_p xr_141_260 xn_141 (pc' := 261) (ls' := [(2, .int (iI (bI (X_res nm546)))), (1, .int (iI (X_sg tb len at_))), (0, .ref 530)]) (st' := [.ref 530, .int (iI en), .ref 530]) rfl ?_
                      refine T_get xr_141_261 h551 rfl (v := .int (iI at_)) rfl (pc' := 264) rfl ?_
                      refine T_zisub xr_141_264 (z := en - at_) rfl (pc' := 265) rfl ?_
                      refine T_p xr_141_265 xn_141 (pc' := 267) (ls' := [(2, .int (iI (bI (X_res nm546)))), (1, .int (iI (X_sg tb len at_))), (0, .ref 530)]) (st' := [.int (iI 8), .int (iI (en - at_)), .ref 530]) rfl ?_
                      refine T_zicmp_le xr_141_267 (t := 274) (pc' := 270) rfl rfl (fun c553 => ?_) (fun c553 => ?_)
                      · skip
                        have c553 : (en - at_) ≤ 8 := c553
                        refine T_p xr_141_274 xn_141 (pc' := 275) (ls' := [(2, .int (iI (bI (X_res nm546)))), (1, .int (iI (X_sg tb len at_))), (0, .ref 530)]) (st' := [.int (iI (bI (X_res nm546))), .ref 530]) rfl ?_
                        refine T_bif_eq xr_141_275 (t := 282) (pc' := 278) rfl rfl (fun c554 => ?_) (fun c554 => ?_)
                        · skip
                          have c554 : ¬ (X_res nm546) := c554
                          refine T_p xr_141_282 xn_141 (pc' := 283) (ls' := [(2, .int (iI (bI (X_res nm546)))), (1, .int (iI (X_sg tb len at_))), (0, .ref 530)]) (st' := [.int (iI 2), .ref 530]) rfl ?_
                          refine T_put xr_141_283 h551 rfl (Nat.le_of_ble_eq_true rfl) rfl (fs' := [.ref 531, .int (iI (o 1)), .ref 532, .int (iI (o 3)), .int (iI (o 4)), .int (iI (o 5)), .int (iI (o 6)), .int (iI at_), .int (iI en), .int (iI 2), .int (iI (o 10)), .int (iI (o 11)), .long nm546, .ref 533, .ref 534, .ref 535, .ref 536, .ref 537, .ref 538, .ref 539, .ref 540, .ref 541, .ref 542, .ref 543, .ref 544, .ref 545, .ref 546, .ref 547, .int (iI (o 28)), .int (iI (o 29)), .int (iI (o 30)), .int (iI (o 31)), .int (iI (o 32)), .int (iI (o 33)), .ref 548, .ref 549, .ref 550, .ref 551, .int (iI (o 38)), .ref 552, .ref 553, .ref 554, .ref 555, .ref 556, .ref 557, .ref 558, .ref 559, .ref 560, .ref 561, .int (iI (o 49)), .ref 562, .ref 563, .ref 564, .ref 565, .ref 566, .ref 567, .ref 568, .ref 569, .int (iI (o 58)), .ref 570, .ref 571, .ref 572, .ref 573, .ref 574, .ref 575, .ref 576, .ref 577, .ref 578, .int (iI (o 68)), .int (iI (o 69)), .int (iI (o 70)), .ref 579]) rfl (pc' := 286) rfl (fun S555 h556 n557 e558 => ?_)
                          refine T_p xr_141_286 xn_141 (pc' := 551) (ls' := [(2, .int (iI (bI (X_res nm546)))), (1, .int (iI (X_sg tb len at_))), (0, .ref 530)]) (st' := []) rfl ?_
                          refine T_vret xr_141_551 xf_141.2.2 ?_
                          refine hQ _ _ ?_
                          exact ⟨at_, en, 2, o 10, o 11, nm546, 2, nm546, en, rfl, hp, (Or.inr (Or.inl ⟨(X_sg_L.mp (by assumption)).2, hm.symm, Or.inr ⟨by omega, hp548 (by omega), Or.inr ⟨by assumption, rfl⟩⟩⟩)), rfl, (fun _ => rfl), (fun _ => rfl), fun h => absurd h (by omega), by first | assumption | omega, h556, ((((((X_Fr.rf).tr (X_Fr.of n280 e281 (by omega))).tr (X_Fr.mono ⟨hF286.1, hF286.2⟩ (fun q hq => (by omega)))).tr (X_Fr.of n299 e300 (by omega))).tr (X_Fr.mono ⟨hF510.1, hF510.2⟩ (fun q hq => (by omega)))).tr (X_Fr.mono ⟨hf550.1, hf550.2⟩ (fun q hq => (by omega)))).tr (X_Fr.of n557 e558 (by omega))⟩
                        · skip
                          have c554 : (X_res nm546) := c554
                          refine T_p xr_141_278 xn_141 (pc' := 279) (ls' := [(2, .int (iI (bI (X_res nm546)))), (1, .int (iI (X_sg tb len at_))), (0, .ref 530)]) (st' := [.int (iI 3), .ref 530]) rfl ?_
                          refine T_p xr_141_279 xn_141 (pc' := 283) (ls' := [(2, .int (iI (bI (X_res nm546)))), (1, .int (iI (X_sg tb len at_))), (0, .ref 530)]) (st' := [.int (iI 3), .ref 530]) rfl ?_
                          refine T_put xr_141_283 h551 rfl (Nat.le_of_ble_eq_true rfl) rfl (fs' := [.ref 531, .int (iI (o 1)), .ref 532, .int (iI (o 3)), .int (iI (o 4)), .int (iI (o 5)), .int (iI (o 6)), .int (iI at_), .int (iI en), .int (iI 3), .int (iI (o 10)), .int (iI (o 11)), .long nm546, .ref 533, .ref 534, .ref 535, .ref 536, .ref 537, .ref 538, .ref 539, .ref 540, .ref 541, .ref 542, .ref 543, .ref 544, .ref 545, .ref 546, .ref 547, .int (iI (o 28)), .int (iI (o 29)), .int (iI (o 30)), .int (iI (o 31)), .int (iI (o 32)), .int (iI (o 33)), .ref 548, .ref 549, .ref 550, .ref 551, .int (iI (o 38)), .ref 552, .ref 553, .ref 554, .ref 555, .ref 556, .ref 557, .ref 558, .ref 559, .ref 560, .ref 561, .int (iI (o 49)), .ref 562, .ref 563, .ref 564, .ref 565, .ref 566, .ref 567, .ref 568, .ref 569, .int (iI (o 58)), .ref 570, .ref 571, .ref 572, .ref 573, .ref 574, .ref 575, .ref 576, .ref 577, .ref 578, .int (iI (o 68)), .int (iI (o 69)), .int (iI (o 70)), .ref 579]) rfl (pc' := 286) rfl (fun S559 h560 n561 e562 => ?_)
                          refine T_p xr_141_286 xn_141 (pc' := 551) (ls' := [(2, .int (iI (bI (X_res nm546)))), (1, .int (iI (X_sg tb len at_))), (0, .ref 530)]) (st' := []) rfl ?_
                          refine T_vret xr_141_551 xf_141.2.2 ?_
                          refine hQ _ _ ?_
                          exact ⟨at_, en, 3, o 10, o 11, nm546, 3, nm546, en, rfl, hp, (Or.inr (Or.inl ⟨(X_sg_L.mp (by assumption)).2, hm.symm, Or.inr ⟨by omega, hp548 (by omega), Or.inl ⟨by assumption, rfl⟩⟩⟩)), rfl, (fun _ => rfl), (fun _ => rfl), fun h => absurd h (by omega), by first | assumption | omega, h560, ((((((X_Fr.rf).tr (X_Fr.of n280 e281 (by omega))).tr (X_Fr.mono ⟨hF286.1, hF286.2⟩ (fun q hq => (by omega)))).tr (X_Fr.of n299 e300 (by omega))).tr (X_Fr.mono ⟨hF510.1, hF510.2⟩ (fun q hq => (by omega)))).tr (X_Fr.mono ⟨hf550.1, hf550.2⟩ (fun q hq => (by omega)))).tr (X_Fr.of n561 e562 (by omega))⟩
                      · skip
                        have c553 : ¬ ((en - at_) ≤ 8) := c553
                        refine T_p xr_141_270 xn_141 (pc' := 271) (ls' := [(2, .int (iI (bI (X_res nm546)))), (1, .int (iI (X_sg tb len at_))), (0, .ref 530)]) (st' := [.int (iI 1), .ref 530]) rfl ?_
                        refine T_p xr_141_271 xn_141 (pc' := 283) (ls' := [(2, .int (iI (bI (X_res nm546)))), (1, .int (iI (X_sg tb len at_))), (0, .ref 530)]) (st' := [.int (iI 1), .ref 530]) rfl ?_
                        refine T_put xr_141_283 h551 rfl (Nat.le_of_ble_eq_true rfl) rfl (fs' := [.ref 531, .int (iI (o 1)), .ref 532, .int (iI (o 3)), .int (iI (o 4)), .int (iI (o 5)), .int (iI (o 6)), .int (iI at_), .int (iI en), .int (iI 1), .int (iI (o 10)), .int (iI (o 11)), .long nm546, .ref 533, .ref 534, .ref 535, .ref 536, .ref 537, .ref 538, .ref 539, .ref 540, .ref 541, .ref 542, .ref 543, .ref 544, .ref 545, .ref 546, .ref 547, .int (iI (o 28)), .int (iI (o 29)), .int (iI (o 30)), .int (iI (o 31)), .int (iI (o 32)), .int (iI (o 33)), .ref 548, .ref 549, .ref 550, .ref 551, .int (iI (o 38)), .ref 552, .ref 553, .ref 554, .ref 555, .ref 556, .ref 557, .ref 558, .ref 559, .ref 560, .ref 561, .int (iI (o 49)), .ref 562, .ref 563, .ref 564, .ref 565, .ref 566, .ref 567, .ref 568, .ref 569, .int (iI (o 58)), .ref 570, .ref 571, .ref 572, .ref 573, .ref 574, .ref 575, .ref 576, .ref 577, .ref 578, .int (iI (o 68)), .int (iI (o 69)), .int (iI (o 70)), .ref 579]) rfl (pc' := 286) rfl (fun S563 h564 n565 e566 => ?_)
                        refine T_p xr_141_286 xn_141 (pc' := 551) (ls' := [(2, .int (iI (bI (X_res nm546)))), (1, .int (iI (X_sg tb len at_))), (0, .ref 530)]) (st' := []) rfl ?_
                        refine T_vret xr_141_551 xf_141.2.2 ?_
                        refine hQ _ _ ?_
                        exact ⟨at_, en, 1, o 10, o 11, nm546, 1, 0, en, rfl, hp, (Or.inr (Or.inl ⟨(X_sg_L.mp (by assumption)).2, hm.symm, Or.inl ⟨by omega, rfl, rfl⟩⟩)), rfl, (fun _ => rfl), fun h => absurd h (by omega), fun h => absurd h (by omega), by first | assumption | omega, h564, ((((((X_Fr.rf).tr (X_Fr.of n280 e281 (by omega))).tr (X_Fr.mono ⟨hF286.1, hF286.2⟩ (fun q hq => (by omega)))).tr (X_Fr.of n299 e300 (by omega))).tr (X_Fr.mono ⟨hF510.1, hF510.2⟩ (fun q hq => (by omega)))).tr (X_Fr.mono ⟨hf550.1, hf550.2⟩ (fun q hq => (by omega)))).tr (X_Fr.of n565 e566 (by omega))⟩
                    refine T_p xr_141_172 xn_141 (pc' := 173) (ls' := [(1, .int (iI (X_sg tb len at_))), (0, .ref 530)]) (st' := [.ref 530]) rfl ?_
                    refine T_get xr_141_173 h551 rfl (v := .long nm546) rfl (pc' := 176) rfl ?_
                    refine T_p xr_141_176 xn_141 (pc' := 179) (ls' := [(1, .int (iI (X_sg tb len at_))), (0, .ref 530)]) (st' := [.long (Int64.ofNat 1918987883), .long nm546]) rfl ?_
                    refine T_lc_eq xr_141_179 xr_141_180 (t := 249) (pc' := 183) rfl rfl (fun c567 => ?_) (fun c567 => ?_)
                    · skip
                      have c567 : nm546 = (Int64.ofNat 1918987883) := c567
                      refine T_p xr_141_249 xn_141 (pc' := 250) (ls' := [(1, .int (iI (X_sg tb len at_))), (0, .ref 530)]) (st' := [.int (iI 1)]) rfl ?_
                      refine T_p xr_141_250 xn_141 (pc' := 254) (ls' := [(1, .int (iI (X_sg tb len at_))), (0, .ref 530)]) (st' := [.int (iI 1)]) rfl ?_
                      refine T_ie (y := iI (bI (X_res nm546))) (by rw [bI_t (by unfold X_res; first | (left; assumption) | (left; exact Classical.not_not.mp (by assumption)) | (right; left; assumption) | (right; left; exact Classical.not_not.mp (by assumption)) | (right; right; left; assumption) | (right; right; left; exact Classical.not_not.mp (by assumption)) | (right; right; right; left; assumption) | (right; right; right; left; exact Classical.not_not.mp (by assumption)) | (right; right; right; right; left; assumption) | (right; right; right; right; left; exact Classical.not_not.mp (by assumption)) | (right; right; right; right; right; left; assumption) | (right; right; right; right; right; left; exact Classical.not_not.mp (by assumption)) | (right; right; right; right; right; right; assumption) | (right; right; right; right; right; right; exact Classical.not_not.mp (by assumption)))]) ?_
                      exact J552
                    · skip
                      have c567 : ¬ (nm546 = (Int64.ofNat 1918987883)) := c567
                      refine T_p xr_141_183 xn_141 (pc' := 184) (ls' := [(1, .int (iI (X_sg tb len at_))), (0, .ref 530)]) (st' := [.ref 530]) rfl ?_
                      refine T_get xr_141_184 h551 rfl (v := .long nm546) rfl (pc' := 187) rfl ?_
                      refine T_p xr_141_187 xn_141 (pc' := 190) (ls' := [(1, .int (iI (X_sg tb len at_))), (0, .ref 530)]) (st' := [.long (Int64.ofNat 32766990153442674), .long nm546]) rfl ?_
                      refine T_lc_eq xr_141_190 xr_141_191 (t := 249) (pc' := 194) rfl rfl (fun c568 => ?_) (fun c568 => ?_)
                      · skip
                        have c568 : nm546 = (Int64.ofNat 32766990153442674) := c568
                        refine T_p xr_141_249 xn_141 (pc' := 250) (ls' := [(1, .int (iI (X_sg tb len at_))), (0, .ref 530)]) (st' := [.int (iI 1)]) rfl ?_
                        refine T_p xr_141_250 xn_141 (pc' := 254) (ls' := [(1, .int (iI (X_sg tb len at_))), (0, .ref 530)]) (st' := [.int (iI 1)]) rfl ?_
                        refine T_ie (y := iI (bI (X_res nm546))) (by rw [bI_t (by unfold X_res; first | (left; assumption) | (left; exact Classical.not_not.mp (by assumption)) | (right; left; assumption) | (right; left; exact Classical.not_not.mp (by assumption)) | (right; right; left; assumption) | (right; right; left; exact Classical.not_not.mp (by assumption)) | (right; right; right; left; assumption) | (right; right; right; left; exact Classical.not_not.mp (by assumption)) | (right; right; right; right; left; assumption) | (right; right; right; right; left; exact Classical.not_not.mp (by assumption)) | (right; right; right; right; right; left; assumption) | (right; right; right; right; right; left; exact Classical.not_not.mp (by assumption)) | (right; right; right; right; right; right; assumption) | (right; right; right; right; right; right; exact Classical.not_not.mp (by assumption)))]) ?_
                        exact J552
                      · skip
                        have c568 : ¬ (nm546 = (Int64.ofNat 32766990153442674)) := c568
                        refine T_p xr_141_194 xn_141 (pc' := 195) (ls' := [(1, .int (iI (X_sg tb len at_))), (0, .ref 530)]) (st' := [.ref 530]) rfl ?_
                        refine T_get xr_141_195 h551 rfl (v := .long nm546) rfl (pc' := 198) rfl ?_
                        refine T_p xr_141_198 xn_141 (pc' := 201) (ls' := [(1, .int (iI (X_sg tb len at_))), (0, .ref 530)]) (st' := [.long (Int64.ofNat 1802071652), .long nm546]) rfl ?_
                        refine T_lc_eq xr_141_201 xr_141_202 (t := 249) (pc' := 205) rfl rfl (fun c569 => ?_) (fun c569 => ?_)
                        · skip
                          have c569 : nm546 = (Int64.ofNat 1802071652) := c569
                          refine T_p xr_141_249 xn_141 (pc' := 250) (ls' := [(1, .int (iI (X_sg tb len at_))), (0, .ref 530)]) (st' := [.int (iI 1)]) rfl ?_
                          refine T_p xr_141_250 xn_141 (pc' := 254) (ls' := [(1, .int (iI (X_sg tb len at_))), (0, .ref 530)]) (st' := [.int (iI 1)]) rfl ?_
                          refine T_ie (y := iI (bI (X_res nm546))) (by rw [bI_t (by unfold X_res; first | (left; assumption) | (left; exact Classical.not_not.mp (by assumption)) | (right; left; assumption) | (right; left; exact Classical.not_not.mp (by assumption)) | (right; right; left; assumption) | (right; right; left; exact Classical.not_not.mp (by assumption)) | (right; right; right; left; assumption) | (right; right; right; left; exact Classical.not_not.mp (by assumption)) | (right; right; right; right; left; assumption) | (right; right; right; right; left; exact Classical.not_not.mp (by assumption)) | (right; right; right; right; right; left; assumption) | (right; right; right; right; right; left; exact Classical.not_not.mp (by assumption)) | (right; right; right; right; right; right; assumption) | (right; right; right; right; right; right; exact Classical.not_not.mp (by assumption)))]) ?_
                          exact J552
                        · skip
                          have c569 : ¬ (nm546 = (Int64.ofNat 1802071652)) := c569
                          refine T_p xr_141_205 xn_141 (pc' := 206) (ls' := [(1, .int (iI (X_sg tb len at_))), (0, .ref 530)]) (st' := [.ref 530]) rfl ?_
                          refine T_get xr_141_206 h551 rfl (v := .long nm546) rfl (pc' := 209) rfl ?_
                          refine T_p xr_141_209 xn_141 (pc' := 212) (ls' := [(1, .int (iI (X_sg tb len at_))), (0, .ref 530)]) (st' := [.long (Int64.ofNat 504363246962), .long nm546]) rfl ?_
                          refine T_lc_eq xr_141_212 xr_141_213 (t := 249) (pc' := 216) rfl rfl (fun c570 => ?_) (fun c570 => ?_)
                          · skip
                            have c570 : nm546 = (Int64.ofNat 504363246962) := c570
                            refine T_p xr_141_249 xn_141 (pc' := 250) (ls' := [(1, .int (iI (X_sg tb len at_))), (0, .ref 530)]) (st' := [.int (iI 1)]) rfl ?_
                            refine T_p xr_141_250 xn_141 (pc' := 254) (ls' := [(1, .int (iI (X_sg tb len at_))), (0, .ref 530)]) (st' := [.int (iI 1)]) rfl ?_
                            refine T_ie (y := iI (bI (X_res nm546))) (by rw [bI_t (by unfold X_res; first | (left; assumption) | (left; exact Classical.not_not.mp (by assumption)) | (right; left; assumption) | (right; left; exact Classical.not_not.mp (by assumption)) | (right; right; left; assumption) | (right; right; left; exact Classical.not_not.mp (by assumption)) | (right; right; right; left; assumption) | (right; right; right; left; exact Classical.not_not.mp (by assumption)) | (right; right; right; right; left; assumption) | (right; right; right; right; left; exact Classical.not_not.mp (by assumption)) | (right; right; right; right; right; left; assumption) | (right; right; right; right; right; left; exact Classical.not_not.mp (by assumption)) | (right; right; right; right; right; right; assumption) | (right; right; right; right; right; right; exact Classical.not_not.mp (by assumption)))]) ?_
                            exact J552
                          · skip
                            have c570 : ¬ (nm546 = (Int64.ofNat 504363246962)) := c570
                            refine T_p xr_141_216 xn_141 (pc' := 217) (ls' := [(1, .int (iI (X_sg tb len at_))), (0, .ref 530)]) (st' := [.ref 530]) rfl ?_
                            refine T_get xr_141_217 h551 rfl (v := .long nm546) rfl (pc' := 220) rfl ?_
                            refine T_p xr_141_220 xn_141 (pc' := 223) (ls' := [(1, .int (iI (X_sg tb len at_))), (0, .ref 530)]) (st' := [.long (Int64.ofNat 2003792484), .long nm546]) rfl ?_
                            refine T_lc_eq xr_141_223 xr_141_224 (t := 249) (pc' := 227) rfl rfl (fun c571 => ?_) (fun c571 => ?_)
                            · skip
                              have c571 : nm546 = (Int64.ofNat 2003792484) := c571
                              refine T_p xr_141_249 xn_141 (pc' := 250) (ls' := [(1, .int (iI (X_sg tb len at_))), (0, .ref 530)]) (st' := [.int (iI 1)]) rfl ?_
                              refine T_p xr_141_250 xn_141 (pc' := 254) (ls' := [(1, .int (iI (X_sg tb len at_))), (0, .ref 530)]) (st' := [.int (iI 1)]) rfl ?_
                              refine T_ie (y := iI (bI (X_res nm546))) (by rw [bI_t (by unfold X_res; first | (left; assumption) | (left; exact Classical.not_not.mp (by assumption)) | (right; left; assumption) | (right; left; exact Classical.not_not.mp (by assumption)) | (right; right; left; assumption) | (right; right; left; exact Classical.not_not.mp (by assumption)) | (right; right; right; left; assumption) | (right; right; right; left; exact Classical.not_not.mp (by assumption)) | (right; right; right; right; left; assumption) | (right; right; right; right; left; exact Classical.not_not.mp (by assumption)) | (right; right; right; right; right; left; assumption) | (right; right; right; right; right; left; exact Classical.not_not.mp (by assumption)) | (right; right; right; right; right; right; assumption) | (right; right; right; right; right; right; exact Classical.not_not.mp (by assumption)))]) ?_
                              exact J552
                            · skip
                              have c571 : ¬ (nm546 = (Int64.ofNat 2003792484)) := c571
                              refine T_p xr_141_227 xn_141 (pc' := 228) (ls' := [(1, .int (iI (X_sg tb len at_))), (0, .ref 530)]) (st' := [.ref 530]) rfl ?_
                              refine T_get xr_141_228 h551 rfl (v := .long nm546) rfl (pc' := 231) rfl ?_
                              refine T_p xr_141_231 xn_141 (pc' := 234) (ls' := [(1, .int (iI (X_sg tb len at_))), (0, .ref 530)]) (st' := [.long (Int64.ofNat 1818584692), .long nm546]) rfl ?_
                              refine T_lc_eq xr_141_234 xr_141_235 (t := 249) (pc' := 238) rfl rfl (fun c572 => ?_) (fun c572 => ?_)
                              · skip
                                have c572 : nm546 = (Int64.ofNat 1818584692) := c572
                                refine T_p xr_141_249 xn_141 (pc' := 250) (ls' := [(1, .int (iI (X_sg tb len at_))), (0, .ref 530)]) (st' := [.int (iI 1)]) rfl ?_
                                refine T_p xr_141_250 xn_141 (pc' := 254) (ls' := [(1, .int (iI (X_sg tb len at_))), (0, .ref 530)]) (st' := [.int (iI 1)]) rfl ?_
                                refine T_ie (y := iI (bI (X_res nm546))) (by rw [bI_t (by unfold X_res; first | (left; assumption) | (left; exact Classical.not_not.mp (by assumption)) | (right; left; assumption) | (right; left; exact Classical.not_not.mp (by assumption)) | (right; right; left; assumption) | (right; right; left; exact Classical.not_not.mp (by assumption)) | (right; right; right; left; assumption) | (right; right; right; left; exact Classical.not_not.mp (by assumption)) | (right; right; right; right; left; assumption) | (right; right; right; right; left; exact Classical.not_not.mp (by assumption)) | (right; right; right; right; right; left; assumption) | (right; right; right; right; right; left; exact Classical.not_not.mp (by assumption)) | (right; right; right; right; right; right; assumption) | (right; right; right; right; right; right; exact Classical.not_not.mp (by assumption)))]) ?_
                                exact J552
                              · skip
                                have c572 : ¬ (nm546 = (Int64.ofNat 1818584692)) := c572
                                refine T_p xr_141_238 xn_141 (pc' := 239) (ls' := [(1, .int (iI (X_sg tb len at_))), (0, .ref 530)]) (st' := [.ref 530]) rfl ?_
                                refine T_get xr_141_239 h551 rfl (v := .long nm546) rfl (pc' := 242) rfl ?_
                                refine T_p xr_141_242 xn_141 (pc' := 245) (ls' := [(1, .int (iI (X_sg tb len at_))), (0, .ref 530)]) (st' := [.long (Int64.ofNat 491394656372), .long nm546]) rfl ?_
                                refine T_lc_ne xr_141_245 xr_141_246 (t := 253) (pc' := 249) rfl rfl (fun c573 => ?_) (fun c573 => ?_)
                                · skip
                                  have c573 : ¬ nm546 = (Int64.ofNat 491394656372) := c573
                                  refine T_p xr_141_253 xn_141 (pc' := 254) (ls' := [(1, .int (iI (X_sg tb len at_))), (0, .ref 530)]) (st' := [.int (iI 0)]) rfl ?_
                                  refine T_ie (y := iI (bI (X_res nm546))) (by rw [bI_f (by unfold X_res; rintro (h | h | h | h | h | h | h) <;> contradiction)]) ?_
                                  exact J552
                                · skip
                                  have c573 : ¬ (¬ nm546 = (Int64.ofNat 491394656372)) := c573
                                  refine T_p xr_141_249 xn_141 (pc' := 250) (ls' := [(1, .int (iI (X_sg tb len at_))), (0, .ref 530)]) (st' := [.int (iI 1)]) rfl ?_
                                  refine T_p xr_141_250 xn_141 (pc' := 254) (ls' := [(1, .int (iI (X_sg tb len at_))), (0, .ref 530)]) (st' := [.int (iI 1)]) rfl ?_
                                  refine T_ie (y := iI (bI (X_res nm546))) (by rw [bI_t (by unfold X_res; first | (left; assumption) | (left; exact Classical.not_not.mp (by assumption)) | (right; left; assumption) | (right; left; exact Classical.not_not.mp (by assumption)) | (right; right; left; assumption) | (right; right; left; exact Classical.not_not.mp (by assumption)) | (right; right; right; left; assumption) | (right; right; right; left; exact Classical.not_not.mp (by assumption)) | (right; right; right; right; left; assumption) | (right; right; right; right; left; exact Classical.not_not.mp (by assumption)) | (right; right; right; right; right; left; assumption) | (right; right; right; right; right; left; exact Classical.not_not.mp (by assumption)) | (right; right; right; right; right; right; assumption) | (right; right; right; right; right; right; exact Classical.not_not.mp (by assumption)))]) ?_
                                  exact J552
                  · skip
                    have c542 : (X_isD (X_sg tb len en)) := c542
                    have hlt : en < len := by first | exact (X_sg_L.mp (by assumption)).1 | exact (X_sg_D.mp (by assumption)).1
                    refine T_p xr_141_147 xn_141 (pc' := 148) (ls' := [(1, .int (iI (X_sg tb len at_))), (0, .ref 530)]) (st' := [.ref 530]) rfl ?_
                    refine T_p xr_141_148 xn_141 (pc' := 149) (ls' := [(1, .int (iI (X_sg tb len at_))), (0, .ref 530)]) (st' := [.ref 530, .ref 530]) rfl ?_
                    refine T_get xr_141_149 hM1 rfl (v := .int (iI en)) rfl (pc' := 152) rfl ?_
                    refine T_p xr_141_152 xn_141 (pc' := 153) (ls' := [(1, .int (iI (X_sg tb len at_))), (0, .ref 530)]) (st' := [.int (iI 1), .int (iI en), .ref 530]) rfl ?_
                    refine T_ziadd xr_141_153 (z := en + 1) rfl (pc' := 154) rfl ?_
                    refine T_put xr_141_154 hM1 rfl (Nat.le_of_ble_eq_true rfl) rfl (fs' := [.ref 531, .int (iI (o 1)), .ref 532, .int (iI (o 3)), .int (iI (o 4)), .int (iI (o 5)), .int (iI (o 6)), .int (iI at_), .int (iI (en + 1)), .int (iI (o 9)), .int (iI (o 10)), .int (iI (o 11)), .long nm, .ref 533, .ref 534, .ref 535, .ref 536, .ref 537, .ref 538, .ref 539, .ref 540, .ref 541, .ref 542, .ref 543, .ref 544, .ref 545, .ref 546, .ref 547, .int (iI (o 28)), .int (iI (o 29)), .int (iI (o 30)), .int (iI (o 31)), .int (iI (o 32)), .int (iI (o 33)), .ref 548, .ref 549, .ref 550, .ref 551, .int (iI (o 38)), .ref 552, .ref 553, .ref 554, .ref 555, .ref 556, .ref 557, .ref 558, .ref 559, .ref 560, .ref 561, .int (iI (o 49)), .ref 562, .ref 563, .ref 564, .ref 565, .ref 566, .ref 567, .ref 568, .ref 569, .int (iI (o 58)), .ref 570, .ref 571, .ref 572, .ref 573, .ref 574, .ref 575, .ref 576, .ref 577, .ref 578, .int (iI (o 68)), .int (iI (o 69)), .int (iI (o 70)), .ref 579]) rfl (pc' := 157) rfl (fun S574 h575 n576 e577 => ?_)
                    refine T_p xr_141_157 xn_141 (pc' := 119) (ls' := [(1, .int (iI (X_sg tb len at_))), (0, .ref 530)]) (st' := []) rfl ?_
                    exact ih507 S574 (en + 1) h575 (hF510.tr ((X_Fr.rf).tr (X_Fr.of n576 e577 (by omega)))) (by omega) ((X_se_go (by omega) (by first | exact Or.inl (X_sg_L.mp (by assumption)).2 | exact Or.inr (X_sg_D.mp (by assumption)).2)).symm.trans hse) (by omega)
            exact L506 (len + 1).toNat S297 (at_ + 1) h298 ((X_Fr.rf)) (by omega) rfl (by omega)
        · skip
          have c301 : ¬ (at_ < (o 3)) := c301
          refine T_p xr_141_88 xn_141 (pc' := 89) (ls' := [(1, .int (iI (X_sg tb len at_))), (0, .ref 530)]) (st' := [.ref 530]) rfl ?_
          refine T_p xr_141_89 xn_141 (pc' := 90) (ls' := [(1, .int (iI (X_sg tb len at_))), (0, .ref 530)]) (st' := [.int (iI 0), .ref 530]) rfl ?_
          refine T_put xr_141_90 h298 rfl (Nat.le_of_ble_eq_true rfl) rfl (fs' := [.ref 531, .int (iI (o 1)), .ref 532, .int (iI (o 3)), .int (iI (o 4)), .int (iI (o 5)), .int (iI (o 6)), .int (iI at_), .int (iI (at_ + 1)), .int (iI 0), .int (iI (o 10)), .int (iI (o 11)), .long nm, .ref 533, .ref 534, .ref 535, .ref 536, .ref 537, .ref 538, .ref 539, .ref 540, .ref 541, .ref 542, .ref 543, .ref 544, .ref 545, .ref 546, .ref 547, .int (iI (o 28)), .int (iI (o 29)), .int (iI (o 30)), .int (iI (o 31)), .int (iI (o 32)), .int (iI (o 33)), .ref 548, .ref 549, .ref 550, .ref 551, .int (iI (o 38)), .ref 552, .ref 553, .ref 554, .ref 555, .ref 556, .ref 557, .ref 558, .ref 559, .ref 560, .ref 561, .int (iI (o 49)), .ref 562, .ref 563, .ref 564, .ref 565, .ref 566, .ref 567, .ref 568, .ref 569, .int (iI (o 58)), .ref 570, .ref 571, .ref 572, .ref 573, .ref 574, .ref 575, .ref 576, .ref 577, .ref 578, .int (iI (o 68)), .int (iI (o 69)), .int (iI (o 70)), .ref 579]) rfl (pc' := 93) rfl (fun S578 h579 n580 e581 => ?_)
          refine T_p xr_141_93 xn_141 (pc' := 94) (ls' := [(1, .int (iI (X_sg tb len at_))), (0, .ref 530)]) (st' := [.ref 530]) rfl ?_
          refine T_p xr_141_94 xn_141 (pc' := 95) (ls' := [(1, .int (iI (X_sg tb len at_))), (0, .ref 530)]) (st' := [.ref 530, .ref 530]) rfl ?_
          refine T_get xr_141_95 h579 rfl (v := .int (iI (o 3))) rfl (pc' := 98) rfl ?_
          refine T_put xr_141_98 h579 rfl (Nat.le_of_ble_eq_true rfl) rfl (fs' := [.ref 531, .int (iI (o 1)), .ref 532, .int (iI (o 3)), .int (iI (o 4)), .int (iI (o 5)), .int (iI (o 6)), .int (iI (o 3)), .int (iI (at_ + 1)), .int (iI 0), .int (iI (o 10)), .int (iI (o 11)), .long nm, .ref 533, .ref 534, .ref 535, .ref 536, .ref 537, .ref 538, .ref 539, .ref 540, .ref 541, .ref 542, .ref 543, .ref 544, .ref 545, .ref 546, .ref 547, .int (iI (o 28)), .int (iI (o 29)), .int (iI (o 30)), .int (iI (o 31)), .int (iI (o 32)), .int (iI (o 33)), .ref 548, .ref 549, .ref 550, .ref 551, .int (iI (o 38)), .ref 552, .ref 553, .ref 554, .ref 555, .ref 556, .ref 557, .ref 558, .ref 559, .ref 560, .ref 561, .int (iI (o 49)), .ref 562, .ref 563, .ref 564, .ref 565, .ref 566, .ref 567, .ref 568, .ref 569, .int (iI (o 58)), .ref 570, .ref 571, .ref 572, .ref 573, .ref 574, .ref 575, .ref 576, .ref 577, .ref 578, .int (iI (o 68)), .int (iI (o 69)), .int (iI (o 70)), .ref 579]) rfl (pc' := 101) rfl (fun S582 h583 n584 e585 => ?_)
          refine T_p xr_141_101 xn_141 (pc' := 102) (ls' := [(1, .int (iI (X_sg tb len at_))), (0, .ref 530)]) (st' := [.ref 530]) rfl ?_
          refine T_p xr_141_102 xn_141 (pc' := 103) (ls' := [(1, .int (iI (X_sg tb len at_))), (0, .ref 530)]) (st' := [.ref 530, .ref 530]) rfl ?_
          refine T_get xr_141_103 h583 rfl (v := .int (iI (o 3))) rfl (pc' := 106) rfl ?_
          refine T_put xr_141_106 h583 rfl (Nat.le_of_ble_eq_true rfl) rfl (fs' := [.ref 531, .int (iI (o 1)), .ref 532, .int (iI (o 3)), .int (iI (o 4)), .int (iI (o 5)), .int (iI (o 6)), .int (iI (o 3)), .int (iI (o 3)), .int (iI 0), .int (iI (o 10)), .int (iI (o 11)), .long nm, .ref 533, .ref 534, .ref 535, .ref 536, .ref 537, .ref 538, .ref 539, .ref 540, .ref 541, .ref 542, .ref 543, .ref 544, .ref 545, .ref 546, .ref 547, .int (iI (o 28)), .int (iI (o 29)), .int (iI (o 30)), .int (iI (o 31)), .int (iI (o 32)), .int (iI (o 33)), .ref 548, .ref 549, .ref 550, .ref 551, .int (iI (o 38)), .ref 552, .ref 553, .ref 554, .ref 555, .ref 556, .ref 557, .ref 558, .ref 559, .ref 560, .ref 561, .int (iI (o 49)), .ref 562, .ref 563, .ref 564, .ref 565, .ref 566, .ref 567, .ref 568, .ref 569, .int (iI (o 58)), .ref 570, .ref 571, .ref 572, .ref 573, .ref 574, .ref 575, .ref 576, .ref 577, .ref 578, .int (iI (o 68)), .int (iI (o 69)), .int (iI (o 70)), .ref 579]) rfl (pc' := 109) rfl (fun S586 h587 n588 e589 => ?_)
          refine T_p xr_141_109 xn_141 (pc' := 551) (ls' := [(1, .int (iI (X_sg tb len at_))), (0, .ref 530)]) (st' := []) rfl ?_
          refine T_vret xr_141_551 xf_141.2.2 ?_
          refine hQ _ _ ?_
          exact ⟨o 3, o 3, 0, o 10, o 11, nm, 0, 0, len, rfl, (by omega), (Or.inl ⟨X_at_out (by omega), rfl, rfl, by omega⟩), rfl, (fun _ => by omega), fun h => absurd h (by omega), fun h => absurd h (by omega), by first | assumption | omega, h587, ((((((X_Fr.rf).tr (X_Fr.of n280 e281 (by omega))).tr (X_Fr.mono ⟨hF286.1, hF286.2⟩ (fun q hq => (by omega)))).tr (X_Fr.of n299 e300 (by omega))).tr (X_Fr.of n580 e581 (by omega))).tr (X_Fr.of n584 e585 (by omega))).tr (X_Fr.of n588 e589 (by omega))⟩
      · skip
        have c288 : ¬ ((o 3) ≤ at_) := c288
        refine T_p xr_141_19 xn_141 (pc' := 20) (ls' := [(0, .ref 530)]) (st' := [.ref 530]) rfl ?_
        refine T_p xr_141_20 xn_141 (pc' := 21) (ls' := [(0, .ref 530)]) (st' := [.ref 530, .ref 530]) rfl ?_
        refine T_get xr_141_21 hM1 rfl (v := .int (iI at_)) rfl (pc' := 24) rfl ?_
        refine T_cv (S := S287) (q := 530) xr_141_24 xf_136.1 xf_136.2.1 xn_136 (as := [.int (iI at_)]) (r := []) rfl hM1 (Nat.le_of_ble_eq_true rfl) (Nat.le_of_ble_eq_true rfl) (pc' := 27) rfl (ls' := [(0, .ref 530), (1, .int (iI at_))]) rfl ?_
        have h590 := (hF286.1 532 (by omega)).trans ((n280 532 (by decide)).trans (hA532))
        refine T_mono (r_sign sc S287 (X_ou o 7 at_) nm tx tb len at_ hM1 h590 (show (o 3) = len from by first | assumption | omega) hl htx (by omega)) (fun v591 S592 h593 => ?_)
        rcases h593 with ⟨hv594, hf595⟩
        rw [hv594]
        rw [hf595]
        have hg596 := X_sg_r (tb := tb) (len := len) (k := at_) (by omega)
        have hg597 := X_sg_c (tb := tb) (len := len) (k := at_)
        show X_T sc 141 (27, [(0, .ref 530)], [.int (iI (X_sg tb len at_))], S287) _
        refine T_p xr_141_27 xn_141 (pc' := 29) (ls' := [(0, .ref 530)]) (st' := [.int (iI 32), .int (iI (X_sg tb len at_))]) rfl ?_
        refine T_zicmp_eq xr_141_29 (t := 45) (pc' := 32) rfl rfl (fun c598 => ?_) (fun c598 => ?_)
        · skip
          have c598 : (X_sg tb len at_) = 32 := c598
          refine T_p xr_141_45 xn_141 (pc' := 46) (ls' := [(0, .ref 530)]) (st' := [.ref 530]) rfl ?_
          refine T_p xr_141_46 xn_141 (pc' := 47) (ls' := [(0, .ref 530)]) (st' := [.ref 530, .ref 530]) rfl ?_
          refine T_get xr_141_47 hM1 rfl (v := .int (iI at_)) rfl (pc' := 50) rfl ?_
          refine T_p xr_141_50 xn_141 (pc' := 51) (ls' := [(0, .ref 530)]) (st' := [.int (iI 1), .int (iI at_), .ref 530]) rfl ?_
          refine T_ziadd xr_141_51 (z := at_ + 1) rfl (pc' := 52) rfl ?_
          refine T_put xr_141_52 hM1 rfl (Nat.le_of_ble_eq_true rfl) rfl (fs' := [.ref 531, .int (iI (o 1)), .ref 532, .int (iI (o 3)), .int (iI (o 4)), .int (iI (o 5)), .int (iI (o 6)), .int (iI (at_ + 1)), .int (iI (o 8)), .int (iI (o 9)), .int (iI (o 10)), .int (iI (o 11)), .long nm, .ref 533, .ref 534, .ref 535, .ref 536, .ref 537, .ref 538, .ref 539, .ref 540, .ref 541, .ref 542, .ref 543, .ref 544, .ref 545, .ref 546, .ref 547, .int (iI (o 28)), .int (iI (o 29)), .int (iI (o 30)), .int (iI (o 31)), .int (iI (o 32)), .int (iI (o 33)), .ref 548, .ref 549, .ref 550, .ref 551, .int (iI (o 38)), .ref 552, .ref 553, .ref 554, .ref 555, .ref 556, .ref 557, .ref 558, .ref 559, .ref 560, .ref 561, .int (iI (o 49)), .ref 562, .ref 563, .ref 564, .ref 565, .ref 566, .ref 567, .ref 568, .ref 569, .int (iI (o 58)), .ref 570, .ref 571, .ref 572, .ref 573, .ref 574, .ref 575, .ref 576, .ref 577, .ref 578, .int (iI (o 68)), .int (iI (o 69)), .int (iI (o 70)), .ref 579]) rfl (pc' := 55) rfl (fun S599 h600 n601 e602 => ?_)
          refine T_p xr_141_55 xn_141 (pc' := 8) (ls' := [(0, .ref 530)]) (st' := []) rfl ?_
          exact ih283 S599 (at_ + 1) h600 (hF286.tr ((X_Fr.rf).tr (X_Fr.of n601 e602 (by omega)))) (by omega) ((X_se_go (by omega) (by unfold X_isBl; omega)).symm.trans hse0) (by omega)
        · skip
          have c598 : ¬ ((X_sg tb len at_) = 32) := c598
          refine T_p xr_141_32 xn_141 (pc' := 33) (ls' := [(0, .ref 530)]) (st' := [.ref 530]) rfl ?_
          refine T_p xr_141_33 xn_141 (pc' := 34) (ls' := [(0, .ref 530)]) (st' := [.ref 530, .ref 530]) rfl ?_
          refine T_get xr_141_34 hM1 rfl (v := .int (iI at_)) rfl (pc' := 37) rfl ?_
          refine T_cv (S := S287) (q := 530) xr_141_37 xf_136.1 xf_136.2.1 xn_136 (as := [.int (iI at_)]) (r := []) rfl hM1 (Nat.le_of_ble_eq_true rfl) (Nat.le_of_ble_eq_true rfl) (pc' := 40) rfl (ls' := [(0, .ref 530), (1, .int (iI at_))]) rfl ?_
          refine T_mono (r_sign sc S287 (X_ou o 7 at_) nm tx tb len at_ hM1 h590 (show (o 3) = len from by first | assumption | omega) hl htx (by omega)) (fun v603 S604 h605 => ?_)
          rcases h605 with ⟨hv606, hf607⟩
          rw [hv606]
          rw [hf607]
          have hg608 := X_sg_r (tb := tb) (len := len) (k := at_) (by omega)
          have hg609 := X_sg_c (tb := tb) (len := len) (k := at_)
          show X_T sc 141 (40, [(0, .ref 530)], [.int (iI (X_sg tb len at_))], S287) _
          refine T_p xr_141_40 xn_141 (pc' := 42) (ls' := [(0, .ref 530)]) (st' := [.int (iI 10), .int (iI (X_sg tb len at_))]) rfl ?_
          refine T_zicmp_ne xr_141_42 (t := 58) (pc' := 45) rfl rfl (fun c610 => ?_) (fun c610 => ?_)
          · skip
            have c610 : ¬ (X_sg tb len at_) = 10 := c610
            have hp : at_ = X_se X_isBl tb len (o 8) := (X_se_no (by first | (intro h; omega) | (rintro ⟨h1, h2⟩; unfold X_isBl at h2; omega))).symm.trans hse0
            refine T_p xr_141_58 xn_141 (pc' := 59) (ls' := [(0, .ref 530)]) (st' := [.ref 530]) rfl ?_
            refine T_p xr_141_59 xn_141 (pc' := 60) (ls' := [(0, .ref 530)]) (st' := [.ref 530, .ref 530]) rfl ?_
            refine T_get xr_141_60 hM1 rfl (v := .int (iI at_)) rfl (pc' := 63) rfl ?_
            refine T_cv (S := S287) (q := 530) xr_141_63 xf_136.1 xf_136.2.1 xn_136 (as := [.int (iI at_)]) (r := []) rfl hM1 (Nat.le_of_ble_eq_true rfl) (Nat.le_of_ble_eq_true rfl) (pc' := 66) rfl (ls' := [(0, .ref 530), (1, .int (iI at_))]) rfl ?_
            refine T_mono (r_sign sc S287 (X_ou o 7 at_) nm tx tb len at_ hM1 h590 (show (o 3) = len from by first | assumption | omega) hl htx (by omega)) (fun v611 S612 h613 => ?_)
            rcases h613 with ⟨hv614, hf615⟩
            rw [hv614]
            rw [hf615]
            have hg616 := X_sg_r (tb := tb) (len := len) (k := at_) (by omega)
            have hg617 := X_sg_c (tb := tb) (len := len) (k := at_)
            show X_T sc 141 (66, [(0, .ref 530)], [.int (iI (X_sg tb len at_))], S287) _
            refine T_p xr_141_66 xn_141 (pc' := 67) (ls' := [(1, .int (iI (X_sg tb len at_))), (0, .ref 530)]) (st' := []) rfl ?_
            refine T_p xr_141_67 xn_141 (pc' := 68) (ls' := [(1, .int (iI (X_sg tb len at_))), (0, .ref 530)]) (st' := [.ref 530]) rfl ?_
            refine T_p xr_141_68 xn_141 (pc' := 69) (ls' := [(1, .int (iI (X_sg tb len at_))), (0, .ref 530)]) (st' := [.ref 530, .ref 530]) rfl ?_
            refine T_get xr_141_69 hM1 rfl (v := .int (iI at_)) rfl (pc' := 72) rfl ?_
            refine T_p xr_141_72 xn_141 (pc' := 73) (ls' := [(1, .int (iI (X_sg tb len at_))), (0, .ref 530)]) (st' := [.int (iI 1), .int (iI at_), .ref 530]) rfl ?_
            refine T_ziadd xr_141_73 (z := at_ + 1) rfl (pc' := 74) rfl ?_
            refine T_put xr_141_74 hM1 rfl (Nat.le_of_ble_eq_true rfl) rfl (fs' := [.ref 531, .int (iI (o 1)), .ref 532, .int (iI (o 3)), .int (iI (o 4)), .int (iI (o 5)), .int (iI (o 6)), .int (iI at_), .int (iI (at_ + 1)), .int (iI (o 9)), .int (iI (o 10)), .int (iI (o 11)), .long nm, .ref 533, .ref 534, .ref 535, .ref 536, .ref 537, .ref 538, .ref 539, .ref 540, .ref 541, .ref 542, .ref 543, .ref 544, .ref 545, .ref 546, .ref 547, .int (iI (o 28)), .int (iI (o 29)), .int (iI (o 30)), .int (iI (o 31)), .int (iI (o 32)), .int (iI (o 33)), .ref 548, .ref 549, .ref 550, .ref 551, .int (iI (o 38)), .ref 552, .ref 553, .ref 554, .ref 555, .ref 556, .ref 557, .ref 558, .ref 559, .ref 560, .ref 561, .int (iI (o 49)), .ref 562, .ref 563, .ref 564, .ref 565, .ref 566, .ref 567, .ref 568, .ref 569, .int (iI (o 58)), .ref 570, .ref 571, .ref 572, .ref 573, .ref 574, .ref 575, .ref 576, .ref 577, .ref 578, .int (iI (o 68)), .int (iI (o 69)), .int (iI (o 70)), .ref 579]) rfl (pc' := 77) rfl (fun S618 h619 n620 e621 => ?_)
            refine T_p xr_141_77 xn_141 (pc' := 78) (ls' := [(1, .int (iI (X_sg tb len at_))), (0, .ref 530)]) (st' := [.ref 530]) rfl ?_
            refine T_get xr_141_78 h619 rfl (v := .int (iI at_)) rfl (pc' := 81) rfl ?_
            refine T_p xr_141_81 xn_141 (pc' := 82) (ls' := [(1, .int (iI (X_sg tb len at_))), (0, .ref 530)]) (st' := [.ref 530, .int (iI at_)]) rfl ?_
            refine T_get xr_141_82 h619 rfl (v := .int (iI (o 3))) rfl (pc' := 85) rfl ?_
            refine T_zicmp_lt xr_141_85 (t := 112) (pc' := 88) rfl rfl (fun c622 => ?_) (fun c622 => ?_)
            · skip
              have c622 : at_ < (o 3) := c622
              refine T_p xr_141_112 xn_141 (pc' := 113) (ls' := [(1, .int (iI (X_sg tb len at_))), (0, .ref 530)]) (st' := [.int (iI (X_sg tb len at_))]) rfl ?_
              refine T_cs xr_141_113 (by decide) xf_137.1 xn_137 (as := [.int (iI (X_sg tb len at_))]) (r := []) rfl (Nat.le_of_ble_eq_true rfl) (Nat.le_of_ble_eq_true rfl) (pc' := 116) rfl (ls' := [(0, .int (iI (X_sg tb len at_)))]) rfl ?_
              refine T_mono (r_isLetter sc S618 (X_sg tb len at_) (by omega)) (fun v623 S624 h625 => ?_)
              rcases h625 with ⟨hv626, hf627⟩
              rw [hv626]
              rw [hf627]
              show X_T sc 141 (116, [(1, .int (iI (X_sg tb len at_))), (0, .ref 530)], [.int (iI (bI (X_isL (X_sg tb len at_))))], S618) _
              refine T_bif_eq xr_141_116 (t := 289) (pc' := 119) rfl rfl (fun c628 => ?_) (fun c628 => ?_)
              · skip
                have c628 : ¬ (X_isL (X_sg tb len at_)) := c628
                refine T_p xr_141_289 xn_141 (pc' := 290) (ls' := [(1, .int (iI (X_sg tb len at_))), (0, .ref 530)]) (st' := [.int (iI (X_sg tb len at_))]) rfl ?_
                refine T_cs xr_141_290 (by decide) xf_138.1 xn_138 (as := [.int (iI (X_sg tb len at_))]) (r := []) rfl (Nat.le_of_ble_eq_true rfl) (Nat.le_of_ble_eq_true rfl) (pc' := 293) rfl (ls' := [(0, .int (iI (X_sg tb len at_)))]) rfl ?_
                refine T_mono (r_isDigit sc S618 (X_sg tb len at_) (by omega)) (fun v629 S630 h631 => ?_)
                rcases h631 with ⟨hv632, hf633⟩
                rw [hv632]
                rw [hf633]
                show X_T sc 141 (293, [(1, .int (iI (X_sg tb len at_))), (0, .ref 530)], [.int (iI (bI (X_isD (X_sg tb len at_))))], S618) _
                refine T_bif_eq xr_141_293 (t := 421) (pc' := 296) rfl rfl (fun c634 => ?_) (fun c634 => ?_)
                · skip
                  have c634 : ¬ (X_isD (X_sg tb len at_)) := c634
                  refine T_p xr_141_421 xn_141 (pc' := 422) (ls' := [(1, .int (iI (X_sg tb len at_))), (0, .ref 530)]) (st' := [.int (iI (X_sg tb len at_))]) rfl ?_
                  refine T_p xr_141_422 xn_141 (pc' := 424) (ls' := [(1, .int (iI (X_sg tb len at_))), (0, .ref 530)]) (st' := [.int (iI 34), .int (iI (X_sg tb len at_))]) rfl ?_
                  refine T_zicmp_ne xr_141_424 (t := 434) (pc' := 427) rfl rfl (fun c635 => ?_) (fun c635 => ?_)
                  · skip
                    have c635 : ¬ (X_sg tb len at_) = 34 := c635
                    refine T_p xr_141_434 xn_141 (pc' := 435) (ls' := [(1, .int (iI (X_sg tb len at_))), (0, .ref 530)]) (st' := [.int (iI (X_sg tb len at_))]) rfl ?_
                    refine T_p xr_141_435 xn_141 (pc' := 437) (ls' := [(1, .int (iI (X_sg tb len at_))), (0, .ref 530)]) (st' := [.int (iI 95), .int (iI (X_sg tb len at_))]) rfl ?_
                    refine T_zicmp_ne xr_141_437 (t := 481) (pc' := 440) rfl rfl (fun c636 => ?_) (fun c636 => ?_)
                    · skip
                      have c636 : ¬ (X_sg tb len at_) = 95 := c636
                      refine T_p xr_141_481 xn_141 (pc' := 482) (ls' := [(1, .int (iI (X_sg tb len at_))), (0, .ref 530)]) (st' := [.ref 530]) rfl ?_
                      refine T_p xr_141_482 xn_141 (pc' := 483) (ls' := [(1, .int (iI (X_sg tb len at_))), (0, .ref 530)]) (st' := [.int (iI (X_sg tb len at_)), .ref 530]) rfl ?_
                      refine T_p xr_141_483 xn_141 (pc' := 485) (ls' := [(1, .int (iI (X_sg tb len at_))), (0, .ref 530)]) (st' := [.int (iI 59), .int (iI (X_sg tb len at_)), .ref 530]) rfl ?_
                      refine T_zicmp_eq xr_141_485 (t := 542) (pc' := 488) rfl rfl (fun c637 => ?_) (fun c637 => ?_)
                      · skip
                        have c637 : (X_sg tb len at_) = 59 := c637
                        refine T_p xr_141_542 xn_141 (pc' := 544) (ls' := [(1, .int (iI (X_sg tb len at_))), (0, .ref 530)]) (st' := [.int (iI 6), .ref 530]) rfl ?_
                        refine T_p xr_141_544 xn_141 (pc' := 548) (ls' := [(1, .int (iI (X_sg tb len at_))), (0, .ref 530)]) (st' := [.int (iI 6), .ref 530]) rfl ?_
                        refine T_put xr_141_548 h619 rfl (Nat.le_of_ble_eq_true rfl) rfl (fs' := [.ref 531, .int (iI (o 1)), .ref 532, .int (iI (o 3)), .int (iI (o 4)), .int (iI (o 5)), .int (iI (o 6)), .int (iI at_), .int (iI (at_ + 1)), .int (iI 6), .int (iI (o 10)), .int (iI (o 11)), .long nm, .ref 533, .ref 534, .ref 535, .ref 536, .ref 537, .ref 538, .ref 539, .ref 540, .ref 541, .ref 542, .ref 543, .ref 544, .ref 545, .ref 546, .ref 547, .int (iI (o 28)), .int (iI (o 29)), .int (iI (o 30)), .int (iI (o 31)), .int (iI (o 32)), .int (iI (o 33)), .ref 548, .ref 549, .ref 550, .ref 551, .int (iI (o 38)), .ref 552, .ref 553, .ref 554, .ref 555, .ref 556, .ref 557, .ref 558, .ref 559, .ref 560, .ref 561, .int (iI (o 49)), .ref 562, .ref 563, .ref 564, .ref 565, .ref 566, .ref 567, .ref 568, .ref 569, .int (iI (o 58)), .ref 570, .ref 571, .ref 572, .ref 573, .ref 574, .ref 575, .ref 576, .ref 577, .ref 578, .int (iI (o 68)), .int (iI (o 69)), .int (iI (o 70)), .ref 579]) rfl (pc' := 551) rfl (fun S638 h639 n640 e641 => ?_)
                        refine T_vret xr_141_551 xf_141.2.2 ?_
                        refine hQ _ _ ?_
                        exact ⟨at_, at_ + 1, 6, o 10, o 11, nm, (X_at tb len at_), 0, at_ + 1, rfl, hp, (Or.inr (Or.inr (Or.inr (Or.inr ⟨fun h => absurd (X_sg_L.mpr ⟨by omega, h⟩) (by assumption), fun h => absurd (X_sg_D.mpr ⟨by omega, h⟩) (by assumption), by omega, by omega, rfl, rfl, Or.inl ⟨by unfold X_isSg; omega, by first | (intro h; omega) | (intro h; exact absurd h.2 (X_sg_n (by assumption) (by assumption))), rfl⟩⟩)))), (by rw [show X_at tb len at_ = X_sg tb len at_ by omega]; unfold X_rk; (repeat (first | rw [if_neg (by omega)] | rw [if_pos (by omega)]))), (fun _ => rfl), (fun h => absurd h (by omega)), (fun h => absurd h (by omega)), by first | assumption | omega, h639, ((((X_Fr.rf).tr (X_Fr.of n280 e281 (by omega))).tr (X_Fr.mono ⟨hF286.1, hF286.2⟩ (fun q hq => (by omega)))).tr (X_Fr.of n620 e621 (by omega))).tr (X_Fr.of n640 e641 (by omega))⟩
                      · skip
                        have c637 : ¬ ((X_sg tb len at_) = 59) := c637
                        refine T_p xr_141_488 xn_141 (pc' := 489) (ls' := [(1, .int (iI (X_sg tb len at_))), (0, .ref 530)]) (st' := [.int (iI (X_sg tb len at_)), .ref 530]) rfl ?_
                        refine T_p xr_141_489 xn_141 (pc' := 491) (ls' := [(1, .int (iI (X_sg tb len at_))), (0, .ref 530)]) (st' := [.int (iI 58), .int (iI (X_sg tb len at_)), .ref 530]) rfl ?_
                        refine T_zicmp_eq xr_141_491 (t := 542) (pc' := 494) rfl rfl (fun c642 => ?_) (fun c642 => ?_)
                        · skip
                          have c642 : (X_sg tb len at_) = 58 := c642
                          refine T_p xr_141_542 xn_141 (pc' := 544) (ls' := [(1, .int (iI (X_sg tb len at_))), (0, .ref 530)]) (st' := [.int (iI 6), .ref 530]) rfl ?_
                          refine T_p xr_141_544 xn_141 (pc' := 548) (ls' := [(1, .int (iI (X_sg tb len at_))), (0, .ref 530)]) (st' := [.int (iI 6), .ref 530]) rfl ?_
                          refine T_put xr_141_548 h619 rfl (Nat.le_of_ble_eq_true rfl) rfl (fs' := [.ref 531, .int (iI (o 1)), .ref 532, .int (iI (o 3)), .int (iI (o 4)), .int (iI (o 5)), .int (iI (o 6)), .int (iI at_), .int (iI (at_ + 1)), .int (iI 6), .int (iI (o 10)), .int (iI (o 11)), .long nm, .ref 533, .ref 534, .ref 535, .ref 536, .ref 537, .ref 538, .ref 539, .ref 540, .ref 541, .ref 542, .ref 543, .ref 544, .ref 545, .ref 546, .ref 547, .int (iI (o 28)), .int (iI (o 29)), .int (iI (o 30)), .int (iI (o 31)), .int (iI (o 32)), .int (iI (o 33)), .ref 548, .ref 549, .ref 550, .ref 551, .int (iI (o 38)), .ref 552, .ref 553, .ref 554, .ref 555, .ref 556, .ref 557, .ref 558, .ref 559, .ref 560, .ref 561, .int (iI (o 49)), .ref 562, .ref 563, .ref 564, .ref 565, .ref 566, .ref 567, .ref 568, .ref 569, .int (iI (o 58)), .ref 570, .ref 571, .ref 572, .ref 573, .ref 574, .ref 575, .ref 576, .ref 577, .ref 578, .int (iI (o 68)), .int (iI (o 69)), .int (iI (o 70)), .ref 579]) rfl (pc' := 551) rfl (fun S643 h644 n645 e646 => ?_)
                          refine T_vret xr_141_551 xf_141.2.2 ?_
                          refine hQ _ _ ?_
                          exact ⟨at_, at_ + 1, 6, o 10, o 11, nm, (X_at tb len at_), 0, at_ + 1, rfl, hp, (Or.inr (Or.inr (Or.inr (Or.inr ⟨fun h => absurd (X_sg_L.mpr ⟨by omega, h⟩) (by assumption), fun h => absurd (X_sg_D.mpr ⟨by omega, h⟩) (by assumption), by omega, by omega, rfl, rfl, Or.inl ⟨by unfold X_isSg; omega, by first | (intro h; omega) | (intro h; exact absurd h.2 (X_sg_n (by assumption) (by assumption))), rfl⟩⟩)))), (by rw [show X_at tb len at_ = X_sg tb len at_ by omega]; unfold X_rk; (repeat (first | rw [if_neg (by omega)] | rw [if_pos (by omega)]))), (fun _ => rfl), (fun h => absurd h (by omega)), (fun h => absurd h (by omega)), by first | assumption | omega, h644, ((((X_Fr.rf).tr (X_Fr.of n280 e281 (by omega))).tr (X_Fr.mono ⟨hF286.1, hF286.2⟩ (fun q hq => (by omega)))).tr (X_Fr.of n620 e621 (by omega))).tr (X_Fr.of n645 e646 (by omega))⟩
                        · skip
                          have c642 : ¬ ((X_sg tb len at_) = 58) := c642
                          refine T_p xr_141_494 xn_141 (pc' := 495) (ls' := [(1, .int (iI (X_sg tb len at_))), (0, .ref 530)]) (st' := [.int (iI (X_sg tb len at_)), .ref 530]) rfl ?_
                          refine T_p xr_141_495 xn_141 (pc' := 497) (ls' := [(1, .int (iI (X_sg tb len at_))), (0, .ref 530)]) (st' := [.int (iI 61), .int (iI (X_sg tb len at_)), .ref 530]) rfl ?_
                          refine T_zicmp_eq xr_141_497 (t := 542) (pc' := 500) rfl rfl (fun c647 => ?_) (fun c647 => ?_)
                          · skip
                            have c647 : (X_sg tb len at_) = 61 := c647
                            refine T_p xr_141_542 xn_141 (pc' := 544) (ls' := [(1, .int (iI (X_sg tb len at_))), (0, .ref 530)]) (st' := [.int (iI 6), .ref 530]) rfl ?_
                            refine T_p xr_141_544 xn_141 (pc' := 548) (ls' := [(1, .int (iI (X_sg tb len at_))), (0, .ref 530)]) (st' := [.int (iI 6), .ref 530]) rfl ?_
                            refine T_put xr_141_548 h619 rfl (Nat.le_of_ble_eq_true rfl) rfl (fs' := [.ref 531, .int (iI (o 1)), .ref 532, .int (iI (o 3)), .int (iI (o 4)), .int (iI (o 5)), .int (iI (o 6)), .int (iI at_), .int (iI (at_ + 1)), .int (iI 6), .int (iI (o 10)), .int (iI (o 11)), .long nm, .ref 533, .ref 534, .ref 535, .ref 536, .ref 537, .ref 538, .ref 539, .ref 540, .ref 541, .ref 542, .ref 543, .ref 544, .ref 545, .ref 546, .ref 547, .int (iI (o 28)), .int (iI (o 29)), .int (iI (o 30)), .int (iI (o 31)), .int (iI (o 32)), .int (iI (o 33)), .ref 548, .ref 549, .ref 550, .ref 551, .int (iI (o 38)), .ref 552, .ref 553, .ref 554, .ref 555, .ref 556, .ref 557, .ref 558, .ref 559, .ref 560, .ref 561, .int (iI (o 49)), .ref 562, .ref 563, .ref 564, .ref 565, .ref 566, .ref 567, .ref 568, .ref 569, .int (iI (o 58)), .ref 570, .ref 571, .ref 572, .ref 573, .ref 574, .ref 575, .ref 576, .ref 577, .ref 578, .int (iI (o 68)), .int (iI (o 69)), .int (iI (o 70)), .ref 579]) rfl (pc' := 551) rfl (fun S648 h649 n650 e651 => ?_)
                            refine T_vret xr_141_551 xf_141.2.2 ?_
                            refine hQ _ _ ?_
                            exact ⟨at_, at_ + 1, 6, o 10, o 11, nm, (X_at tb len at_), 0, at_ + 1, rfl, hp, (Or.inr (Or.inr (Or.inr (Or.inr ⟨fun h => absurd (X_sg_L.mpr ⟨by omega, h⟩) (by assumption), fun h => absurd (X_sg_D.mpr ⟨by omega, h⟩) (by assumption), by omega, by omega, rfl, rfl, Or.inl ⟨by unfold X_isSg; omega, by first | (intro h; omega) | (intro h; exact absurd h.2 (X_sg_n (by assumption) (by assumption))), rfl⟩⟩)))), (by rw [show X_at tb len at_ = X_sg tb len at_ by omega]; unfold X_rk; (repeat (first | rw [if_neg (by omega)] | rw [if_pos (by omega)]))), (fun _ => rfl), (fun h => absurd h (by omega)), (fun h => absurd h (by omega)), by first | assumption | omega, h649, ((((X_Fr.rf).tr (X_Fr.of n280 e281 (by omega))).tr (X_Fr.mono ⟨hF286.1, hF286.2⟩ (fun q hq => (by omega)))).tr (X_Fr.of n620 e621 (by omega))).tr (X_Fr.of n650 e651 (by omega))⟩
                          · skip
                            have c647 : ¬ ((X_sg tb len at_) = 61) := c647
                            refine T_p xr_141_500 xn_141 (pc' := 501) (ls' := [(1, .int (iI (X_sg tb len at_))), (0, .ref 530)]) (st' := [.int (iI (X_sg tb len at_)), .ref 530]) rfl ?_
                            refine T_p xr_141_501 xn_141 (pc' := 503) (ls' := [(1, .int (iI (X_sg tb len at_))), (0, .ref 530)]) (st' := [.int (iI 64), .int (iI (X_sg tb len at_)), .ref 530]) rfl ?_
                            refine T_zicmp_eq xr_141_503 (t := 542) (pc' := 506) rfl rfl (fun c652 => ?_) (fun c652 => ?_)
                            · skip
                              have c652 : (X_sg tb len at_) = 64 := c652
                              refine T_p xr_141_542 xn_141 (pc' := 544) (ls' := [(1, .int (iI (X_sg tb len at_))), (0, .ref 530)]) (st' := [.int (iI 6), .ref 530]) rfl ?_
                              refine T_p xr_141_544 xn_141 (pc' := 548) (ls' := [(1, .int (iI (X_sg tb len at_))), (0, .ref 530)]) (st' := [.int (iI 6), .ref 530]) rfl ?_
                              refine T_put xr_141_548 h619 rfl (Nat.le_of_ble_eq_true rfl) rfl (fs' := [.ref 531, .int (iI (o 1)), .ref 532, .int (iI (o 3)), .int (iI (o 4)), .int (iI (o 5)), .int (iI (o 6)), .int (iI at_), .int (iI (at_ + 1)), .int (iI 6), .int (iI (o 10)), .int (iI (o 11)), .long nm, .ref 533, .ref 534, .ref 535, .ref 536, .ref 537, .ref 538, .ref 539, .ref 540, .ref 541, .ref 542, .ref 543, .ref 544, .ref 545, .ref 546, .ref 547, .int (iI (o 28)), .int (iI (o 29)), .int (iI (o 30)), .int (iI (o 31)), .int (iI (o 32)), .int (iI (o 33)), .ref 548, .ref 549, .ref 550, .ref 551, .int (iI (o 38)), .ref 552, .ref 553, .ref 554, .ref 555, .ref 556, .ref 557, .ref 558, .ref 559, .ref 560, .ref 561, .int (iI (o 49)), .ref 562, .ref 563, .ref 564, .ref 565, .ref 566, .ref 567, .ref 568, .ref 569, .int (iI (o 58)), .ref 570, .ref 571, .ref 572, .ref 573, .ref 574, .ref 575, .ref 576, .ref 577, .ref 578, .int (iI (o 68)), .int (iI (o 69)), .int (iI (o 70)), .ref 579]) rfl (pc' := 551) rfl (fun S653 h654 n655 e656 => ?_)
                              refine T_vret xr_141_551 xf_141.2.2 ?_
                              refine hQ _ _ ?_
                              exact ⟨at_, at_ + 1, 6, o 10, o 11, nm, (X_at tb len at_), 0, at_ + 1, rfl, hp, (Or.inr (Or.inr (Or.inr (Or.inr ⟨fun h => absurd (X_sg_L.mpr ⟨by omega, h⟩) (by assumption), fun h => absurd (X_sg_D.mpr ⟨by omega, h⟩) (by assumption), by omega, by omega, rfl, rfl, Or.inl ⟨by unfold X_isSg; omega, by first | (intro h; omega) | (intro h; exact absurd h.2 (X_sg_n (by assumption) (by assumption))), rfl⟩⟩)))), (by rw [show X_at tb len at_ = X_sg tb len at_ by omega]; unfold X_rk; (repeat (first | rw [if_neg (by omega)] | rw [if_pos (by omega)]))), (fun _ => rfl), (fun h => absurd h (by omega)), (fun h => absurd h (by omega)), by first | assumption | omega, h654, ((((X_Fr.rf).tr (X_Fr.of n280 e281 (by omega))).tr (X_Fr.mono ⟨hF286.1, hF286.2⟩ (fun q hq => (by omega)))).tr (X_Fr.of n620 e621 (by omega))).tr (X_Fr.of n655 e656 (by omega))⟩
                            · skip
                              have c652 : ¬ ((X_sg tb len at_) = 64) := c652
                              refine T_p xr_141_506 xn_141 (pc' := 507) (ls' := [(1, .int (iI (X_sg tb len at_))), (0, .ref 530)]) (st' := [.int (iI (X_sg tb len at_)), .ref 530]) rfl ?_
                              refine T_p xr_141_507 xn_141 (pc' := 509) (ls' := [(1, .int (iI (X_sg tb len at_))), (0, .ref 530)]) (st' := [.int (iI 43), .int (iI (X_sg tb len at_)), .ref 530]) rfl ?_
                              refine T_zicmp_eq xr_141_509 (t := 542) (pc' := 512) rfl rfl (fun c657 => ?_) (fun c657 => ?_)
                              · skip
                                have c657 : (X_sg tb len at_) = 43 := c657
                                refine T_p xr_141_542 xn_141 (pc' := 544) (ls' := [(1, .int (iI (X_sg tb len at_))), (0, .ref 530)]) (st' := [.int (iI 6), .ref 530]) rfl ?_
                                refine T_p xr_141_544 xn_141 (pc' := 548) (ls' := [(1, .int (iI (X_sg tb len at_))), (0, .ref 530)]) (st' := [.int (iI 6), .ref 530]) rfl ?_
                                refine T_put xr_141_548 h619 rfl (Nat.le_of_ble_eq_true rfl) rfl (fs' := [.ref 531, .int (iI (o 1)), .ref 532, .int (iI (o 3)), .int (iI (o 4)), .int (iI (o 5)), .int (iI (o 6)), .int (iI at_), .int (iI (at_ + 1)), .int (iI 6), .int (iI (o 10)), .int (iI (o 11)), .long nm, .ref 533, .ref 534, .ref 535, .ref 536, .ref 537, .ref 538, .ref 539, .ref 540, .ref 541, .ref 542, .ref 543, .ref 544, .ref 545, .ref 546, .ref 547, .int (iI (o 28)), .int (iI (o 29)), .int (iI (o 30)), .int (iI (o 31)), .int (iI (o 32)), .int (iI (o 33)), .ref 548, .ref 549, .ref 550, .ref 551, .int (iI (o 38)), .ref 552, .ref 553, .ref 554, .ref 555, .ref 556, .ref 557, .ref 558, .ref 559, .ref 560, .ref 561, .int (iI (o 49)), .ref 562, .ref 563, .ref 564, .ref 565, .ref 566, .ref 567, .ref 568, .ref 569, .int (iI (o 58)), .ref 570, .ref 571, .ref 572, .ref 573, .ref 574, .ref 575, .ref 576, .ref 577, .ref 578, .int (iI (o 68)), .int (iI (o 69)), .int (iI (o 70)), .ref 579]) rfl (pc' := 551) rfl (fun S658 h659 n660 e661 => ?_)
                                refine T_vret xr_141_551 xf_141.2.2 ?_
                                refine hQ _ _ ?_
                                exact ⟨at_, at_ + 1, 6, o 10, o 11, nm, (X_at tb len at_), 0, at_ + 1, rfl, hp, (Or.inr (Or.inr (Or.inr (Or.inr ⟨fun h => absurd (X_sg_L.mpr ⟨by omega, h⟩) (by assumption), fun h => absurd (X_sg_D.mpr ⟨by omega, h⟩) (by assumption), by omega, by omega, rfl, rfl, Or.inl ⟨by unfold X_isSg; omega, by first | (intro h; omega) | (intro h; exact absurd h.2 (X_sg_n (by assumption) (by assumption))), rfl⟩⟩)))), (by rw [show X_at tb len at_ = X_sg tb len at_ by omega]; unfold X_rk; (repeat (first | rw [if_neg (by omega)] | rw [if_pos (by omega)]))), (fun _ => rfl), (fun h => absurd h (by omega)), (fun h => absurd h (by omega)), by first | assumption | omega, h659, ((((X_Fr.rf).tr (X_Fr.of n280 e281 (by omega))).tr (X_Fr.mono ⟨hF286.1, hF286.2⟩ (fun q hq => (by omega)))).tr (X_Fr.of n620 e621 (by omega))).tr (X_Fr.of n660 e661 (by omega))⟩
                              · skip
                                have c657 : ¬ ((X_sg tb len at_) = 43) := c657
                                refine T_p xr_141_512 xn_141 (pc' := 513) (ls' := [(1, .int (iI (X_sg tb len at_))), (0, .ref 530)]) (st' := [.int (iI (X_sg tb len at_)), .ref 530]) rfl ?_
                                refine T_p xr_141_513 xn_141 (pc' := 515) (ls' := [(1, .int (iI (X_sg tb len at_))), (0, .ref 530)]) (st' := [.int (iI 45), .int (iI (X_sg tb len at_)), .ref 530]) rfl ?_
                                refine T_zicmp_eq xr_141_515 (t := 542) (pc' := 518) rfl rfl (fun c662 => ?_) (fun c662 => ?_)
                                · skip
                                  have c662 : (X_sg tb len at_) = 45 := c662
                                  refine T_p xr_141_542 xn_141 (pc' := 544) (ls' := [(1, .int (iI (X_sg tb len at_))), (0, .ref 530)]) (st' := [.int (iI 6), .ref 530]) rfl ?_
                                  refine T_p xr_141_544 xn_141 (pc' := 548) (ls' := [(1, .int (iI (X_sg tb len at_))), (0, .ref 530)]) (st' := [.int (iI 6), .ref 530]) rfl ?_
                                  refine T_put xr_141_548 h619 rfl (Nat.le_of_ble_eq_true rfl) rfl (fs' := [.ref 531, .int (iI (o 1)), .ref 532, .int (iI (o 3)), .int (iI (o 4)), .int (iI (o 5)), .int (iI (o 6)), .int (iI at_), .int (iI (at_ + 1)), .int (iI 6), .int (iI (o 10)), .int (iI (o 11)), .long nm, .ref 533, .ref 534, .ref 535, .ref 536, .ref 537, .ref 538, .ref 539, .ref 540, .ref 541, .ref 542, .ref 543, .ref 544, .ref 545, .ref 546, .ref 547, .int (iI (o 28)), .int (iI (o 29)), .int (iI (o 30)), .int (iI (o 31)), .int (iI (o 32)), .int (iI (o 33)), .ref 548, .ref 549, .ref 550, .ref 551, .int (iI (o 38)), .ref 552, .ref 553, .ref 554, .ref 555, .ref 556, .ref 557, .ref 558, .ref 559, .ref 560, .ref 561, .int (iI (o 49)), .ref 562, .ref 563, .ref 564, .ref 565, .ref 566, .ref 567, .ref 568, .ref 569, .int (iI (o 58)), .ref 570, .ref 571, .ref 572, .ref 573, .ref 574, .ref 575, .ref 576, .ref 577, .ref 578, .int (iI (o 68)), .int (iI (o 69)), .int (iI (o 70)), .ref 579]) rfl (pc' := 551) rfl (fun S663 h664 n665 e666 => ?_)
                                  refine T_vret xr_141_551 xf_141.2.2 ?_
                                  refine hQ _ _ ?_
                                  exact ⟨at_, at_ + 1, 6, o 10, o 11, nm, (X_at tb len at_), 0, at_ + 1, rfl, hp, (Or.inr (Or.inr (Or.inr (Or.inr ⟨fun h => absurd (X_sg_L.mpr ⟨by omega, h⟩) (by assumption), fun h => absurd (X_sg_D.mpr ⟨by omega, h⟩) (by assumption), by omega, by omega, rfl, rfl, Or.inl ⟨by unfold X_isSg; omega, by first | (intro h; omega) | (intro h; exact absurd h.2 (X_sg_n (by assumption) (by assumption))), rfl⟩⟩)))), (by rw [show X_at tb len at_ = X_sg tb len at_ by omega]; unfold X_rk; (repeat (first | rw [if_neg (by omega)] | rw [if_pos (by omega)]))), (fun _ => rfl), (fun h => absurd h (by omega)), (fun h => absurd h (by omega)), by first | assumption | omega, h664, ((((X_Fr.rf).tr (X_Fr.of n280 e281 (by omega))).tr (X_Fr.mono ⟨hF286.1, hF286.2⟩ (fun q hq => (by omega)))).tr (X_Fr.of n620 e621 (by omega))).tr (X_Fr.of n665 e666 (by omega))⟩
                                · skip
                                  have c662 : ¬ ((X_sg tb len at_) = 45) := c662
                                  refine T_p xr_141_518 xn_141 (pc' := 519) (ls' := [(1, .int (iI (X_sg tb len at_))), (0, .ref 530)]) (st' := [.int (iI (X_sg tb len at_)), .ref 530]) rfl ?_
                                  refine T_p xr_141_519 xn_141 (pc' := 521) (ls' := [(1, .int (iI (X_sg tb len at_))), (0, .ref 530)]) (st' := [.int (iI 42), .int (iI (X_sg tb len at_)), .ref 530]) rfl ?_
                                  refine T_zicmp_eq xr_141_521 (t := 542) (pc' := 524) rfl rfl (fun c667 => ?_) (fun c667 => ?_)
                                  · skip
                                    have c667 : (X_sg tb len at_) = 42 := c667
                                    refine T_p xr_141_542 xn_141 (pc' := 544) (ls' := [(1, .int (iI (X_sg tb len at_))), (0, .ref 530)]) (st' := [.int (iI 6), .ref 530]) rfl ?_
                                    refine T_p xr_141_544 xn_141 (pc' := 548) (ls' := [(1, .int (iI (X_sg tb len at_))), (0, .ref 530)]) (st' := [.int (iI 6), .ref 530]) rfl ?_
                                    refine T_put xr_141_548 h619 rfl (Nat.le_of_ble_eq_true rfl) rfl (fs' := [.ref 531, .int (iI (o 1)), .ref 532, .int (iI (o 3)), .int (iI (o 4)), .int (iI (o 5)), .int (iI (o 6)), .int (iI at_), .int (iI (at_ + 1)), .int (iI 6), .int (iI (o 10)), .int (iI (o 11)), .long nm, .ref 533, .ref 534, .ref 535, .ref 536, .ref 537, .ref 538, .ref 539, .ref 540, .ref 541, .ref 542, .ref 543, .ref 544, .ref 545, .ref 546, .ref 547, .int (iI (o 28)), .int (iI (o 29)), .int (iI (o 30)), .int (iI (o 31)), .int (iI (o 32)), .int (iI (o 33)), .ref 548, .ref 549, .ref 550, .ref 551, .int (iI (o 38)), .ref 552, .ref 553, .ref 554, .ref 555, .ref 556, .ref 557, .ref 558, .ref 559, .ref 560, .ref 561, .int (iI (o 49)), .ref 562, .ref 563, .ref 564, .ref 565, .ref 566, .ref 567, .ref 568, .ref 569, .int (iI (o 58)), .ref 570, .ref 571, .ref 572, .ref 573, .ref 574, .ref 575, .ref 576, .ref 577, .ref 578, .int (iI (o 68)), .int (iI (o 69)), .int (iI (o 70)), .ref 579]) rfl (pc' := 551) rfl (fun S668 h669 n670 e671 => ?_)
                                    refine T_vret xr_141_551 xf_141.2.2 ?_
                                    refine hQ _ _ ?_
                                    exact ⟨at_, at_ + 1, 6, o 10, o 11, nm, (X_at tb len at_), 0, at_ + 1, rfl, hp, (Or.inr (Or.inr (Or.inr (Or.inr ⟨fun h => absurd (X_sg_L.mpr ⟨by omega, h⟩) (by assumption), fun h => absurd (X_sg_D.mpr ⟨by omega, h⟩) (by assumption), by omega, by omega, rfl, rfl, Or.inl ⟨by unfold X_isSg; omega, by first | (intro h; omega) | (intro h; exact absurd h.2 (X_sg_n (by assumption) (by assumption))), rfl⟩⟩)))), (by rw [show X_at tb len at_ = X_sg tb len at_ by omega]; unfold X_rk; (repeat (first | rw [if_neg (by omega)] | rw [if_pos (by omega)]))), (fun _ => rfl), (fun h => absurd h (by omega)), (fun h => absurd h (by omega)), by first | assumption | omega, h669, ((((X_Fr.rf).tr (X_Fr.of n280 e281 (by omega))).tr (X_Fr.mono ⟨hF286.1, hF286.2⟩ (fun q hq => (by omega)))).tr (X_Fr.of n620 e621 (by omega))).tr (X_Fr.of n670 e671 (by omega))⟩
                                  · skip
                                    have c667 : ¬ ((X_sg tb len at_) = 42) := c667
                                    refine T_p xr_141_524 xn_141 (pc' := 525) (ls' := [(1, .int (iI (X_sg tb len at_))), (0, .ref 530)]) (st' := [.int (iI (X_sg tb len at_)), .ref 530]) rfl ?_
                                    refine T_p xr_141_525 xn_141 (pc' := 527) (ls' := [(1, .int (iI (X_sg tb len at_))), (0, .ref 530)]) (st' := [.int (iI 47), .int (iI (X_sg tb len at_)), .ref 530]) rfl ?_
                                    refine T_zicmp_eq xr_141_527 (t := 542) (pc' := 530) rfl rfl (fun c672 => ?_) (fun c672 => ?_)
                                    · skip
                                      have c672 : (X_sg tb len at_) = 47 := c672
                                      refine T_p xr_141_542 xn_141 (pc' := 544) (ls' := [(1, .int (iI (X_sg tb len at_))), (0, .ref 530)]) (st' := [.int (iI 6), .ref 530]) rfl ?_
                                      refine T_p xr_141_544 xn_141 (pc' := 548) (ls' := [(1, .int (iI (X_sg tb len at_))), (0, .ref 530)]) (st' := [.int (iI 6), .ref 530]) rfl ?_
                                      refine T_put xr_141_548 h619 rfl (Nat.le_of_ble_eq_true rfl) rfl (fs' := [.ref 531, .int (iI (o 1)), .ref 532, .int (iI (o 3)), .int (iI (o 4)), .int (iI (o 5)), .int (iI (o 6)), .int (iI at_), .int (iI (at_ + 1)), .int (iI 6), .int (iI (o 10)), .int (iI (o 11)), .long nm, .ref 533, .ref 534, .ref 535, .ref 536, .ref 537, .ref 538, .ref 539, .ref 540, .ref 541, .ref 542, .ref 543, .ref 544, .ref 545, .ref 546, .ref 547, .int (iI (o 28)), .int (iI (o 29)), .int (iI (o 30)), .int (iI (o 31)), .int (iI (o 32)), .int (iI (o 33)), .ref 548, .ref 549, .ref 550, .ref 551, .int (iI (o 38)), .ref 552, .ref 553, .ref 554, .ref 555, .ref 556, .ref 557, .ref 558, .ref 559, .ref 560, .ref 561, .int (iI (o 49)), .ref 562, .ref 563, .ref 564, .ref 565, .ref 566, .ref 567, .ref 568, .ref 569, .int (iI (o 58)), .ref 570, .ref 571, .ref 572, .ref 573, .ref 574, .ref 575, .ref 576, .ref 577, .ref 578, .int (iI (o 68)), .int (iI (o 69)), .int (iI (o 70)), .ref 579]) rfl (pc' := 551) rfl (fun S673 h674 n675 e676 => ?_)
                                      refine T_vret xr_141_551 xf_141.2.2 ?_
                                      refine hQ _ _ ?_
                                      exact ⟨at_, at_ + 1, 6, o 10, o 11, nm, (X_at tb len at_), 0, at_ + 1, rfl, hp, (Or.inr (Or.inr (Or.inr (Or.inr ⟨fun h => absurd (X_sg_L.mpr ⟨by omega, h⟩) (by assumption), fun h => absurd (X_sg_D.mpr ⟨by omega, h⟩) (by assumption), by omega, by omega, rfl, rfl, Or.inl ⟨by unfold X_isSg; omega, by first | (intro h; omega) | (intro h; exact absurd h.2 (X_sg_n (by assumption) (by assumption))), rfl⟩⟩)))), (by rw [show X_at tb len at_ = X_sg tb len at_ by omega]; unfold X_rk; (repeat (first | rw [if_neg (by omega)] | rw [if_pos (by omega)]))), (fun _ => rfl), (fun h => absurd h (by omega)), (fun h => absurd h (by omega)), by first | assumption | omega, h674, ((((X_Fr.rf).tr (X_Fr.of n280 e281 (by omega))).tr (X_Fr.mono ⟨hF286.1, hF286.2⟩ (fun q hq => (by omega)))).tr (X_Fr.of n620 e621 (by omega))).tr (X_Fr.of n675 e676 (by omega))⟩
                                    · skip
                                      have c672 : ¬ ((X_sg tb len at_) = 47) := c672
                                      refine T_p xr_141_530 xn_141 (pc' := 531) (ls' := [(1, .int (iI (X_sg tb len at_))), (0, .ref 530)]) (st' := [.int (iI (X_sg tb len at_)), .ref 530]) rfl ?_
                                      refine T_p xr_141_531 xn_141 (pc' := 533) (ls' := [(1, .int (iI (X_sg tb len at_))), (0, .ref 530)]) (st' := [.int (iI 37), .int (iI (X_sg tb len at_)), .ref 530]) rfl ?_
                                      refine T_zicmp_eq xr_141_533 (t := 542) (pc' := 536) rfl rfl (fun c677 => ?_) (fun c677 => ?_)
                                      · skip
                                        have c677 : (X_sg tb len at_) = 37 := c677
                                        refine T_p xr_141_542 xn_141 (pc' := 544) (ls' := [(1, .int (iI (X_sg tb len at_))), (0, .ref 530)]) (st' := [.int (iI 6), .ref 530]) rfl ?_
                                        refine T_p xr_141_544 xn_141 (pc' := 548) (ls' := [(1, .int (iI (X_sg tb len at_))), (0, .ref 530)]) (st' := [.int (iI 6), .ref 530]) rfl ?_
                                        refine T_put xr_141_548 h619 rfl (Nat.le_of_ble_eq_true rfl) rfl (fs' := [.ref 531, .int (iI (o 1)), .ref 532, .int (iI (o 3)), .int (iI (o 4)), .int (iI (o 5)), .int (iI (o 6)), .int (iI at_), .int (iI (at_ + 1)), .int (iI 6), .int (iI (o 10)), .int (iI (o 11)), .long nm, .ref 533, .ref 534, .ref 535, .ref 536, .ref 537, .ref 538, .ref 539, .ref 540, .ref 541, .ref 542, .ref 543, .ref 544, .ref 545, .ref 546, .ref 547, .int (iI (o 28)), .int (iI (o 29)), .int (iI (o 30)), .int (iI (o 31)), .int (iI (o 32)), .int (iI (o 33)), .ref 548, .ref 549, .ref 550, .ref 551, .int (iI (o 38)), .ref 552, .ref 553, .ref 554, .ref 555, .ref 556, .ref 557, .ref 558, .ref 559, .ref 560, .ref 561, .int (iI (o 49)), .ref 562, .ref 563, .ref 564, .ref 565, .ref 566, .ref 567, .ref 568, .ref 569, .int (iI (o 58)), .ref 570, .ref 571, .ref 572, .ref 573, .ref 574, .ref 575, .ref 576, .ref 577, .ref 578, .int (iI (o 68)), .int (iI (o 69)), .int (iI (o 70)), .ref 579]) rfl (pc' := 551) rfl (fun S678 h679 n680 e681 => ?_)
                                        refine T_vret xr_141_551 xf_141.2.2 ?_
                                        refine hQ _ _ ?_
                                        exact ⟨at_, at_ + 1, 6, o 10, o 11, nm, (X_at tb len at_), 0, at_ + 1, rfl, hp, (Or.inr (Or.inr (Or.inr (Or.inr ⟨fun h => absurd (X_sg_L.mpr ⟨by omega, h⟩) (by assumption), fun h => absurd (X_sg_D.mpr ⟨by omega, h⟩) (by assumption), by omega, by omega, rfl, rfl, Or.inl ⟨by unfold X_isSg; omega, by first | (intro h; omega) | (intro h; exact absurd h.2 (X_sg_n (by assumption) (by assumption))), rfl⟩⟩)))), (by rw [show X_at tb len at_ = X_sg tb len at_ by omega]; unfold X_rk; (repeat (first | rw [if_neg (by omega)] | rw [if_pos (by omega)]))), (fun _ => rfl), (fun h => absurd h (by omega)), (fun h => absurd h (by omega)), by first | assumption | omega, h679, ((((X_Fr.rf).tr (X_Fr.of n280 e281 (by omega))).tr (X_Fr.mono ⟨hF286.1, hF286.2⟩ (fun q hq => (by omega)))).tr (X_Fr.of n620 e621 (by omega))).tr (X_Fr.of n680 e681 (by omega))⟩
                                      · skip
                                        have c677 : ¬ ((X_sg tb len at_) = 37) := c677
                                        refine T_p xr_141_536 xn_141 (pc' := 537) (ls' := [(1, .int (iI (X_sg tb len at_))), (0, .ref 530)]) (st' := [.int (iI (X_sg tb len at_)), .ref 530]) rfl ?_
                                        refine T_p xr_141_537 xn_141 (pc' := 539) (ls' := [(1, .int (iI (X_sg tb len at_))), (0, .ref 530)]) (st' := [.int (iI 60), .int (iI (X_sg tb len at_)), .ref 530]) rfl ?_
                                        refine T_zicmp_ne xr_141_539 (t := 547) (pc' := 542) rfl rfl (fun c682 => ?_) (fun c682 => ?_)
                                        · skip
                                          have c682 : ¬ (X_sg tb len at_) = 60 := c682
                                          refine T_p xr_141_547 xn_141 (pc' := 548) (ls' := [(1, .int (iI (X_sg tb len at_))), (0, .ref 530)]) (st' := [.int (iI 1), .ref 530]) rfl ?_
                                          refine T_put xr_141_548 h619 rfl (Nat.le_of_ble_eq_true rfl) rfl (fs' := [.ref 531, .int (iI (o 1)), .ref 532, .int (iI (o 3)), .int (iI (o 4)), .int (iI (o 5)), .int (iI (o 6)), .int (iI at_), .int (iI (at_ + 1)), .int (iI 1), .int (iI (o 10)), .int (iI (o 11)), .long nm, .ref 533, .ref 534, .ref 535, .ref 536, .ref 537, .ref 538, .ref 539, .ref 540, .ref 541, .ref 542, .ref 543, .ref 544, .ref 545, .ref 546, .ref 547, .int (iI (o 28)), .int (iI (o 29)), .int (iI (o 30)), .int (iI (o 31)), .int (iI (o 32)), .int (iI (o 33)), .ref 548, .ref 549, .ref 550, .ref 551, .int (iI (o 38)), .ref 552, .ref 553, .ref 554, .ref 555, .ref 556, .ref 557, .ref 558, .ref 559, .ref 560, .ref 561, .int (iI (o 49)), .ref 562, .ref 563, .ref 564, .ref 565, .ref 566, .ref 567, .ref 568, .ref 569, .int (iI (o 58)), .ref 570, .ref 571, .ref 572, .ref 573, .ref 574, .ref 575, .ref 576, .ref 577, .ref 578, .int (iI (o 68)), .int (iI (o 69)), .int (iI (o 70)), .ref 579]) rfl (pc' := 551) rfl (fun S683 h684 n685 e686 => ?_)
                                          refine T_vret xr_141_551 xf_141.2.2 ?_
                                          refine hQ _ _ ?_
                                          exact ⟨at_, at_ + 1, 1, o 10, o 11, nm, 1, 0, at_ + 1, rfl, hp, (Or.inr (Or.inr (Or.inr (Or.inr ⟨fun h => absurd (X_sg_L.mpr ⟨by omega, h⟩) (by assumption), fun h => absurd (X_sg_D.mpr ⟨by omega, h⟩) (by assumption), by omega, by omega, rfl, rfl, Or.inr ⟨by first | exact Or.inl (by unfold X_isSg; omega) | exact Or.inr ⟨by omega, Or.inl (X_sg_L.mp (by assumption)).2⟩ | exact Or.inr ⟨by omega, Or.inr (X_sg_D.mp (by assumption)).2⟩, rfl⟩⟩)))), rfl, (fun _ => rfl), (fun h => absurd h (by omega)), (fun h => absurd h (by omega)), by first | assumption | omega, h684, ((((X_Fr.rf).tr (X_Fr.of n280 e281 (by omega))).tr (X_Fr.mono ⟨hF286.1, hF286.2⟩ (fun q hq => (by omega)))).tr (X_Fr.of n620 e621 (by omega))).tr (X_Fr.of n685 e686 (by omega))⟩
                                        · skip
                                          have c682 : ¬ (¬ (X_sg tb len at_) = 60) := c682
                                          refine T_p xr_141_542 xn_141 (pc' := 544) (ls' := [(1, .int (iI (X_sg tb len at_))), (0, .ref 530)]) (st' := [.int (iI 6), .ref 530]) rfl ?_
                                          refine T_p xr_141_544 xn_141 (pc' := 548) (ls' := [(1, .int (iI (X_sg tb len at_))), (0, .ref 530)]) (st' := [.int (iI 6), .ref 530]) rfl ?_
                                          refine T_put xr_141_548 h619 rfl (Nat.le_of_ble_eq_true rfl) rfl (fs' := [.ref 531, .int (iI (o 1)), .ref 532, .int (iI (o 3)), .int (iI (o 4)), .int (iI (o 5)), .int (iI (o 6)), .int (iI at_), .int (iI (at_ + 1)), .int (iI 6), .int (iI (o 10)), .int (iI (o 11)), .long nm, .ref 533, .ref 534, .ref 535, .ref 536, .ref 537, .ref 538, .ref 539, .ref 540, .ref 541, .ref 542, .ref 543, .ref 544, .ref 545, .ref 546, .ref 547, .int (iI (o 28)), .int (iI (o 29)), .int (iI (o 30)), .int (iI (o 31)), .int (iI (o 32)), .int (iI (o 33)), .ref 548, .ref 549, .ref 550, .ref 551, .int (iI (o 38)), .ref 552, .ref 553, .ref 554, .ref 555, .ref 556, .ref 557, .ref 558, .ref 559, .ref 560, .ref 561, .int (iI (o 49)), .ref 562, .ref 563, .ref 564, .ref 565, .ref 566, .ref 567, .ref 568, .ref 569, .int (iI (o 58)), .ref 570, .ref 571, .ref 572, .ref 573, .ref 574, .ref 575, .ref 576, .ref 577, .ref 578, .int (iI (o 68)), .int (iI (o 69)), .int (iI (o 70)), .ref 579]) rfl (pc' := 551) rfl (fun S687 h688 n689 e690 => ?_)
                                          refine T_vret xr_141_551 xf_141.2.2 ?_
                                          refine hQ _ _ ?_
                                          exact ⟨at_, at_ + 1, 6, o 10, o 11, nm, (X_at tb len at_), 0, at_ + 1, rfl, hp, (Or.inr (Or.inr (Or.inr (Or.inr ⟨fun h => absurd (X_sg_L.mpr ⟨by omega, h⟩) (by assumption), fun h => absurd (X_sg_D.mpr ⟨by omega, h⟩) (by assumption), by omega, by omega, rfl, rfl, Or.inl ⟨by unfold X_isSg; omega, by first | (intro h; omega) | (intro h; exact absurd h.2 (X_sg_n (by assumption) (by assumption))), rfl⟩⟩)))), (by rw [show X_at tb len at_ = X_sg tb len at_ by omega]; unfold X_rk; (repeat (first | rw [if_neg (by omega)] | rw [if_pos (by omega)]))), (fun _ => rfl), (fun h => absurd h (by omega)), (fun h => absurd h (by omega)), by first | assumption | omega, h688, ((((X_Fr.rf).tr (X_Fr.of n280 e281 (by omega))).tr (X_Fr.mono ⟨hF286.1, hF286.2⟩ (fun q hq => (by omega)))).tr (X_Fr.of n620 e621 (by omega))).tr (X_Fr.of n689 e690 (by omega))⟩
                    · skip
                      have c636 : ¬ (¬ (X_sg tb len at_) = 95) := c636
                      refine T_p xr_141_440 xn_141 (pc' := 441) (ls' := [(1, .int (iI (X_sg tb len at_))), (0, .ref 530)]) (st' := [.ref 530]) rfl ?_
                      refine T_p xr_141_441 xn_141 (pc' := 442) (ls' := [(1, .int (iI (X_sg tb len at_))), (0, .ref 530)]) (st' := [.ref 530, .ref 530]) rfl ?_
                      refine T_p xr_141_442 xn_141 (pc' := 443) (ls' := [(1, .int (iI (X_sg tb len at_))), (0, .ref 530)]) (st' := [.ref 530, .ref 530, .ref 530]) rfl ?_
                      refine T_get xr_141_443 h619 rfl (v := .int (iI (at_ + 1))) rfl (pc' := 446) rfl ?_
                      refine T_cv (S := S618) (q := 530) xr_141_446 xf_136.1 xf_136.2.1 xn_136 (as := [.int (iI (at_ + 1))]) (r := [.ref 530]) rfl h619 (Nat.le_of_ble_eq_true rfl) (Nat.le_of_ble_eq_true rfl) (pc' := 449) rfl (ls' := [(0, .ref 530), (1, .int (iI (at_ + 1)))]) rfl ?_
                      have h691 := (n620 532 (by decide)).trans (h590)
                      refine T_mono (r_sign sc S618 (X_ou (X_ou o 7 at_) 8 (at_ + 1)) nm tx tb len (at_ + 1) h619 h691 (show (o 3) = len from by first | assumption | omega) hl htx (by omega)) (fun v692 S693 h694 => ?_)
                      rcases h694 with ⟨hv695, hf696⟩
                      rw [hv695]
                      rw [hf696]
                      have hg697 := X_sg_r (tb := tb) (len := len) (k := (at_ + 1)) (by omega)
                      have hg698 := X_sg_c (tb := tb) (len := len) (k := (at_ + 1))
                      show X_T sc 141 (449, [(1, .int (iI (X_sg tb len at_))), (0, .ref 530)], [.int (iI (X_sg tb len (at_ + 1))), .ref 530], S618) _
                      refine T_cs xr_141_449 (by decide) xf_137.1 xn_137 (as := [.int (iI (X_sg tb len (at_ + 1)))]) (r := [.ref 530]) rfl (Nat.le_of_ble_eq_true rfl) (Nat.le_of_ble_eq_true rfl) (pc' := 452) rfl (ls' := [(0, .int (iI (X_sg tb len (at_ + 1))))]) rfl ?_
                      refine T_mono (r_isLetter sc S618 (X_sg tb len (at_ + 1)) (by omega)) (fun v699 S700 h701 => ?_)
                      rcases h701 with ⟨hv702, hf703⟩
                      rw [hv702]
                      rw [hf703]
                      show X_T sc 141 (452, [(1, .int (iI (X_sg tb len at_))), (0, .ref 530)], [.int (iI (bI (X_isL (X_sg tb len (at_ + 1))))), .ref 530], S618) _
                      refine T_bif_ne xr_141_452 (t := 469) (pc' := 455) rfl rfl (fun c704 => ?_) (fun c704 => ?_)
                      · skip
                        have c704 : (X_isL (X_sg tb len (at_ + 1))) := c704
                        refine T_p xr_141_469 xn_141 (pc' := 470) (ls' := [(1, .int (iI (X_sg tb len at_))), (0, .ref 530)]) (st' := [.int (iI 1), .ref 530]) rfl ?_
                        refine T_p xr_141_470 xn_141 (pc' := 475) (ls' := [(1, .int (iI (X_sg tb len at_))), (0, .ref 530)]) (st' := [.int (iI 1), .ref 530]) rfl ?_
                        refine T_put xr_141_475 h619 rfl (Nat.le_of_ble_eq_true rfl) rfl (fs' := [.ref 531, .int (iI (o 1)), .ref 532, .int (iI (o 3)), .int (iI (o 4)), .int (iI (o 5)), .int (iI (o 6)), .int (iI at_), .int (iI (at_ + 1)), .int (iI 1), .int (iI (o 10)), .int (iI (o 11)), .long nm, .ref 533, .ref 534, .ref 535, .ref 536, .ref 537, .ref 538, .ref 539, .ref 540, .ref 541, .ref 542, .ref 543, .ref 544, .ref 545, .ref 546, .ref 547, .int (iI (o 28)), .int (iI (o 29)), .int (iI (o 30)), .int (iI (o 31)), .int (iI (o 32)), .int (iI (o 33)), .ref 548, .ref 549, .ref 550, .ref 551, .int (iI (o 38)), .ref 552, .ref 553, .ref 554, .ref 555, .ref 556, .ref 557, .ref 558, .ref 559, .ref 560, .ref 561, .int (iI (o 49)), .ref 562, .ref 563, .ref 564, .ref 565, .ref 566, .ref 567, .ref 568, .ref 569, .int (iI (o 58)), .ref 570, .ref 571, .ref 572, .ref 573, .ref 574, .ref 575, .ref 576, .ref 577, .ref 578, .int (iI (o 68)), .int (iI (o 69)), .int (iI (o 70)), .ref 579]) rfl (pc' := 478) rfl (fun S705 h706 n707 e708 => ?_)
                        refine T_p xr_141_478 xn_141 (pc' := 551) (ls' := [(1, .int (iI (X_sg tb len at_))), (0, .ref 530)]) (st' := []) rfl ?_
                        refine T_vret xr_141_551 xf_141.2.2 ?_
                        refine hQ _ _ ?_
                        exact ⟨at_, at_ + 1, 1, o 10, o 11, nm, 1, 0, at_ + 1, rfl, hp, (Or.inr (Or.inr (Or.inr (Or.inr ⟨fun h => absurd (X_sg_L.mpr ⟨by omega, h⟩) (by assumption), fun h => absurd (X_sg_D.mpr ⟨by omega, h⟩) (by assumption), by omega, by omega, rfl, rfl, Or.inr ⟨by first | exact Or.inl (by unfold X_isSg; omega) | exact Or.inr ⟨by omega, Or.inl (X_sg_L.mp (by assumption)).2⟩ | exact Or.inr ⟨by omega, Or.inr (X_sg_D.mp (by assumption)).2⟩, rfl⟩⟩)))), rfl, (fun _ => rfl), (fun h => absurd h (by omega)), (fun h => absurd h (by omega)), by first | assumption | omega, h706, ((((X_Fr.rf).tr (X_Fr.of n280 e281 (by omega))).tr (X_Fr.mono ⟨hF286.1, hF286.2⟩ (fun q hq => (by omega)))).tr (X_Fr.of n620 e621 (by omega))).tr (X_Fr.of n707 e708 (by omega))⟩
                      · skip
                        have c704 : ¬ (X_isL (X_sg tb len (at_ + 1))) := c704
                        refine T_p xr_141_455 xn_141 (pc' := 456) (ls' := [(1, .int (iI (X_sg tb len at_))), (0, .ref 530)]) (st' := [.ref 530, .ref 530]) rfl ?_
                        refine T_p xr_141_456 xn_141 (pc' := 457) (ls' := [(1, .int (iI (X_sg tb len at_))), (0, .ref 530)]) (st' := [.ref 530, .ref 530, .ref 530]) rfl ?_
                        refine T_get xr_141_457 h619 rfl (v := .int (iI (at_ + 1))) rfl (pc' := 460) rfl ?_
                        refine T_cv (S := S618) (q := 530) xr_141_460 xf_136.1 xf_136.2.1 xn_136 (as := [.int (iI (at_ + 1))]) (r := [.ref 530]) rfl h619 (Nat.le_of_ble_eq_true rfl) (Nat.le_of_ble_eq_true rfl) (pc' := 463) rfl (ls' := [(0, .ref 530), (1, .int (iI (at_ + 1)))]) rfl ?_
                        refine T_mono (r_sign sc S618 (X_ou (X_ou o 7 at_) 8 (at_ + 1)) nm tx tb len (at_ + 1) h619 h691 (show (o 3) = len from by first | assumption | omega) hl htx (by omega)) (fun v709 S710 h711 => ?_)
                        rcases h711 with ⟨hv712, hf713⟩
                        rw [hv712]
                        rw [hf713]
                        have hg714 := X_sg_r (tb := tb) (len := len) (k := (at_ + 1)) (by omega)
                        have hg715 := X_sg_c (tb := tb) (len := len) (k := (at_ + 1))
                        show X_T sc 141 (463, [(1, .int (iI (X_sg tb len at_))), (0, .ref 530)], [.int (iI (X_sg tb len (at_ + 1))), .ref 530], S618) _
                        refine T_cs xr_141_463 (by decide) xf_138.1 xn_138 (as := [.int (iI (X_sg tb len (at_ + 1)))]) (r := [.ref 530]) rfl (Nat.le_of_ble_eq_true rfl) (Nat.le_of_ble_eq_true rfl) (pc' := 466) rfl (ls' := [(0, .int (iI (X_sg tb len (at_ + 1))))]) rfl ?_
                        refine T_mono (r_isDigit sc S618 (X_sg tb len (at_ + 1)) (by omega)) (fun v716 S717 h718 => ?_)
                        rcases h718 with ⟨hv719, hf720⟩
                        rw [hv719]
                        rw [hf720]
                        show X_T sc 141 (466, [(1, .int (iI (X_sg tb len at_))), (0, .ref 530)], [.int (iI (bI (X_isD (X_sg tb len (at_ + 1))))), .ref 530], S618) _
                        refine T_bif_eq xr_141_466 (t := 473) (pc' := 469) rfl rfl (fun c721 => ?_) (fun c721 => ?_)
                        · skip
                          have c721 : ¬ (X_isD (X_sg tb len (at_ + 1))) := c721
                          refine T_p xr_141_473 xn_141 (pc' := 475) (ls' := [(1, .int (iI (X_sg tb len at_))), (0, .ref 530)]) (st' := [.int (iI 6), .ref 530]) rfl ?_
                          refine T_put xr_141_475 h619 rfl (Nat.le_of_ble_eq_true rfl) rfl (fs' := [.ref 531, .int (iI (o 1)), .ref 532, .int (iI (o 3)), .int (iI (o 4)), .int (iI (o 5)), .int (iI (o 6)), .int (iI at_), .int (iI (at_ + 1)), .int (iI 6), .int (iI (o 10)), .int (iI (o 11)), .long nm, .ref 533, .ref 534, .ref 535, .ref 536, .ref 537, .ref 538, .ref 539, .ref 540, .ref 541, .ref 542, .ref 543, .ref 544, .ref 545, .ref 546, .ref 547, .int (iI (o 28)), .int (iI (o 29)), .int (iI (o 30)), .int (iI (o 31)), .int (iI (o 32)), .int (iI (o 33)), .ref 548, .ref 549, .ref 550, .ref 551, .int (iI (o 38)), .ref 552, .ref 553, .ref 554, .ref 555, .ref 556, .ref 557, .ref 558, .ref 559, .ref 560, .ref 561, .int (iI (o 49)), .ref 562, .ref 563, .ref 564, .ref 565, .ref 566, .ref 567, .ref 568, .ref 569, .int (iI (o 58)), .ref 570, .ref 571, .ref 572, .ref 573, .ref 574, .ref 575, .ref 576, .ref 577, .ref 578, .int (iI (o 68)), .int (iI (o 69)), .int (iI (o 70)), .ref 579]) rfl (pc' := 478) rfl (fun S722 h723 n724 e725 => ?_)
                          refine T_p xr_141_478 xn_141 (pc' := 551) (ls' := [(1, .int (iI (X_sg tb len at_))), (0, .ref 530)]) (st' := []) rfl ?_
                          refine T_vret xr_141_551 xf_141.2.2 ?_
                          refine hQ _ _ ?_
                          exact ⟨at_, at_ + 1, 6, o 10, o 11, nm, (X_at tb len at_), 0, at_ + 1, rfl, hp, (Or.inr (Or.inr (Or.inr (Or.inr ⟨fun h => absurd (X_sg_L.mpr ⟨by omega, h⟩) (by assumption), fun h => absurd (X_sg_D.mpr ⟨by omega, h⟩) (by assumption), by omega, by omega, rfl, rfl, Or.inl ⟨by unfold X_isSg; omega, by first | (intro h; omega) | (intro h; exact absurd h.2 (X_sg_n (by assumption) (by assumption))), rfl⟩⟩)))), (by rw [show X_at tb len at_ = X_sg tb len at_ by omega]; unfold X_rk; (repeat (first | rw [if_neg (by omega)] | rw [if_pos (by omega)]))), (fun _ => rfl), (fun h => absurd h (by omega)), (fun h => absurd h (by omega)), by first | assumption | omega, h723, ((((X_Fr.rf).tr (X_Fr.of n280 e281 (by omega))).tr (X_Fr.mono ⟨hF286.1, hF286.2⟩ (fun q hq => (by omega)))).tr (X_Fr.of n620 e621 (by omega))).tr (X_Fr.of n724 e725 (by omega))⟩
                        · skip
                          have c721 : (X_isD (X_sg tb len (at_ + 1))) := c721
                          refine T_p xr_141_469 xn_141 (pc' := 470) (ls' := [(1, .int (iI (X_sg tb len at_))), (0, .ref 530)]) (st' := [.int (iI 1), .ref 530]) rfl ?_
                          refine T_p xr_141_470 xn_141 (pc' := 475) (ls' := [(1, .int (iI (X_sg tb len at_))), (0, .ref 530)]) (st' := [.int (iI 1), .ref 530]) rfl ?_
                          refine T_put xr_141_475 h619 rfl (Nat.le_of_ble_eq_true rfl) rfl (fs' := [.ref 531, .int (iI (o 1)), .ref 532, .int (iI (o 3)), .int (iI (o 4)), .int (iI (o 5)), .int (iI (o 6)), .int (iI at_), .int (iI (at_ + 1)), .int (iI 1), .int (iI (o 10)), .int (iI (o 11)), .long nm, .ref 533, .ref 534, .ref 535, .ref 536, .ref 537, .ref 538, .ref 539, .ref 540, .ref 541, .ref 542, .ref 543, .ref 544, .ref 545, .ref 546, .ref 547, .int (iI (o 28)), .int (iI (o 29)), .int (iI (o 30)), .int (iI (o 31)), .int (iI (o 32)), .int (iI (o 33)), .ref 548, .ref 549, .ref 550, .ref 551, .int (iI (o 38)), .ref 552, .ref 553, .ref 554, .ref 555, .ref 556, .ref 557, .ref 558, .ref 559, .ref 560, .ref 561, .int (iI (o 49)), .ref 562, .ref 563, .ref 564, .ref 565, .ref 566, .ref 567, .ref 568, .ref 569, .int (iI (o 58)), .ref 570, .ref 571, .ref 572, .ref 573, .ref 574, .ref 575, .ref 576, .ref 577, .ref 578, .int (iI (o 68)), .int (iI (o 69)), .int (iI (o 70)), .ref 579]) rfl (pc' := 478) rfl (fun S726 h727 n728 e729 => ?_)
                          refine T_p xr_141_478 xn_141 (pc' := 551) (ls' := [(1, .int (iI (X_sg tb len at_))), (0, .ref 530)]) (st' := []) rfl ?_
                          refine T_vret xr_141_551 xf_141.2.2 ?_
                          refine hQ _ _ ?_
                          exact ⟨at_, at_ + 1, 1, o 10, o 11, nm, 1, 0, at_ + 1, rfl, hp, (Or.inr (Or.inr (Or.inr (Or.inr ⟨fun h => absurd (X_sg_L.mpr ⟨by omega, h⟩) (by assumption), fun h => absurd (X_sg_D.mpr ⟨by omega, h⟩) (by assumption), by omega, by omega, rfl, rfl, Or.inr ⟨by first | exact Or.inl (by unfold X_isSg; omega) | exact Or.inr ⟨by omega, Or.inl (X_sg_L.mp (by assumption)).2⟩ | exact Or.inr ⟨by omega, Or.inr (X_sg_D.mp (by assumption)).2⟩, rfl⟩⟩)))), rfl, (fun _ => rfl), (fun h => absurd h (by omega)), (fun h => absurd h (by omega)), by first | assumption | omega, h727, ((((X_Fr.rf).tr (X_Fr.of n280 e281 (by omega))).tr (X_Fr.mono ⟨hF286.1, hF286.2⟩ (fun q hq => (by omega)))).tr (X_Fr.of n620 e621 (by omega))).tr (X_Fr.of n728 e729 (by omega))⟩
                  · skip
                    have c635 : ¬ (¬ (X_sg tb len at_) = 34) := c635
                    refine T_p xr_141_427 xn_141 (pc' := 428) (ls' := [(1, .int (iI (X_sg tb len at_))), (0, .ref 530)]) (st' := [.ref 530]) rfl ?_
                    refine T_cv (S := S618) (q := 530) xr_141_428 xf_143.1 xf_143.2.1 xn_143 (as := []) (r := []) rfl h619 (Nat.le_of_ble_eq_true rfl) (Nat.le_of_ble_eq_true rfl) (pc' := 431) rfl (ls' := [(0, .ref 530)]) rfl ?_
                    have h730 := (n620 532 (by decide)).trans (h590)
                    refine T_mono (r_nextPart sc S618 (X_ou (X_ou o 7 at_) 8 (at_ + 1)) nm tx tb len at_ h619 h730 (show (o 3) = len from by first | assumption | omega) hl htx (show at_ = at_ from by omega) (show (at_ + 1) = at_ + 1 from by omega) (by omega) (by omega)) (fun v731 S732 h733 => ?_)
                    rcases h733 with ⟨en734, tk735, nm736, r737, ct738, e739, hv740, hp741, hp742, hp743, hp744, hM745, hf746⟩
                    rw [hv740]
                    have h747 : S732.1 530 = .inr (11, [.ref 531, .int (iI (o 1)), .ref 532, .int (iI (o 3)), .int (iI (o 4)), .int (iI (o 5)), .int (iI (o 6)), .int (iI at_), .int (iI en734), .int (iI tk735), .int (iI (o 10)), .int (iI (o 11)), .long nm736, .ref 533, .ref 534, .ref 535, .ref 536, .ref 537, .ref 538, .ref 539, .ref 540, .ref 541, .ref 542, .ref 543, .ref 544, .ref 545, .ref 546, .ref 547, .int (iI (o 28)), .int (iI (o 29)), .int (iI (o 30)), .int (iI (o 31)), .int (iI (o 32)), .int (iI (o 33)), .ref 548, .ref 549, .ref 550, .ref 551, .int (iI (o 38)), .ref 552, .ref 553, .ref 554, .ref 555, .ref 556, .ref 557, .ref 558, .ref 559, .ref 560, .ref 561, .int (iI (o 49)), .ref 562, .ref 563, .ref 564, .ref 565, .ref 566, .ref 567, .ref 568, .ref 569, .int (iI (o 58)), .ref 570, .ref 571, .ref 572, .ref 573, .ref 574, .ref 575, .ref 576, .ref 577, .ref 578, .int (iI (o 68)), .int (iI (o 69)), .int (iI (o 70)), .ref 579]) := hM745
                    show X_T sc 141 (431, [(1, .int (iI (X_sg tb len at_))), (0, .ref 530)], [], S732) _
                    refine T_p xr_141_431 xn_141 (pc' := 551) (ls' := [(1, .int (iI (X_sg tb len at_))), (0, .ref 530)]) (st' := []) rfl ?_
                    refine T_vret xr_141_551 xf_141.2.2 ?_
                    refine hQ _ _ ?_
                    exact ⟨at_, en734, tk735, o 10, o 11, nm736, r737, ct738, e739, rfl, hp, (Or.inr (Or.inr (Or.inr (Or.inl hp741)))), hp742, (fun h => (hp743 h).1), (fun h => (hp743 (by omega)).2), (fun h => by
                          exfalso
                          obtain ⟨-, m, -, h2 | h2⟩ := hp741
                          · have := h2.2.1; omega
                          · have := h2.2.2.2.1; omega), (by omega), h747, ((((X_Fr.rf).tr (X_Fr.of n280 e281 (by omega))).tr (X_Fr.mono ⟨hF286.1, hF286.2⟩ (fun q hq => (by omega)))).tr (X_Fr.of n620 e621 (by omega))).tr (X_Fr.mono ⟨hf746.1, hf746.2⟩ (fun q hq => (by omega)))⟩
                · skip
                  have c634 : (X_isD (X_sg tb len at_)) := c634
                  have hc0 : X_isD (X_sg tb len at_) := by assumption
                  refine T_p xr_141_296 xn_141 (pc' := 297) (ls' := [(1, .int (iI (X_sg tb len at_))), (0, .ref 530)]) (st' := [.ref 530]) rfl ?_
                  refine T_p xr_141_297 xn_141 (pc' := 298) (ls' := [(1, .int (iI (X_sg tb len at_))), (0, .ref 530)]) (st' := [.int (iI 0), .ref 530]) rfl ?_
                  refine T_put xr_141_298 h619 rfl (Nat.le_of_ble_eq_true rfl) rfl (fs' := [.ref 531, .int (iI (o 1)), .ref 532, .int (iI (o 3)), .int (iI (o 4)), .int (iI (o 5)), .int (iI (o 6)), .int (iI at_), .int (iI (at_ + 1)), .int (iI (o 9)), .int (iI 0), .int (iI (o 11)), .long nm, .ref 533, .ref 534, .ref 535, .ref 536, .ref 537, .ref 538, .ref 539, .ref 540, .ref 541, .ref 542, .ref 543, .ref 544, .ref 545, .ref 546, .ref 547, .int (iI (o 28)), .int (iI (o 29)), .int (iI (o 30)), .int (iI (o 31)), .int (iI (o 32)), .int (iI (o 33)), .ref 548, .ref 549, .ref 550, .ref 551, .int (iI (o 38)), .ref 552, .ref 553, .ref 554, .ref 555, .ref 556, .ref 557, .ref 558, .ref 559, .ref 560, .ref 561, .int (iI (o 49)), .ref 562, .ref 563, .ref 564, .ref 565, .ref 566, .ref 567, .ref 568, .ref 569, .int (iI (o 58)), .ref 570, .ref 571, .ref 572, .ref 573, .ref 574, .ref 575, .ref 576, .ref 577, .ref 578, .int (iI (o 68)), .int (iI (o 69)), .int (iI (o 70)), .ref 579]) rfl (pc' := 301) rfl (fun S748 h749 n750 e751 => ?_)
                  refine T_p xr_141_301 xn_141 (pc' := 302) (ls' := [(1, .int (iI (X_sg tb len at_))), (0, .ref 530)]) (st' := [.ref 530]) rfl ?_
                  refine T_p xr_141_302 xn_141 (pc' := 303) (ls' := [(1, .int (iI (X_sg tb len at_))), (0, .ref 530)]) (st' := [.ref 530, .ref 530]) rfl ?_
                  refine T_get xr_141_303 h749 rfl (v := .int (iI at_)) rfl (pc' := 306) rfl ?_
                  refine T_put xr_141_306 h749 rfl (Nat.le_of_ble_eq_true rfl) rfl (fs' := [.ref 531, .int (iI (o 1)), .ref 532, .int (iI (o 3)), .int (iI (o 4)), .int (iI (o 5)), .int (iI (o 6)), .int (iI at_), .int (iI at_), .int (iI (o 9)), .int (iI 0), .int (iI (o 11)), .long nm, .ref 533, .ref 534, .ref 535, .ref 536, .ref 537, .ref 538, .ref 539, .ref 540, .ref 541, .ref 542, .ref 543, .ref 544, .ref 545, .ref 546, .ref 547, .int (iI (o 28)), .int (iI (o 29)), .int (iI (o 30)), .int (iI (o 31)), .int (iI (o 32)), .int (iI (o 33)), .ref 548, .ref 549, .ref 550, .ref 551, .int (iI (o 38)), .ref 552, .ref 553, .ref 554, .ref 555, .ref 556, .ref 557, .ref 558, .ref 559, .ref 560, .ref 561, .int (iI (o 49)), .ref 562, .ref 563, .ref 564, .ref 565, .ref 566, .ref 567, .ref 568, .ref 569, .int (iI (o 58)), .ref 570, .ref 571, .ref 572, .ref 573, .ref 574, .ref 575, .ref 576, .ref 577, .ref 578, .int (iI (o 68)), .int (iI (o 69)), .int (iI (o 70)), .ref 579]) rfl (pc' := 309) rfl (fun S752 h753 n754 e755 => ?_)
                  have L756 : ∀ (m758 : Nat) (S761 : X_S) (en : Int) (nu : Int) (hM1 : S761.1 530 = .inr (11, [.ref 531, .int (iI (o 1)), .ref 532, .int (iI (o 3)), .int (iI (o 4)), .int (iI (o 5)), .int (iI (o 6)), .int (iI at_), .int (iI en), .int (iI (o 9)), .int (iI nu), .int (iI (o 11)), .long nm, .ref 533, .ref 534, .ref 535, .ref 536, .ref 537, .ref 538, .ref 539, .ref 540, .ref 541, .ref 542, .ref 543, .ref 544, .ref 545, .ref 546, .ref 547, .int (iI (o 28)), .int (iI (o 29)), .int (iI (o 30)), .int (iI (o 31)), .int (iI (o 32)), .int (iI (o 33)), .ref 548, .ref 549, .ref 550, .ref 551, .int (iI (o 38)), .ref 552, .ref 553, .ref 554, .ref 555, .ref 556, .ref 557, .ref 558, .ref 559, .ref 560, .ref 561, .int (iI (o 49)), .ref 562, .ref 563, .ref 564, .ref 565, .ref 566, .ref 567, .ref 568, .ref 569, .int (iI (o 58)), .ref 570, .ref 571, .ref 572, .ref 573, .ref 574, .ref 575, .ref 576, .ref 577, .ref 578, .int (iI (o 68)), .int (iI (o 69)), .int (iI (o 70)), .ref 579])) (hF760 : X_Fr (fun q => q = 530) S752 S761) (hen : at_ ≤ en ∧ en ≤ len) (hse : X_se X_isD tb len en = X_se X_isD tb len at_) (hnu1 : en - at_ ≤ 9 → nu = X_dv tb len at_ (en - at_).toNat) (hnu2 : 0 ≤ nu ∧ nu ≤ 999999999) (hD : ∀ k, at_ ≤ k → k < en → X_isD (X_at tb len k)) (hm759 : len - en < m758), X_T sc 141 (309, [(1, .int (iI (X_sg tb len at_))), (0, .ref 530)], [], S761) Q := by
                    intro m758
                    induction m758 with
                    | zero =>
                      intro S761 en nu hM1 hF760 hen hse hnu1 hnu2 hD hm759
                      exact (show False by omega).elim
                    | succ m758 ih757 =>
                      intro S761 en nu hM1 hF760 hen hse hnu1 hnu2 hD hm759
                      refine T_p xr_141_309 xn_141 (pc' := 310) (ls' := [(1, .int (iI (X_sg tb len at_))), (0, .ref 530)]) (st' := [.ref 530]) rfl ?_
                      refine T_p xr_141_310 xn_141 (pc' := 311) (ls' := [(1, .int (iI (X_sg tb len at_))), (0, .ref 530)]) (st' := [.ref 530, .ref 530]) rfl ?_
                      refine T_get xr_141_311 hM1 rfl (v := .int (iI en)) rfl (pc' := 314) rfl ?_
                      refine T_cv (S := S761) (q := 530) xr_141_314 xf_136.1 xf_136.2.1 xn_136 (as := [.int (iI en)]) (r := []) rfl hM1 (Nat.le_of_ble_eq_true rfl) (Nat.le_of_ble_eq_true rfl) (pc' := 317) rfl (ls' := [(0, .ref 530), (1, .int (iI en))]) rfl ?_
                      have h762 := (hF760.1 532 (by omega)).trans ((n754 532 (by decide)).trans ((n750 532 (by decide)).trans ((n620 532 (by decide)).trans (h590))))
                      refine T_mono (r_sign sc S761 (X_ou (X_ou (X_ou o 7 at_) 8 en) 10 nu) nm tx tb len en hM1 h762 (show (o 3) = len from by first | assumption | omega) hl htx (by omega)) (fun v763 S764 h765 => ?_)
                      rcases h765 with ⟨hv766, hf767⟩
                      rw [hv766]
                      rw [hf767]
                      have hg768 := X_sg_r (tb := tb) (len := len) (k := en) (by omega)
                      have hg769 := X_sg_c (tb := tb) (len := len) (k := en)
                      show X_T sc 141 (317, [(1, .int (iI (X_sg tb len at_))), (0, .ref 530)], [.int (iI (X_sg tb len en))], S761) _
                      refine T_cs xr_141_317 (by decide) xf_138.1 xn_138 (as := [.int (iI (X_sg tb len en))]) (r := []) rfl (Nat.le_of_ble_eq_true rfl) (Nat.le_of_ble_eq_true rfl) (pc' := 320) rfl (ls' := [(0, .int (iI (X_sg tb len en)))]) rfl ?_
                      refine T_mono (r_isDigit sc S761 (X_sg tb len en) (by omega)) (fun v770 S771 h772 => ?_)
                      rcases h772 with ⟨hv773, hf774⟩
                      rw [hv773]
                      rw [hf774]
                      show X_T sc 141 (320, [(1, .int (iI (X_sg tb len at_))), (0, .ref 530)], [.int (iI (bI (X_isD (X_sg tb len en))))], S761) _
                      refine T_bif_eq xr_141_320 (t := 373) (pc' := 323) rfl rfl (fun c775 => ?_) (fun c775 => ?_)
                      · skip
                        have c775 : ¬ (X_isD (X_sg tb len en)) := c775
                        have hm : X_se X_isD tb len at_ = en := hse.symm.trans (X_se_no (by intro h; exact absurd (X_sg_D.mpr h) (by assumption)))
                        have hnd : ¬ X_isD (X_sg tb len en) := by assumption
                        refine T_p xr_141_373 xn_141 (pc' := 374) (ls' := [(1, .int (iI (X_sg tb len at_))), (0, .ref 530)]) (st' := [.ref 530]) rfl ?_
                        refine T_p xr_141_374 xn_141 (pc' := 375) (ls' := [(1, .int (iI (X_sg tb len at_))), (0, .ref 530)]) (st' := [.ref 530, .ref 530]) rfl ?_
                        refine T_get xr_141_375 hM1 rfl (v := .int (iI en)) rfl (pc' := 378) rfl ?_
                        refine T_p xr_141_378 xn_141 (pc' := 379) (ls' := [(1, .int (iI (X_sg tb len at_))), (0, .ref 530)]) (st' := [.ref 530, .int (iI en), .ref 530]) rfl ?_
                        refine T_get xr_141_379 hM1 rfl (v := .int (iI at_)) rfl (pc' := 382) rfl ?_
                        refine T_zisub xr_141_382 (z := en - at_) rfl (pc' := 383) rfl ?_
                        refine T_put xr_141_383 hM1 rfl (Nat.le_of_ble_eq_true rfl) rfl (fs' := [.ref 531, .int (iI (o 1)), .ref 532, .int (iI (o 3)), .int (iI (o 4)), .int (iI (o 5)), .int (iI (o 6)), .int (iI at_), .int (iI en), .int (iI (o 9)), .int (iI nu), .int (iI (en - at_)), .long nm, .ref 533, .ref 534, .ref 535, .ref 536, .ref 537, .ref 538, .ref 539, .ref 540, .ref 541, .ref 542, .ref 543, .ref 544, .ref 545, .ref 546, .ref 547, .int (iI (o 28)), .int (iI (o 29)), .int (iI (o 30)), .int (iI (o 31)), .int (iI (o 32)), .int (iI (o 33)), .ref 548, .ref 549, .ref 550, .ref 551, .int (iI (o 38)), .ref 552, .ref 553, .ref 554, .ref 555, .ref 556, .ref 557, .ref 558, .ref 559, .ref 560, .ref 561, .int (iI (o 49)), .ref 562, .ref 563, .ref 564, .ref 565, .ref 566, .ref 567, .ref 568, .ref 569, .int (iI (o 58)), .ref 570, .ref 571, .ref 572, .ref 573, .ref 574, .ref 575, .ref 576, .ref 577, .ref 578, .int (iI (o 68)), .int (iI (o 69)), .int (iI (o 70)), .ref 579]) rfl (pc' := 386) rfl (fun S776 h777 n778 e779 => ?_)
                        refine T_p xr_141_386 xn_141 (pc' := 387) (ls' := [(1, .int (iI (X_sg tb len at_))), (0, .ref 530)]) (st' := [.ref 530]) rfl ?_
                        refine T_p xr_141_387 xn_141 (pc' := 388) (ls' := [(1, .int (iI (X_sg tb len at_))), (0, .ref 530)]) (st' := [.ref 530, .ref 530]) rfl ?_
                        refine T_get xr_141_388 h777 rfl (v := .int (iI (en - at_))) rfl (pc' := 391) rfl ?_
                        refine T_p xr_141_391 xn_141 (pc' := 393) (ls' := [(1, .int (iI (X_sg tb len at_))), (0, .ref 530)]) (st' := [.int (iI 9), .int (iI (en - at_)), .ref 530]) rfl ?_
                        refine T_zicmp_gt xr_141_393 (t := 410) (pc' := 396) rfl rfl (fun c780 => ?_) (fun c780 => ?_)
                        · skip
                          have c780 : 9 < (en - at_) := c780
                          refine T_p xr_141_410 xn_141 (pc' := 411) (ls' := [(1, .int (iI (X_sg tb len at_))), (0, .ref 530)]) (st' := [.int (iI 1), .ref 530]) rfl ?_
                          refine T_p xr_141_411 xn_141 (pc' := 415) (ls' := [(1, .int (iI (X_sg tb len at_))), (0, .ref 530)]) (st' := [.int (iI 1), .ref 530]) rfl ?_
                          refine T_put xr_141_415 h777 rfl (Nat.le_of_ble_eq_true rfl) rfl (fs' := [.ref 531, .int (iI (o 1)), .ref 532, .int (iI (o 3)), .int (iI (o 4)), .int (iI (o 5)), .int (iI (o 6)), .int (iI at_), .int (iI en), .int (iI 1), .int (iI nu), .int (iI (en - at_)), .long nm, .ref 533, .ref 534, .ref 535, .ref 536, .ref 537, .ref 538, .ref 539, .ref 540, .ref 541, .ref 542, .ref 543, .ref 544, .ref 545, .ref 546, .ref 547, .int (iI (o 28)), .int (iI (o 29)), .int (iI (o 30)), .int (iI (o 31)), .int (iI (o 32)), .int (iI (o 33)), .ref 548, .ref 549, .ref 550, .ref 551, .int (iI (o 38)), .ref 552, .ref 553, .ref 554, .ref 555, .ref 556, .ref 557, .ref 558, .ref 559, .ref 560, .ref 561, .int (iI (o 49)), .ref 562, .ref 563, .ref 564, .ref 565, .ref 566, .ref 567, .ref 568, .ref 569, .int (iI (o 58)), .ref 570, .ref 571, .ref 572, .ref 573, .ref 574, .ref 575, .ref 576, .ref 577, .ref 578, .int (iI (o 68)), .int (iI (o 69)), .int (iI (o 70)), .ref 579]) rfl (pc' := 418) rfl (fun S781 h782 n783 e784 => ?_)
                          refine T_p xr_141_418 xn_141 (pc' := 551) (ls' := [(1, .int (iI (X_sg tb len at_))), (0, .ref 530)]) (st' := []) rfl ?_
                          refine T_vret xr_141_551 xf_141.2.2 ?_
                          refine hQ _ _ ?_
                          exact ⟨at_, en, 1, nu, en - at_, nm, 1, 0, en, rfl, hp, (Or.inr (Or.inr (Or.inl ⟨(X_sg_D.mp hc0).2, hm.symm, Or.inl ⟨by first | exact Or.inl (by omega) | exact Or.inr (X_sg_L.mp (by assumption)).2, rfl, rfl⟩⟩))), rfl, fun h => absurd h (by omega), fun h => absurd h (by omega), fun h => absurd h (by omega), by first | assumption | omega, h782, ((((((((X_Fr.rf).tr (X_Fr.of n280 e281 (by omega))).tr (X_Fr.mono ⟨hF286.1, hF286.2⟩ (fun q hq => (by omega)))).tr (X_Fr.of n620 e621 (by omega))).tr (X_Fr.of n750 e751 (by omega))).tr (X_Fr.of n754 e755 (by omega))).tr (X_Fr.mono ⟨hF760.1, hF760.2⟩ (fun q hq => (by omega)))).tr (X_Fr.of n778 e779 (by omega))).tr (X_Fr.of n783 e784 (by omega))⟩
                        · skip
                          have c780 : ¬ (9 < (en - at_)) := c780
                          refine T_p xr_141_396 xn_141 (pc' := 397) (ls' := [(1, .int (iI (X_sg tb len at_))), (0, .ref 530)]) (st' := [.ref 530, .ref 530]) rfl ?_
                          refine T_p xr_141_397 xn_141 (pc' := 398) (ls' := [(1, .int (iI (X_sg tb len at_))), (0, .ref 530)]) (st' := [.ref 530, .ref 530, .ref 530]) rfl ?_
                          refine T_get xr_141_398 h777 rfl (v := .int (iI en)) rfl (pc' := 401) rfl ?_
                          refine T_cv (S := S776) (q := 530) xr_141_401 xf_136.1 xf_136.2.1 xn_136 (as := [.int (iI en)]) (r := [.ref 530]) rfl h777 (Nat.le_of_ble_eq_true rfl) (Nat.le_of_ble_eq_true rfl) (pc' := 404) rfl (ls' := [(0, .ref 530), (1, .int (iI en))]) rfl ?_
                          have h785 := (n778 532 (by decide)).trans (h762)
                          refine T_mono (r_sign sc S776 (X_ou (X_ou (X_ou (X_ou o 7 at_) 8 en) 10 nu) 11 (en - at_)) nm tx tb len en h777 h785 (show (o 3) = len from by first | assumption | omega) hl htx (by omega)) (fun v786 S787 h788 => ?_)
                          rcases h788 with ⟨hv789, hf790⟩
                          rw [hv789]
                          rw [hf790]
                          have hg791 := X_sg_r (tb := tb) (len := len) (k := en) (by omega)
                          have hg792 := X_sg_c (tb := tb) (len := len) (k := en)
                          show X_T sc 141 (404, [(1, .int (iI (X_sg tb len at_))), (0, .ref 530)], [.int (iI (X_sg tb len en)), .ref 530], S776) _
                          refine T_cs xr_141_404 (by decide) xf_137.1 xn_137 (as := [.int (iI (X_sg tb len en))]) (r := [.ref 530]) rfl (Nat.le_of_ble_eq_true rfl) (Nat.le_of_ble_eq_true rfl) (pc' := 407) rfl (ls' := [(0, .int (iI (X_sg tb len en)))]) rfl ?_
                          refine T_mono (r_isLetter sc S776 (X_sg tb len en) (by omega)) (fun v793 S794 h795 => ?_)
                          rcases h795 with ⟨hv796, hf797⟩
                          rw [hv796]
                          rw [hf797]
                          show X_T sc 141 (407, [(1, .int (iI (X_sg tb len at_))), (0, .ref 530)], [.int (iI (bI (X_isL (X_sg tb len en)))), .ref 530], S776) _
                          refine T_bif_eq xr_141_407 (t := 414) (pc' := 410) rfl rfl (fun c798 => ?_) (fun c798 => ?_)
                          · skip
                            have c798 : ¬ (X_isL (X_sg tb len en)) := c798
                            refine T_p xr_141_414 xn_141 (pc' := 415) (ls' := [(1, .int (iI (X_sg tb len at_))), (0, .ref 530)]) (st' := [.int (iI 4), .ref 530]) rfl ?_
                            refine T_put xr_141_415 h777 rfl (Nat.le_of_ble_eq_true rfl) rfl (fs' := [.ref 531, .int (iI (o 1)), .ref 532, .int (iI (o 3)), .int (iI (o 4)), .int (iI (o 5)), .int (iI (o 6)), .int (iI at_), .int (iI en), .int (iI 4), .int (iI nu), .int (iI (en - at_)), .long nm, .ref 533, .ref 534, .ref 535, .ref 536, .ref 537, .ref 538, .ref 539, .ref 540, .ref 541, .ref 542, .ref 543, .ref 544, .ref 545, .ref 546, .ref 547, .int (iI (o 28)), .int (iI (o 29)), .int (iI (o 30)), .int (iI (o 31)), .int (iI (o 32)), .int (iI (o 33)), .ref 548, .ref 549, .ref 550, .ref 551, .int (iI (o 38)), .ref 552, .ref 553, .ref 554, .ref 555, .ref 556, .ref 557, .ref 558, .ref 559, .ref 560, .ref 561, .int (iI (o 49)), .ref 562, .ref 563, .ref 564, .ref 565, .ref 566, .ref 567, .ref 568, .ref 569, .int (iI (o 58)), .ref 570, .ref 571, .ref 572, .ref 573, .ref 574, .ref 575, .ref 576, .ref 577, .ref 578, .int (iI (o 68)), .int (iI (o 69)), .int (iI (o 70)), .ref 579]) rfl (pc' := 418) rfl (fun S799 h800 n801 e802 => ?_)
                            refine T_p xr_141_418 xn_141 (pc' := 551) (ls' := [(1, .int (iI (X_sg tb len at_))), (0, .ref 530)]) (st' := []) rfl ?_
                            refine T_vret xr_141_551 xf_141.2.2 ?_
                            refine hQ _ _ ?_
                            have hne : ¬ en = at_ := fun e => by
                              rw [e] at hnd
                              exact hnd hc0
                            by_cases hd1 : en - at_ = 1
                            · skip
                              exact ⟨at_, en, 4, nu, en - at_, nm, 5, (iL nu), en, rfl, hp, (Or.inr (Or.inr (Or.inl ⟨(X_sg_D.mp hc0).2, hm.symm, Or.inr ⟨by omega, fun h => absurd (X_sg_L.mpr ⟨(by unfold X_isL at h; rcases X_sg_c (tb := tb) (len := len) (k := en) with z | z <;> omega), h⟩) (by assumption), by rw [hnu1 (by omega)], Or.inl ⟨hd1, rfl⟩⟩⟩))), rfl, fun _ => rfl, fun h => absurd h (by omega), fun _ => ⟨rfl, by exact ⟨fun _ => rfl, fun _ => hd1⟩, by omega, by omega⟩, (by omega), h800, ((((((((X_Fr.rf).tr (X_Fr.of n280 e281 (by omega))).tr (X_Fr.mono ⟨hF286.1, hF286.2⟩ (fun q hq => (by omega)))).tr (X_Fr.of n620 e621 (by omega))).tr (X_Fr.of n750 e751 (by omega))).tr (X_Fr.of n754 e755 (by omega))).tr (X_Fr.mono ⟨hF760.1, hF760.2⟩ (fun q hq => (by omega)))).tr (X_Fr.of n778 e779 (by omega))).tr (X_Fr.of n801 e802 (by omega))⟩
                            · skip
                              exact ⟨at_, en, 4, nu, en - at_, nm, 4, (iL nu), en, rfl, hp, (Or.inr (Or.inr (Or.inl ⟨(X_sg_D.mp hc0).2, hm.symm, Or.inr ⟨by omega, fun h => absurd (X_sg_L.mpr ⟨(by unfold X_isL at h; rcases X_sg_c (tb := tb) (len := len) (k := en) with z | z <;> omega), h⟩) (by assumption), by rw [hnu1 (by omega)], Or.inr ⟨hd1, rfl⟩⟩⟩))), rfl, fun _ => rfl, fun h => absurd h (by omega), fun _ => ⟨rfl, by exact ⟨fun h => absurd h hd1, fun h => absurd h (by omega)⟩, by omega, by omega⟩, (by omega), h800, ((((((((X_Fr.rf).tr (X_Fr.of n280 e281 (by omega))).tr (X_Fr.mono ⟨hF286.1, hF286.2⟩ (fun q hq => (by omega)))).tr (X_Fr.of n620 e621 (by omega))).tr (X_Fr.of n750 e751 (by omega))).tr (X_Fr.of n754 e755 (by omega))).tr (X_Fr.mono ⟨hF760.1, hF760.2⟩ (fun q hq => (by omega)))).tr (X_Fr.of n778 e779 (by omega))).tr (X_Fr.of n801 e802 (by omega))⟩
                          · skip
                            have c798 : (X_isL (X_sg tb len en)) := c798
                            refine T_p xr_141_410 xn_141 (pc' := 411) (ls' := [(1, .int (iI (X_sg tb len at_))), (0, .ref 530)]) (st' := [.int (iI 1), .ref 530]) rfl ?_
                            refine T_p xr_141_411 xn_141 (pc' := 415) (ls' := [(1, .int (iI (X_sg tb len at_))), (0, .ref 530)]) (st' := [.int (iI 1), .ref 530]) rfl ?_
                            refine T_put xr_141_415 h777 rfl (Nat.le_of_ble_eq_true rfl) rfl (fs' := [.ref 531, .int (iI (o 1)), .ref 532, .int (iI (o 3)), .int (iI (o 4)), .int (iI (o 5)), .int (iI (o 6)), .int (iI at_), .int (iI en), .int (iI 1), .int (iI nu), .int (iI (en - at_)), .long nm, .ref 533, .ref 534, .ref 535, .ref 536, .ref 537, .ref 538, .ref 539, .ref 540, .ref 541, .ref 542, .ref 543, .ref 544, .ref 545, .ref 546, .ref 547, .int (iI (o 28)), .int (iI (o 29)), .int (iI (o 30)), .int (iI (o 31)), .int (iI (o 32)), .int (iI (o 33)), .ref 548, .ref 549, .ref 550, .ref 551, .int (iI (o 38)), .ref 552, .ref 553, .ref 554, .ref 555, .ref 556, .ref 557, .ref 558, .ref 559, .ref 560, .ref 561, .int (iI (o 49)), .ref 562, .ref 563, .ref 564, .ref 565, .ref 566, .ref 567, .ref 568, .ref 569, .int (iI (o 58)), .ref 570, .ref 571, .ref 572, .ref 573, .ref 574, .ref 575, .ref 576, .ref 577, .ref 578, .int (iI (o 68)), .int (iI (o 69)), .int (iI (o 70)), .ref 579]) rfl (pc' := 418) rfl (fun S803 h804 n805 e806 => ?_)
                            refine T_p xr_141_418 xn_141 (pc' := 551) (ls' := [(1, .int (iI (X_sg tb len at_))), (0, .ref 530)]) (st' := []) rfl ?_
                            refine T_vret xr_141_551 xf_141.2.2 ?_
                            refine hQ _ _ ?_
                            exact ⟨at_, en, 1, nu, en - at_, nm, 1, 0, en, rfl, hp, (Or.inr (Or.inr (Or.inl ⟨(X_sg_D.mp hc0).2, hm.symm, Or.inl ⟨by first | exact Or.inl (by omega) | exact Or.inr (X_sg_L.mp (by assumption)).2, rfl, rfl⟩⟩))), rfl, fun h => absurd h (by omega), fun h => absurd h (by omega), fun h => absurd h (by omega), by first | assumption | omega, h804, ((((((((X_Fr.rf).tr (X_Fr.of n280 e281 (by omega))).tr (X_Fr.mono ⟨hF286.1, hF286.2⟩ (fun q hq => (by omega)))).tr (X_Fr.of n620 e621 (by omega))).tr (X_Fr.of n750 e751 (by omega))).tr (X_Fr.of n754 e755 (by omega))).tr (X_Fr.mono ⟨hF760.1, hF760.2⟩ (fun q hq => (by omega)))).tr (X_Fr.of n778 e779 (by omega))).tr (X_Fr.of n805 e806 (by omega))⟩
                      · skip
                        have c775 : (X_isD (X_sg tb len en)) := c775
                        have hlt : en < len := by first | exact (X_sg_L.mp (by assumption)).1 | exact (X_sg_D.mp (by assumption)).1
                        refine T_p xr_141_323 xn_141 (pc' := 324) (ls' := [(1, .int (iI (X_sg tb len at_))), (0, .ref 530)]) (st' := [.ref 530]) rfl ?_
                        refine T_get xr_141_324 hM1 rfl (v := .int (iI en)) rfl (pc' := 327) rfl ?_
                        refine T_p xr_141_327 xn_141 (pc' := 328) (ls' := [(1, .int (iI (X_sg tb len at_))), (0, .ref 530)]) (st' := [.ref 530, .int (iI en)]) rfl ?_
                        refine T_get xr_141_328 hM1 rfl (v := .int (iI at_)) rfl (pc' := 331) rfl ?_
                        refine T_zisub xr_141_331 (z := en - at_) rfl (pc' := 332) rfl ?_
                        refine T_p xr_141_332 xn_141 (pc' := 334) (ls' := [(1, .int (iI (X_sg tb len at_))), (0, .ref 530)]) (st' := [.int (iI 9), .int (iI (en - at_))]) rfl ?_
                        refine T_zicmp_ge xr_141_334 (t := 360) (pc' := 337) rfl rfl (fun c807 => ?_) (fun c807 => ?_)
                        · skip
                          have c807 : 9 ≤ (en - at_) := c807
                          refine T_p xr_141_360 xn_141 (pc' := 361) (ls' := [(1, .int (iI (X_sg tb len at_))), (0, .ref 530)]) (st' := [.ref 530]) rfl ?_
                          refine T_p xr_141_361 xn_141 (pc' := 362) (ls' := [(1, .int (iI (X_sg tb len at_))), (0, .ref 530)]) (st' := [.ref 530, .ref 530]) rfl ?_
                          refine T_get xr_141_362 hM1 rfl (v := .int (iI en)) rfl (pc' := 365) rfl ?_
                          refine T_p xr_141_365 xn_141 (pc' := 366) (ls' := [(1, .int (iI (X_sg tb len at_))), (0, .ref 530)]) (st' := [.int (iI 1), .int (iI en), .ref 530]) rfl ?_
                          refine T_ziadd xr_141_366 (z := en + 1) rfl (pc' := 367) rfl ?_
                          refine T_put xr_141_367 hM1 rfl (Nat.le_of_ble_eq_true rfl) rfl (fs' := [.ref 531, .int (iI (o 1)), .ref 532, .int (iI (o 3)), .int (iI (o 4)), .int (iI (o 5)), .int (iI (o 6)), .int (iI at_), .int (iI (en + 1)), .int (iI (o 9)), .int (iI nu), .int (iI (o 11)), .long nm, .ref 533, .ref 534, .ref 535, .ref 536, .ref 537, .ref 538, .ref 539, .ref 540, .ref 541, .ref 542, .ref 543, .ref 544, .ref 545, .ref 546, .ref 547, .int (iI (o 28)), .int (iI (o 29)), .int (iI (o 30)), .int (iI (o 31)), .int (iI (o 32)), .int (iI (o 33)), .ref 548, .ref 549, .ref 550, .ref 551, .int (iI (o 38)), .ref 552, .ref 553, .ref 554, .ref 555, .ref 556, .ref 557, .ref 558, .ref 559, .ref 560, .ref 561, .int (iI (o 49)), .ref 562, .ref 563, .ref 564, .ref 565, .ref 566, .ref 567, .ref 568, .ref 569, .int (iI (o 58)), .ref 570, .ref 571, .ref 572, .ref 573, .ref 574, .ref 575, .ref 576, .ref 577, .ref 578, .int (iI (o 68)), .int (iI (o 69)), .int (iI (o 70)), .ref 579]) rfl (pc' := 370) rfl (fun S808 h809 n810 e811 => ?_)
                          refine T_p xr_141_370 xn_141 (pc' := 309) (ls' := [(1, .int (iI (X_sg tb len at_))), (0, .ref 530)]) (st' := []) rfl ?_
                          exact ih757 S808 (en + 1) nu h809 (hF760.tr ((X_Fr.rf).tr (X_Fr.of n810 e811 (by omega)))) (by omega) ((X_se_go (by omega) (X_sg_D.mp (by assumption)).2).symm.trans hse) (fun h => by first | rfl | omega) (by omega) (fun k g1 g2 => by
                                by_cases hk : k = en
                                · subst hk; exact (X_sg_D.mp (by assumption)).2
                                · exact hD k g1 (by omega)) (by omega)
                        · skip
                          have c807 : ¬ (9 ≤ (en - at_)) := c807
                          refine T_p xr_141_337 xn_141 (pc' := 338) (ls' := [(1, .int (iI (X_sg tb len at_))), (0, .ref 530)]) (st' := [.ref 530]) rfl ?_
                          refine T_p xr_141_338 xn_141 (pc' := 340) (ls' := [(1, .int (iI (X_sg tb len at_))), (0, .ref 530)]) (st' := [.int (iI 10), .ref 530]) rfl ?_
                          refine T_p xr_141_340 xn_141 (pc' := 341) (ls' := [(1, .int (iI (X_sg tb len at_))), (0, .ref 530)]) (st' := [.ref 530, .int (iI 10), .ref 530]) rfl ?_
                          refine T_get xr_141_341 hM1 rfl (v := .int (iI nu)) rfl (pc' := 344) rfl ?_
                          refine T_zimul xr_141_344 (z := 10 * nu) rfl (pc' := 345) rfl ?_
                          refine T_p xr_141_345 xn_141 (pc' := 346) (ls' := [(1, .int (iI (X_sg tb len at_))), (0, .ref 530)]) (st' := [.ref 530, .int (iI (10 * nu)), .ref 530]) rfl ?_
                          refine T_p xr_141_346 xn_141 (pc' := 347) (ls' := [(1, .int (iI (X_sg tb len at_))), (0, .ref 530)]) (st' := [.ref 530, .ref 530, .int (iI (10 * nu)), .ref 530]) rfl ?_
                          refine T_get xr_141_347 hM1 rfl (v := .int (iI en)) rfl (pc' := 350) rfl ?_
                          refine T_cv (S := S761) (q := 530) xr_141_350 xf_136.1 xf_136.2.1 xn_136 (as := [.int (iI en)]) (r := [.int (iI (10 * nu)), .ref 530]) rfl hM1 (Nat.le_of_ble_eq_true rfl) (Nat.le_of_ble_eq_true rfl) (pc' := 353) rfl (ls' := [(0, .ref 530), (1, .int (iI en))]) rfl ?_
                          refine T_mono (r_sign sc S761 (X_ou (X_ou (X_ou o 7 at_) 8 en) 10 nu) nm tx tb len en hM1 h762 (show (o 3) = len from by first | assumption | omega) hl htx (by omega)) (fun v812 S813 h814 => ?_)
                          rcases h814 with ⟨hv815, hf816⟩
                          rw [hv815]
                          rw [hf816]
                          have hg817 := X_sg_r (tb := tb) (len := len) (k := en) (by omega)
                          have hg818 := X_sg_c (tb := tb) (len := len) (k := en)
                          show X_T sc 141 (353, [(1, .int (iI (X_sg tb len at_))), (0, .ref 530)], [.int (iI (X_sg tb len en)), .int (iI (10 * nu)), .ref 530], S761) _
                          refine T_ziadd xr_141_353 (z := (10 * nu) + (X_sg tb len en)) rfl (pc' := 354) rfl ?_
                          refine T_p xr_141_354 xn_141 (pc' := 356) (ls' := [(1, .int (iI (X_sg tb len at_))), (0, .ref 530)]) (st' := [.int (iI 48), .int (iI ((10 * nu) + (X_sg tb len en))), .ref 530]) rfl ?_
                          refine T_zisub xr_141_356 (z := ((10 * nu) + (X_sg tb len en)) - 48) rfl (pc' := 357) rfl ?_
                          refine T_ie (y := iI (X_dv tb len at_ (en + 1 - at_).toNat)) (by rw [hnu1 (by omega), show (en + 1 - at_).toNat = (en - at_).toNat + 1 by omega]; show _ = iI (X_dv tb len at_ (en - at_).toNat * 10 + X_at tb len (at_ + ((en - at_).toNat : Int)) - 48); rw [show at_ + ((en - at_).toNat : Int) = en by omega]; congr 1; omega) ?_
                          have hd9 := X_dv_9 (tb := tb) (len := len) (p := at_) (en + 1 - at_).toNat (by omega) (fun i g1 g2 => by
                            by_cases hi : at_ + i = en
                            · rw [hi]; exact (X_sg_D.mp (by assumption)).2
                            · exact hD _ (by omega) (by omega))
                          refine T_put xr_141_357 hM1 rfl (Nat.le_of_ble_eq_true rfl) rfl (fs' := [.ref 531, .int (iI (o 1)), .ref 532, .int (iI (o 3)), .int (iI (o 4)), .int (iI (o 5)), .int (iI (o 6)), .int (iI at_), .int (iI en), .int (iI (o 9)), .int (iI (X_dv tb len at_ (en + 1 - at_).toNat)), .int (iI (o 11)), .long nm, .ref 533, .ref 534, .ref 535, .ref 536, .ref 537, .ref 538, .ref 539, .ref 540, .ref 541, .ref 542, .ref 543, .ref 544, .ref 545, .ref 546, .ref 547, .int (iI (o 28)), .int (iI (o 29)), .int (iI (o 30)), .int (iI (o 31)), .int (iI (o 32)), .int (iI (o 33)), .ref 548, .ref 549, .ref 550, .ref 551, .int (iI (o 38)), .ref 552, .ref 553, .ref 554, .ref 555, .ref 556, .ref 557, .ref 558, .ref 559, .ref 560, .ref 561, .int (iI (o 49)), .ref 562, .ref 563, .ref 564, .ref 565, .ref 566, .ref 567, .ref 568, .ref 569, .int (iI (o 58)), .ref 570, .ref 571, .ref 572, .ref 573, .ref 574, .ref 575, .ref 576, .ref 577, .ref 578, .int (iI (o 68)), .int (iI (o 69)), .int (iI (o 70)), .ref 579]) rfl (pc' := 360) rfl (fun S819 h820 n821 e822 => ?_)
                          refine T_p xr_141_360 xn_141 (pc' := 361) (ls' := [(1, .int (iI (X_sg tb len at_))), (0, .ref 530)]) (st' := [.ref 530]) rfl ?_
                          refine T_p xr_141_361 xn_141 (pc' := 362) (ls' := [(1, .int (iI (X_sg tb len at_))), (0, .ref 530)]) (st' := [.ref 530, .ref 530]) rfl ?_
                          refine T_get xr_141_362 h820 rfl (v := .int (iI en)) rfl (pc' := 365) rfl ?_
                          refine T_p xr_141_365 xn_141 (pc' := 366) (ls' := [(1, .int (iI (X_sg tb len at_))), (0, .ref 530)]) (st' := [.int (iI 1), .int (iI en), .ref 530]) rfl ?_
                          refine T_ziadd xr_141_366 (z := en + 1) rfl (pc' := 367) rfl ?_
                          refine T_put xr_141_367 h820 rfl (Nat.le_of_ble_eq_true rfl) rfl (fs' := [.ref 531, .int (iI (o 1)), .ref 532, .int (iI (o 3)), .int (iI (o 4)), .int (iI (o 5)), .int (iI (o 6)), .int (iI at_), .int (iI (en + 1)), .int (iI (o 9)), .int (iI (X_dv tb len at_ (en + 1 - at_).toNat)), .int (iI (o 11)), .long nm, .ref 533, .ref 534, .ref 535, .ref 536, .ref 537, .ref 538, .ref 539, .ref 540, .ref 541, .ref 542, .ref 543, .ref 544, .ref 545, .ref 546, .ref 547, .int (iI (o 28)), .int (iI (o 29)), .int (iI (o 30)), .int (iI (o 31)), .int (iI (o 32)), .int (iI (o 33)), .ref 548, .ref 549, .ref 550, .ref 551, .int (iI (o 38)), .ref 552, .ref 553, .ref 554, .ref 555, .ref 556, .ref 557, .ref 558, .ref 559, .ref 560, .ref 561, .int (iI (o 49)), .ref 562, .ref 563, .ref 564, .ref 565, .ref 566, .ref 567, .ref 568, .ref 569, .int (iI (o 58)), .ref 570, .ref 571, .ref 572, .ref 573, .ref 574, .ref 575, .ref 576, .ref 577, .ref 578, .int (iI (o 68)), .int (iI (o 69)), .int (iI (o 70)), .ref 579]) rfl (pc' := 370) rfl (fun S823 h824 n825 e826 => ?_)
                          refine T_p xr_141_370 xn_141 (pc' := 309) (ls' := [(1, .int (iI (X_sg tb len at_))), (0, .ref 530)]) (st' := []) rfl ?_
                          exact ih757 S823 (en + 1) (X_dv tb len at_ (en + 1 - at_).toNat) h824 (hF760.tr (((X_Fr.rf).tr (X_Fr.of n821 e822 (by omega))).tr (X_Fr.of n825 e826 (by omega)))) (by omega) ((X_se_go (by omega) (X_sg_D.mp (by assumption)).2).symm.trans hse) (fun h => by first | rfl | omega) (by omega) (fun k g1 g2 => by
                                by_cases hk : k = en
                                · subst hk; exact (X_sg_D.mp (by assumption)).2
                                · exact hD k g1 (by omega)) (by omega)
                  exact L756 (len + 1).toNat S752 at_ 0 h753 ((X_Fr.rf)) (by omega) rfl (fun _ => by rw [show (at_ - at_).toNat = 0 by omega]; rfl) (by omega) (fun k g1 g2 => absurd g2 (by omega)) (by omega)
              · skip
                have c628 : (X_isL (X_sg tb len at_)) := c628
                have L827 : ∀ (m829 : Nat) (S832 : X_S) (en : Int) (hM1 : S832.1 530 = .inr (11, [.ref 531, .int (iI (o 1)), .ref 532, .int (iI (o 3)), .int (iI (o 4)), .int (iI (o 5)), .int (iI (o 6)), .int (iI at_), .int (iI en), .int (iI (o 9)), .int (iI (o 10)), .int (iI (o 11)), .long nm, .ref 533, .ref 534, .ref 535, .ref 536, .ref 537, .ref 538, .ref 539, .ref 540, .ref 541, .ref 542, .ref 543, .ref 544, .ref 545, .ref 546, .ref 547, .int (iI (o 28)), .int (iI (o 29)), .int (iI (o 30)), .int (iI (o 31)), .int (iI (o 32)), .int (iI (o 33)), .ref 548, .ref 549, .ref 550, .ref 551, .int (iI (o 38)), .ref 552, .ref 553, .ref 554, .ref 555, .ref 556, .ref 557, .ref 558, .ref 559, .ref 560, .ref 561, .int (iI (o 49)), .ref 562, .ref 563, .ref 564, .ref 565, .ref 566, .ref 567, .ref 568, .ref 569, .int (iI (o 58)), .ref 570, .ref 571, .ref 572, .ref 573, .ref 574, .ref 575, .ref 576, .ref 577, .ref 578, .int (iI (o 68)), .int (iI (o 69)), .int (iI (o 70)), .ref 579])) (hF831 : X_Fr (fun q => q = 530) S618 S832) (hen : at_ + 1 ≤ en ∧ en ≤ len) (hse : X_se X_isLD tb len en = X_se X_isLD tb len (at_ + 1)) (hm830 : len - en < m829), X_T sc 141 (119, [(1, .int (iI (X_sg tb len at_))), (0, .ref 530)], [], S832) Q := by
                  intro m829
                  induction m829 with
                  | zero =>
                    intro S832 en hM1 hF831 hen hse hm830
                    exact (show False by omega).elim
                  | succ m829 ih828 =>
                    intro S832 en hM1 hF831 hen hse hm830
                    refine T_p xr_141_119 xn_141 (pc' := 120) (ls' := [(1, .int (iI (X_sg tb len at_))), (0, .ref 530)]) (st' := [.ref 530]) rfl ?_
                    refine T_p xr_141_120 xn_141 (pc' := 121) (ls' := [(1, .int (iI (X_sg tb len at_))), (0, .ref 530)]) (st' := [.ref 530, .ref 530]) rfl ?_
                    refine T_get xr_141_121 hM1 rfl (v := .int (iI en)) rfl (pc' := 124) rfl ?_
                    refine T_cv (S := S832) (q := 530) xr_141_124 xf_136.1 xf_136.2.1 xn_136 (as := [.int (iI en)]) (r := []) rfl hM1 (Nat.le_of_ble_eq_true rfl) (Nat.le_of_ble_eq_true rfl) (pc' := 127) rfl (ls' := [(0, .ref 530), (1, .int (iI en))]) rfl ?_
                    have h833 := (hF831.1 532 (by omega)).trans ((n620 532 (by decide)).trans (h590))
                    refine T_mono (r_sign sc S832 (X_ou (X_ou o 7 at_) 8 en) nm tx tb len en hM1 h833 (show (o 3) = len from by first | assumption | omega) hl htx (by omega)) (fun v834 S835 h836 => ?_)
                    rcases h836 with ⟨hv837, hf838⟩
                    rw [hv837]
                    rw [hf838]
                    have hg839 := X_sg_r (tb := tb) (len := len) (k := en) (by omega)
                    have hg840 := X_sg_c (tb := tb) (len := len) (k := en)
                    show X_T sc 141 (127, [(1, .int (iI (X_sg tb len at_))), (0, .ref 530)], [.int (iI (X_sg tb len en))], S832) _
                    refine T_cs xr_141_127 (by decide) xf_137.1 xn_137 (as := [.int (iI (X_sg tb len en))]) (r := []) rfl (Nat.le_of_ble_eq_true rfl) (Nat.le_of_ble_eq_true rfl) (pc' := 130) rfl (ls' := [(0, .int (iI (X_sg tb len en)))]) rfl ?_
                    refine T_mono (r_isLetter sc S832 (X_sg tb len en) (by omega)) (fun v841 S842 h843 => ?_)
                    rcases h843 with ⟨hv844, hf845⟩
                    rw [hv844]
                    rw [hf845]
                    show X_T sc 141 (130, [(1, .int (iI (X_sg tb len at_))), (0, .ref 530)], [.int (iI (bI (X_isL (X_sg tb len en))))], S832) _
                    refine T_bif_ne xr_141_130 (t := 147) (pc' := 133) rfl rfl (fun c846 => ?_) (fun c846 => ?_)
                    · skip
                      have c846 : (X_isL (X_sg tb len en)) := c846
                      have hlt : en < len := by first | exact (X_sg_L.mp (by assumption)).1 | exact (X_sg_D.mp (by assumption)).1
                      refine T_p xr_141_147 xn_141 (pc' := 148) (ls' := [(1, .int (iI (X_sg tb len at_))), (0, .ref 530)]) (st' := [.ref 530]) rfl ?_
                      refine T_p xr_141_148 xn_141 (pc' := 149) (ls' := [(1, .int (iI (X_sg tb len at_))), (0, .ref 530)]) (st' := [.ref 530, .ref 530]) rfl ?_
                      refine T_get xr_141_149 hM1 rfl (v := .int (iI en)) rfl (pc' := 152) rfl ?_
                      refine T_p xr_141_152 xn_141 (pc' := 153) (ls' := [(1, .int (iI (X_sg tb len at_))), (0, .ref 530)]) (st' := [.int (iI 1), .int (iI en), .ref 530]) rfl ?_
                      refine T_ziadd xr_141_153 (z := en + 1) rfl (pc' := 154) rfl ?_
                      refine T_put xr_141_154 hM1 rfl (Nat.le_of_ble_eq_true rfl) rfl (fs' := [.ref 531, .int (iI (o 1)), .ref 532, .int (iI (o 3)), .int (iI (o 4)), .int (iI (o 5)), .int (iI (o 6)), .int (iI at_), .int (iI (en + 1)), .int (iI (o 9)), .int (iI (o 10)), .int (iI (o 11)), .long nm, .ref 533, .ref 534, .ref 535, .ref 536, .ref 537, .ref 538, .ref 539, .ref 540, .ref 541, .ref 542, .ref 543, .ref 544, .ref 545, .ref 546, .ref 547, .int (iI (o 28)), .int (iI (o 29)), .int (iI (o 30)), .int (iI (o 31)), .int (iI (o 32)), .int (iI (o 33)), .ref 548, .ref 549, .ref 550, .ref 551, .int (iI (o 38)), .ref 552, .ref 553, .ref 554, .ref 555, .ref 556, .ref 557, .ref 558, .ref 559, .ref 560, .ref 561, .int (iI (o 49)), .ref 562, .ref 563, .ref 564, .ref 565, .ref 566, .ref 567, .ref 568, .ref 569, .int (iI (o 58)), .ref 570, .ref 571, .ref 572, .ref 573, .ref 574, .ref 575, .ref 576, .ref 577, .ref 578, .int (iI (o 68)), .int (iI (o 69)), .int (iI (o 70)), .ref 579]) rfl (pc' := 157) rfl (fun S847 h848 n849 e850 => ?_)
                      refine T_p xr_141_157 xn_141 (pc' := 119) (ls' := [(1, .int (iI (X_sg tb len at_))), (0, .ref 530)]) (st' := []) rfl ?_
                      exact ih828 S847 (en + 1) h848 (hF831.tr ((X_Fr.rf).tr (X_Fr.of n849 e850 (by omega)))) (by omega) ((X_se_go (by omega) (by first | exact Or.inl (X_sg_L.mp (by assumption)).2 | exact Or.inr (X_sg_D.mp (by assumption)).2)).symm.trans hse) (by omega)
                    · skip
                      have c846 : ¬ (X_isL (X_sg tb len en)) := c846
                      refine T_p xr_141_133 xn_141 (pc' := 134) (ls' := [(1, .int (iI (X_sg tb len at_))), (0, .ref 530)]) (st' := [.ref 530]) rfl ?_
                      refine T_p xr_141_134 xn_141 (pc' := 135) (ls' := [(1, .int (iI (X_sg tb len at_))), (0, .ref 530)]) (st' := [.ref 530, .ref 530]) rfl ?_
                      refine T_get xr_141_135 hM1 rfl (v := .int (iI en)) rfl (pc' := 138) rfl ?_
                      refine T_cv (S := S832) (q := 530) xr_141_138 xf_136.1 xf_136.2.1 xn_136 (as := [.int (iI en)]) (r := []) rfl hM1 (Nat.le_of_ble_eq_true rfl) (Nat.le_of_ble_eq_true rfl) (pc' := 141) rfl (ls' := [(0, .ref 530), (1, .int (iI en))]) rfl ?_
                      refine T_mono (r_sign sc S832 (X_ou (X_ou o 7 at_) 8 en) nm tx tb len en hM1 h833 (show (o 3) = len from by first | assumption | omega) hl htx (by omega)) (fun v851 S852 h853 => ?_)
                      rcases h853 with ⟨hv854, hf855⟩
                      rw [hv854]
                      rw [hf855]
                      have hg856 := X_sg_r (tb := tb) (len := len) (k := en) (by omega)
                      have hg857 := X_sg_c (tb := tb) (len := len) (k := en)
                      show X_T sc 141 (141, [(1, .int (iI (X_sg tb len at_))), (0, .ref 530)], [.int (iI (X_sg tb len en))], S832) _
                      refine T_cs xr_141_141 (by decide) xf_138.1 xn_138 (as := [.int (iI (X_sg tb len en))]) (r := []) rfl (Nat.le_of_ble_eq_true rfl) (Nat.le_of_ble_eq_true rfl) (pc' := 144) rfl (ls' := [(0, .int (iI (X_sg tb len en)))]) rfl ?_
                      refine T_mono (r_isDigit sc S832 (X_sg tb len en) (by omega)) (fun v858 S859 h860 => ?_)
                      rcases h860 with ⟨hv861, hf862⟩
                      rw [hv861]
                      rw [hf862]
                      show X_T sc 141 (144, [(1, .int (iI (X_sg tb len at_))), (0, .ref 530)], [.int (iI (bI (X_isD (X_sg tb len en))))], S832) _
                      refine T_bif_eq xr_141_144 (t := 160) (pc' := 147) rfl rfl (fun c863 => ?_) (fun c863 => ?_)
                      · skip
                        have c863 : ¬ (X_isD (X_sg tb len en)) := c863
                        have hm : X_se X_isLD tb len at_ = en := (X_se_go (by omega) (Or.inl (X_sg_L.mp (by assumption)).2)).trans (hse.symm.trans (X_se_no (by first | (intro h; omega) | (intro h; exact absurd h.2 (X_sg_n (by assumption) (by assumption))))))
                        refine T_p xr_141_160 xn_141 (pc' := 161) (ls' := [(1, .int (iI (X_sg tb len at_))), (0, .ref 530)]) (st' := [.ref 530]) rfl ?_
                        refine T_p xr_141_161 xn_141 (pc' := 162) (ls' := [(1, .int (iI (X_sg tb len at_))), (0, .ref 530)]) (st' := [.ref 530, .ref 530]) rfl ?_
                        refine T_get xr_141_162 hM1 rfl (v := .int (iI at_)) rfl (pc' := 165) rfl ?_
                        refine T_p xr_141_165 xn_141 (pc' := 166) (ls' := [(1, .int (iI (X_sg tb len at_))), (0, .ref 530)]) (st' := [.ref 530, .int (iI at_), .ref 530]) rfl ?_
                        refine T_get xr_141_166 hM1 rfl (v := .int (iI en)) rfl (pc' := 169) rfl ?_
                        refine T_cv (S := S832) (q := 530) xr_141_169 xf_142.1 xf_142.2.1 xn_142 (as := [.int (iI at_), .int (iI en)]) (r := []) rfl hM1 (Nat.le_of_ble_eq_true rfl) (Nat.le_of_ble_eq_true rfl) (pc' := 172) rfl (ls' := [(0, .ref 530), (1, .int (iI at_)), (2, .int (iI en))]) rfl ?_
                        refine T_mono (r_pack sc S832 (X_ou (X_ou o 7 at_) 8 en) nm tx tb len at_ en hM1 h833 (show (o 3) = len from by first | assumption | omega) hl htx (by omega) (by omega)) (fun v864 S865 h866 => ?_)
                        rcases h866 with ⟨nm867, hv868, hp869, hM870, hf871⟩
                        rw [hv868]
                        have h872 : S865.1 530 = .inr (11, [.ref 531, .int (iI (o 1)), .ref 532, .int (iI (o 3)), .int (iI (o 4)), .int (iI (o 5)), .int (iI (o 6)), .int (iI at_), .int (iI en), .int (iI (o 9)), .int (iI (o 10)), .int (iI (o 11)), .long nm867, .ref 533, .ref 534, .ref 535, .ref 536, .ref 537, .ref 538, .ref 539, .ref 540, .ref 541, .ref 542, .ref 543, .ref 544, .ref 545, .ref 546, .ref 547, .int (iI (o 28)), .int (iI (o 29)), .int (iI (o 30)), .int (iI (o 31)), .int (iI (o 32)), .int (iI (o 33)), .ref 548, .ref 549, .ref 550, .ref 551, .int (iI (o 38)), .ref 552, .ref 553, .ref 554, .ref 555, .ref 556, .ref 557, .ref 558, .ref 559, .ref 560, .ref 561, .int (iI (o 49)), .ref 562, .ref 563, .ref 564, .ref 565, .ref 566, .ref 567, .ref 568, .ref 569, .int (iI (o 58)), .ref 570, .ref 571, .ref 572, .ref 573, .ref 574, .ref 575, .ref 576, .ref 577, .ref 578, .int (iI (o 68)), .int (iI (o 69)), .int (iI (o 70)), .ref 579]) := hM870
                        show X_T sc 141 (172, [(1, .int (iI (X_sg tb len at_))), (0, .ref 530)], [], S865) _
                        have J873 : X_T sc 141 (254, [(1, .int (iI (X_sg tb len at_))), (0, .ref 530)], [.int (iI (bI (X_res nm867)))], S865) Q := by
                          refine T_p xr_141_254 xn_141 (pc' := 255) (ls' := [(2, .int (iI (bI (X_res nm867)))), (1, .int (iI (X_sg tb len at_))), (0, .ref 530)]) (st' := []) rfl ?_
                          refine T_p xr_141_255 xn_141 (pc' := 256) (ls' := [(2, .int (iI (bI (X_res nm867)))), (1, .int (iI (X_sg tb len at_))), (0, .ref 530)]) (st' := [.ref 530]) rfl ?_
                          refine T_p xr_141_256 xn_141 (pc' := 257) (ls' := [(2, .int (iI (bI (X_res nm867)))), (1, .int (iI (X_sg tb len at_))), (0, .ref 530)]) (st' := [.ref 530, .ref 530]) rfl ?_
                          refine T_get xr_141_257 h872 rfl (v := .int (iI en)) rfl (pc' := 260) rfl ?_
                          refine T_p xr_141_260 xn_141 (pc' := 261) (ls' := [(2, .int (iI (bI (X_res nm867)))), (1, .int (iI (X_sg tb len at_))), (0, .ref 530)]) (st' := [.ref 530, .int (iI en), .ref 530]) rfl ?_
                          refine T_get xr_141_261 h872 rfl (v := .int (iI at_)) rfl (pc' := 264) rfl ?_
                          refine T_zisub xr_141_264 (z := en - at_) rfl (pc' := 265) rfl ?_
                          refine T_p xr_141_265 xn_141 (pc' := 267) (ls' := [(2, .int (iI (bI (X_res nm867)))), (1, .int (iI (X_sg tb len at_))), (0, .ref 530)]) (st' := [.int (iI 8), .int (iI (en - at_)), .ref 530]) rfl ?_
                          refine T_zicmp_le xr_141_267 (t := 274) (pc' := 270) rfl rfl (fun c874 => ?_) (fun c874 => ?_)
                          · skip
                            have c874 : (en - at_) ≤ 8 := c874
                            refine T_p xr_141_274 xn_141 (pc' := 275) (ls' := [(2, .int (iI (bI (X_res nm867)))), (1, .int (iI (X_sg tb len at_))), (0, .ref 530)]) (st' := [.int (iI (bI (X_res nm867))), .ref 530]) rfl ?_
                            refine T_bif_eq xr_141_275 (t := 282) (pc' := 278) rfl rfl (fun c875 => ?_) (fun c875 => ?_)
                            · skip
                              have c875 : ¬ (X_res nm867) := c875
                              refine T_p xr_141_282 xn_141 (pc' := 283) (ls' := [(2, .int (iI (bI (X_res nm867)))), (1, .int (iI (X_sg tb len at_))), (0, .ref 530)]) (st' := [.int (iI 2), .ref 530]) rfl ?_
                              refine T_put xr_141_283 h872 rfl (Nat.le_of_ble_eq_true rfl) rfl (fs' := [.ref 531, .int (iI (o 1)), .ref 532, .int (iI (o 3)), .int (iI (o 4)), .int (iI (o 5)), .int (iI (o 6)), .int (iI at_), .int (iI en), .int (iI 2), .int (iI (o 10)), .int (iI (o 11)), .long nm867, .ref 533, .ref 534, .ref 535, .ref 536, .ref 537, .ref 538, .ref 539, .ref 540, .ref 541, .ref 542, .ref 543, .ref 544, .ref 545, .ref 546, .ref 547, .int (iI (o 28)), .int (iI (o 29)), .int (iI (o 30)), .int (iI (o 31)), .int (iI (o 32)), .int (iI (o 33)), .ref 548, .ref 549, .ref 550, .ref 551, .int (iI (o 38)), .ref 552, .ref 553, .ref 554, .ref 555, .ref 556, .ref 557, .ref 558, .ref 559, .ref 560, .ref 561, .int (iI (o 49)), .ref 562, .ref 563, .ref 564, .ref 565, .ref 566, .ref 567, .ref 568, .ref 569, .int (iI (o 58)), .ref 570, .ref 571, .ref 572, .ref 573, .ref 574, .ref 575, .ref 576, .ref 577, .ref 578, .int (iI (o 68)), .int (iI (o 69)), .int (iI (o 70)), .ref 579]) rfl (pc' := 286) rfl (fun S876 h877 n878 e879 => ?_)
                              refine T_p xr_141_286 xn_141 (pc' := 551) (ls' := [(2, .int (iI (bI (X_res nm867)))), (1, .int (iI (X_sg tb len at_))), (0, .ref 530)]) (st' := []) rfl ?_
                              refine T_vret xr_141_551 xf_141.2.2 ?_
                              refine hQ _ _ ?_
                              exact ⟨at_, en, 2, o 10, o 11, nm867, 2, nm867, en, rfl, hp, (Or.inr (Or.inl ⟨(X_sg_L.mp (by assumption)).2, hm.symm, Or.inr ⟨by omega, hp869 (by omega), Or.inr ⟨by assumption, rfl⟩⟩⟩)), rfl, (fun _ => rfl), (fun _ => rfl), fun h => absurd h (by omega), by first | assumption | omega, h877, ((((((X_Fr.rf).tr (X_Fr.of n280 e281 (by omega))).tr (X_Fr.mono ⟨hF286.1, hF286.2⟩ (fun q hq => (by omega)))).tr (X_Fr.of n620 e621 (by omega))).tr (X_Fr.mono ⟨hF831.1, hF831.2⟩ (fun q hq => (by omega)))).tr (X_Fr.mono ⟨hf871.1, hf871.2⟩ (fun q hq => (by omega)))).tr (X_Fr.of n878 e879 (by omega))⟩
                            · skip
                              have c875 : (X_res nm867) := c875
                              refine T_p xr_141_278 xn_141 (pc' := 279) (ls' := [(2, .int (iI (bI (X_res nm867)))), (1, .int (iI (X_sg tb len at_))), (0, .ref 530)]) (st' := [.int (iI 3), .ref 530]) rfl ?_
                              refine T_p xr_141_279 xn_141 (pc' := 283) (ls' := [(2, .int (iI (bI (X_res nm867)))), (1, .int (iI (X_sg tb len at_))), (0, .ref 530)]) (st' := [.int (iI 3), .ref 530]) rfl ?_
                              refine T_put xr_141_283 h872 rfl (Nat.le_of_ble_eq_true rfl) rfl (fs' := [.ref 531, .int (iI (o 1)), .ref 532, .int (iI (o 3)), .int (iI (o 4)), .int (iI (o 5)), .int (iI (o 6)), .int (iI at_), .int (iI en), .int (iI 3), .int (iI (o 10)), .int (iI (o 11)), .long nm867, .ref 533, .ref 534, .ref 535, .ref 536, .ref 537, .ref 538, .ref 539, .ref 540, .ref 541, .ref 542, .ref 543, .ref 544, .ref 545, .ref 546, .ref 547, .int (iI (o 28)), .int (iI (o 29)), .int (iI (o 30)), .int (iI (o 31)), .int (iI (o 32)), .int (iI (o 33)), .ref 548, .ref 549, .ref 550, .ref 551, .int (iI (o 38)), .ref 552, .ref 553, .ref 554, .ref 555, .ref 556, .ref 557, .ref 558, .ref 559, .ref 560, .ref 561, .int (iI (o 49)), .ref 562, .ref 563, .ref 564, .ref 565, .ref 566, .ref 567, .ref 568, .ref 569, .int (iI (o 58)), .ref 570, .ref 571, .ref 572, .ref 573, .ref 574, .ref 575, .ref 576, .ref 577, .ref 578, .int (iI (o 68)), .int (iI (o 69)), .int (iI (o 70)), .ref 579]) rfl (pc' := 286) rfl (fun S880 h881 n882 e883 => ?_)
                              refine T_p xr_141_286 xn_141 (pc' := 551) (ls' := [(2, .int (iI (bI (X_res nm867)))), (1, .int (iI (X_sg tb len at_))), (0, .ref 530)]) (st' := []) rfl ?_
                              refine T_vret xr_141_551 xf_141.2.2 ?_
                              refine hQ _ _ ?_
                              exact ⟨at_, en, 3, o 10, o 11, nm867, 3, nm867, en, rfl, hp, (Or.inr (Or.inl ⟨(X_sg_L.mp (by assumption)).2, hm.symm, Or.inr ⟨by omega, hp869 (by omega), Or.inl ⟨by assumption, rfl⟩⟩⟩)), rfl, (fun _ => rfl), (fun _ => rfl), fun h => absurd h (by omega), by first | assumption | omega, h881, ((((((X_Fr.rf).tr (X_Fr.of n280 e281 (by omega))).tr (X_Fr.mono ⟨hF286.1, hF286.2⟩ (fun q hq => (by omega)))).tr (X_Fr.of n620 e621 (by omega))).tr (X_Fr.mono ⟨hF831.1, hF831.2⟩ (fun q hq => (by omega)))).tr (X_Fr.mono ⟨hf871.1, hf871.2⟩ (fun q hq => (by omega)))).tr (X_Fr.of n882 e883 (by omega))⟩
                          · skip
                            have c874 : ¬ ((en - at_) ≤ 8) := c874
                            refine T_p xr_141_270 xn_141 (pc' := 271) (ls' := [(2, .int (iI (bI (X_res nm867)))), (1, .int (iI (X_sg tb len at_))), (0, .ref 530)]) (st' := [.int (iI 1), .ref 530]) rfl ?_
                            refine T_p xr_141_271 xn_141 (pc' := 283) (ls' := [(2, .int (iI (bI (X_res nm867)))), (1, .int (iI (X_sg tb len at_))), (0, .ref 530)]) (st' := [.int (iI 1), .ref 530]) rfl ?_
                            refine T_put xr_141_283 h872 rfl (Nat.le_of_ble_eq_true rfl) rfl (fs' := [.ref 531, .int (iI (o 1)), .ref 532, .int (iI (o 3)), .int (iI (o 4)), .int (iI (o 5)), .int (iI (o 6)), .int (iI at_), .int (iI en), .int (iI 1), .int (iI (o 10)), .int (iI (o 11)), .long nm867, .ref 533, .ref 534, .ref 535, .ref 536, .ref 537, .ref 538, .ref 539, .ref 540, .ref 541, .ref 542, .ref 543, .ref 544, .ref 545, .ref 546, .ref 547, .int (iI (o 28)), .int (iI (o 29)), .int (iI (o 30)), .int (iI (o 31)), .int (iI (o 32)), .int (iI (o 33)), .ref 548, .ref 549, .ref 550, .ref 551, .int (iI (o 38)), .ref 552, .ref 553, .ref 554, .ref 555, .ref 556, .ref 557, .ref 558, .ref 559, .ref 560, .ref 561, .int (iI (o 49)), .ref 562, .ref 563, .ref 564, .ref 565, .ref 566, .ref 567, .ref 568, .ref 569, .int (iI (o 58)), .ref 570, .ref 571, .ref 572, .ref 573, .ref 574, .ref 575, .ref 576, .ref 577, .ref 578, .int (iI (o 68)), .int (iI (o 69)), .int (iI (o 70)), .ref 579]) rfl (pc' := 286) rfl (fun S884 h885 n886 e887 => ?_)
                            refine T_p xr_141_286 xn_141 (pc' := 551) (ls' := [(2, .int (iI (bI (X_res nm867)))), (1, .int (iI (X_sg tb len at_))), (0, .ref 530)]) (st' := []) rfl ?_
                            refine T_vret xr_141_551 xf_141.2.2 ?_
                            refine hQ _ _ ?_
                            exact ⟨at_, en, 1, o 10, o 11, nm867, 1, 0, en, rfl, hp, (Or.inr (Or.inl ⟨(X_sg_L.mp (by assumption)).2, hm.symm, Or.inl ⟨by omega, rfl, rfl⟩⟩)), rfl, (fun _ => rfl), fun h => absurd h (by omega), fun h => absurd h (by omega), by first | assumption | omega, h885, ((((((X_Fr.rf).tr (X_Fr.of n280 e281 (by omega))).tr (X_Fr.mono ⟨hF286.1, hF286.2⟩ (fun q hq => (by omega)))).tr (X_Fr.of n620 e621 (by omega))).tr (X_Fr.mono ⟨hF831.1, hF831.2⟩ (fun q hq => (by omega)))).tr (X_Fr.mono ⟨hf871.1, hf871.2⟩ (fun q hq => (by omega)))).tr (X_Fr.of n886 e887 (by omega))⟩
                        refine T_p xr_141_172 xn_141 (pc' := 173) (ls' := [(1, .int (iI (X_sg tb len at_))), (0, .ref 530)]) (st' := [.ref 530]) rfl ?_
                        refine T_get xr_141_173 h872 rfl (v := .long nm867) rfl (pc' := 176) rfl ?_
                        refine T_p xr_141_176 xn_141 (pc' := 179) (ls' := [(1, .int (iI (X_sg tb len at_))), (0, .ref 530)]) (st' := [.long (Int64.ofNat 1918987883), .long nm867]) rfl ?_
                        refine T_lc_eq xr_141_179 xr_141_180 (t := 249) (pc' := 183) rfl rfl (fun c888 => ?_) (fun c888 => ?_)
                        · skip
                          have c888 : nm867 = (Int64.ofNat 1918987883) := c888
                          refine T_p xr_141_249 xn_141 (pc' := 250) (ls' := [(1, .int (iI (X_sg tb len at_))), (0, .ref 530)]) (st' := [.int (iI 1)]) rfl ?_
                          refine T_p xr_141_250 xn_141 (pc' := 254) (ls' := [(1, .int (iI (X_sg tb len at_))), (0, .ref 530)]) (st' := [.int (iI 1)]) rfl ?_
                          refine T_ie (y := iI (bI (X_res nm867))) (by rw [bI_t (by unfold X_res; first | (left; assumption) | (left; exact Classical.not_not.mp (by assumption)) | (right; left; assumption) | (right; left; exact Classical.not_not.mp (by assumption)) | (right; right; left; assumption) | (right; right; left; exact Classical.not_not.mp (by assumption)) | (right; right; right; left; assumption) | (right; right; right; left; exact Classical.not_not.mp (by assumption)) | (right; right; right; right; left; assumption) | (right; right; right; right; left; exact Classical.not_not.mp (by assumption)) | (right; right; right; right; right; left; assumption) | (right; right; right; right; right; left; exact Classical.not_not.mp (by assumption)) | (right; right; right; right; right; right; assumption) | (right; right; right; right; right; right; exact Classical.not_not.mp (by assumption)))]) ?_
                          exact J873
                        · skip
                          have c888 : ¬ (nm867 = (Int64.ofNat 1918987883)) := c888
                          refine T_p xr_141_183 xn_141 (pc' := 184) (ls' := [(1, .int (iI (X_sg tb len at_))), (0, .ref 530)]) (st' := [.ref 530]) rfl ?_
                          refine T_get xr_141_184 h872 rfl (v := .long nm867) rfl (pc' := 187) rfl ?_
                          refine T_p xr_141_187 xn_141 (pc' := 190) (ls' := [(1, .int (iI (X_sg tb len at_))), (0, .ref 530)]) (st' := [.long (Int64.ofNat 32766990153442674), .long nm867]) rfl ?_
                          refine T_lc_eq xr_141_190 xr_141_191 (t := 249) (pc' := 194) rfl rfl (fun c889 => ?_) (fun c889 => ?_)
                          · skip
                            have c889 : nm867 = (Int64.ofNat 32766990153442674) := c889
                            refine T_p xr_141_249 xn_141 (pc' := 250) (ls' := [(1, .int (iI (X_sg tb len at_))), (0, .ref 530)]) (st' := [.int (iI 1)]) rfl ?_
                            refine T_p xr_141_250 xn_141 (pc' := 254) (ls' := [(1, .int (iI (X_sg tb len at_))), (0, .ref 530)]) (st' := [.int (iI 1)]) rfl ?_
                            refine T_ie (y := iI (bI (X_res nm867))) (by rw [bI_t (by unfold X_res; first | (left; assumption) | (left; exact Classical.not_not.mp (by assumption)) | (right; left; assumption) | (right; left; exact Classical.not_not.mp (by assumption)) | (right; right; left; assumption) | (right; right; left; exact Classical.not_not.mp (by assumption)) | (right; right; right; left; assumption) | (right; right; right; left; exact Classical.not_not.mp (by assumption)) | (right; right; right; right; left; assumption) | (right; right; right; right; left; exact Classical.not_not.mp (by assumption)) | (right; right; right; right; right; left; assumption) | (right; right; right; right; right; left; exact Classical.not_not.mp (by assumption)) | (right; right; right; right; right; right; assumption) | (right; right; right; right; right; right; exact Classical.not_not.mp (by assumption)))]) ?_
                            exact J873
                          · skip
                            have c889 : ¬ (nm867 = (Int64.ofNat 32766990153442674)) := c889
                            refine T_p xr_141_194 xn_141 (pc' := 195) (ls' := [(1, .int (iI (X_sg tb len at_))), (0, .ref 530)]) (st' := [.ref 530]) rfl ?_
                            refine T_get xr_141_195 h872 rfl (v := .long nm867) rfl (pc' := 198) rfl ?_
                            refine T_p xr_141_198 xn_141 (pc' := 201) (ls' := [(1, .int (iI (X_sg tb len at_))), (0, .ref 530)]) (st' := [.long (Int64.ofNat 1802071652), .long nm867]) rfl ?_
                            refine T_lc_eq xr_141_201 xr_141_202 (t := 249) (pc' := 205) rfl rfl (fun c890 => ?_) (fun c890 => ?_)
                            · skip
                              have c890 : nm867 = (Int64.ofNat 1802071652) := c890
                              refine T_p xr_141_249 xn_141 (pc' := 250) (ls' := [(1, .int (iI (X_sg tb len at_))), (0, .ref 530)]) (st' := [.int (iI 1)]) rfl ?_
                              refine T_p xr_141_250 xn_141 (pc' := 254) (ls' := [(1, .int (iI (X_sg tb len at_))), (0, .ref 530)]) (st' := [.int (iI 1)]) rfl ?_
                              refine T_ie (y := iI (bI (X_res nm867))) (by rw [bI_t (by unfold X_res; first | (left; assumption) | (left; exact Classical.not_not.mp (by assumption)) | (right; left; assumption) | (right; left; exact Classical.not_not.mp (by assumption)) | (right; right; left; assumption) | (right; right; left; exact Classical.not_not.mp (by assumption)) | (right; right; right; left; assumption) | (right; right; right; left; exact Classical.not_not.mp (by assumption)) | (right; right; right; right; left; assumption) | (right; right; right; right; left; exact Classical.not_not.mp (by assumption)) | (right; right; right; right; right; left; assumption) | (right; right; right; right; right; left; exact Classical.not_not.mp (by assumption)) | (right; right; right; right; right; right; assumption) | (right; right; right; right; right; right; exact Classical.not_not.mp (by assumption)))]) ?_
                              exact J873
                            · skip
                              have c890 : ¬ (nm867 = (Int64.ofNat 1802071652)) := c890
                              refine T_p xr_141_205 xn_141 (pc' := 206) (ls' := [(1, .int (iI (X_sg tb len at_))), (0, .ref 530)]) (st' := [.ref 530]) rfl ?_
                              refine T_get xr_141_206 h872 rfl (v := .long nm867) rfl (pc' := 209) rfl ?_
                              refine T_p xr_141_209 xn_141 (pc' := 212) (ls' := [(1, .int (iI (X_sg tb len at_))), (0, .ref 530)]) (st' := [.long (Int64.ofNat 504363246962), .long nm867]) rfl ?_
                              refine T_lc_eq xr_141_212 xr_141_213 (t := 249) (pc' := 216) rfl rfl (fun c891 => ?_) (fun c891 => ?_)
                              · skip
                                have c891 : nm867 = (Int64.ofNat 504363246962) := c891
                                refine T_p xr_141_249 xn_141 (pc' := 250) (ls' := [(1, .int (iI (X_sg tb len at_))), (0, .ref 530)]) (st' := [.int (iI 1)]) rfl ?_
                                refine T_p xr_141_250 xn_141 (pc' := 254) (ls' := [(1, .int (iI (X_sg tb len at_))), (0, .ref 530)]) (st' := [.int (iI 1)]) rfl ?_
                                refine T_ie (y := iI (bI (X_res nm867))) (by rw [bI_t (by unfold X_res; first | (left; assumption) | (left; exact Classical.not_not.mp (by assumption)) | (right; left; assumption) | (right; left; exact Classical.not_not.mp (by assumption)) | (right; right; left; assumption) | (right; right; left; exact Classical.not_not.mp (by assumption)) | (right; right; right; left; assumption) | (right; right; right; left; exact Classical.not_not.mp (by assumption)) | (right; right; right; right; left; assumption) | (right; right; right; right; left; exact Classical.not_not.mp (by assumption)) | (right; right; right; right; right; left; assumption) | (right; right; right; right; right; left; exact Classical.not_not.mp (by assumption)) | (right; right; right; right; right; right; assumption) | (right; right; right; right; right; right; exact Classical.not_not.mp (by assumption)))]) ?_
                                exact J873
                              · skip
                                have c891 : ¬ (nm867 = (Int64.ofNat 504363246962)) := c891
                                refine T_p xr_141_216 xn_141 (pc' := 217) (ls' := [(1, .int (iI (X_sg tb len at_))), (0, .ref 530)]) (st' := [.ref 530]) rfl ?_
                                refine T_get xr_141_217 h872 rfl (v := .long nm867) rfl (pc' := 220) rfl ?_
                                refine T_p xr_141_220 xn_141 (pc' := 223) (ls' := [(1, .int (iI (X_sg tb len at_))), (0, .ref 530)]) (st' := [.long (Int64.ofNat 2003792484), .long nm867]) rfl ?_
                                refine T_lc_eq xr_141_223 xr_141_224 (t := 249) (pc' := 227) rfl rfl (fun c892 => ?_) (fun c892 => ?_)
                                · skip
                                  have c892 : nm867 = (Int64.ofNat 2003792484) := c892
                                  refine T_p xr_141_249 xn_141 (pc' := 250) (ls' := [(1, .int (iI (X_sg tb len at_))), (0, .ref 530)]) (st' := [.int (iI 1)]) rfl ?_
                                  refine T_p xr_141_250 xn_141 (pc' := 254) (ls' := [(1, .int (iI (X_sg tb len at_))), (0, .ref 530)]) (st' := [.int (iI 1)]) rfl ?_
                                  refine T_ie (y := iI (bI (X_res nm867))) (by rw [bI_t (by unfold X_res; first | (left; assumption) | (left; exact Classical.not_not.mp (by assumption)) | (right; left; assumption) | (right; left; exact Classical.not_not.mp (by assumption)) | (right; right; left; assumption) | (right; right; left; exact Classical.not_not.mp (by assumption)) | (right; right; right; left; assumption) | (right; right; right; left; exact Classical.not_not.mp (by assumption)) | (right; right; right; right; left; assumption) | (right; right; right; right; left; exact Classical.not_not.mp (by assumption)) | (right; right; right; right; right; left; assumption) | (right; right; right; right; right; left; exact Classical.not_not.mp (by assumption)) | (right; right; right; right; right; right; assumption) | (right; right; right; right; right; right; exact Classical.not_not.mp (by assumption)))]) ?_
                                  exact J873
                                · skip
                                  have c892 : ¬ (nm867 = (Int64.ofNat 2003792484)) := c892
                                  refine T_p xr_141_227 xn_141 (pc' := 228) (ls' := [(1, .int (iI (X_sg tb len at_))), (0, .ref 530)]) (st' := [.ref 530]) rfl ?_
                                  refine T_get xr_141_228 h872 rfl (v := .long nm867) rfl (pc' := 231) rfl ?_
                                  refine T_p xr_141_231 xn_141 (pc' := 234) (ls' := [(1, .int (iI (X_sg tb len at_))), (0, .ref 530)]) (st' := [.long (Int64.ofNat 1818584692), .long nm867]) rfl ?_
                                  refine T_lc_eq xr_141_234 xr_141_235 (t := 249) (pc' := 238) rfl rfl (fun c893 => ?_) (fun c893 => ?_)
                                  · skip
                                    have c893 : nm867 = (Int64.ofNat 1818584692) := c893
                                    refine T_p xr_141_249 xn_141 (pc' := 250) (ls' := [(1, .int (iI (X_sg tb len at_))), (0, .ref 530)]) (st' := [.int (iI 1)]) rfl ?_
                                    refine T_p xr_141_250 xn_141 (pc' := 254) (ls' := [(1, .int (iI (X_sg tb len at_))), (0, .ref 530)]) (st' := [.int (iI 1)]) rfl ?_
                                    refine T_ie (y := iI (bI (X_res nm867))) (by rw [bI_t (by unfold X_res; first | (left; assumption) | (left; exact Classical.not_not.mp (by assumption)) | (right; left; assumption) | (right; left; exact Classical.not_not.mp (by assumption)) | (right; right; left; assumption) | (right; right; left; exact Classical.not_not.mp (by assumption)) | (right; right; right; left; assumption) | (right; right; right; left; exact Classical.not_not.mp (by assumption)) | (right; right; right; right; left; assumption) | (right; right; right; right; left; exact Classical.not_not.mp (by assumption)) | (right; right; right; right; right; left; assumption) | (right; right; right; right; right; left; exact Classical.not_not.mp (by assumption)) | (right; right; right; right; right; right; assumption) | (right; right; right; right; right; right; exact Classical.not_not.mp (by assumption)))]) ?_
                                    exact J873
                                  · skip
                                    have c893 : ¬ (nm867 = (Int64.ofNat 1818584692)) := c893
                                    refine T_p xr_141_238 xn_141 (pc' := 239) (ls' := [(1, .int (iI (X_sg tb len at_))), (0, .ref 530)]) (st' := [.ref 530]) rfl ?_
                                    refine T_get xr_141_239 h872 rfl (v := .long nm867) rfl (pc' := 242) rfl ?_
                                    refine T_p xr_141_242 xn_141 (pc' := 245) (ls' := [(1, .int (iI (X_sg tb len at_))), (0, .ref 530)]) (st' := [.long (Int64.ofNat 491394656372), .long nm867]) rfl ?_
                                    refine T_lc_ne xr_141_245 xr_141_246 (t := 253) (pc' := 249) rfl rfl (fun c894 => ?_) (fun c894 => ?_)
                                    · skip
                                      have c894 : ¬ nm867 = (Int64.ofNat 491394656372) := c894
                                      refine T_p xr_141_253 xn_141 (pc' := 254) (ls' := [(1, .int (iI (X_sg tb len at_))), (0, .ref 530)]) (st' := [.int (iI 0)]) rfl ?_
                                      refine T_ie (y := iI (bI (X_res nm867))) (by rw [bI_f (by unfold X_res; rintro (h | h | h | h | h | h | h) <;> contradiction)]) ?_
                                      exact J873
                                    · skip
                                      have c894 : ¬ (¬ nm867 = (Int64.ofNat 491394656372)) := c894
                                      refine T_p xr_141_249 xn_141 (pc' := 250) (ls' := [(1, .int (iI (X_sg tb len at_))), (0, .ref 530)]) (st' := [.int (iI 1)]) rfl ?_
                                      refine T_p xr_141_250 xn_141 (pc' := 254) (ls' := [(1, .int (iI (X_sg tb len at_))), (0, .ref 530)]) (st' := [.int (iI 1)]) rfl ?_
                                      refine T_ie (y := iI (bI (X_res nm867))) (by rw [bI_t (by unfold X_res; first | (left; assumption) | (left; exact Classical.not_not.mp (by assumption)) | (right; left; assumption) | (right; left; exact Classical.not_not.mp (by assumption)) | (right; right; left; assumption) | (right; right; left; exact Classical.not_not.mp (by assumption)) | (right; right; right; left; assumption) | (right; right; right; left; exact Classical.not_not.mp (by assumption)) | (right; right; right; right; left; assumption) | (right; right; right; right; left; exact Classical.not_not.mp (by assumption)) | (right; right; right; right; right; left; assumption) | (right; right; right; right; right; left; exact Classical.not_not.mp (by assumption)) | (right; right; right; right; right; right; assumption) | (right; right; right; right; right; right; exact Classical.not_not.mp (by assumption)))]) ?_
                                      exact J873
                      · skip
                        have c863 : (X_isD (X_sg tb len en)) := c863
                        have hlt : en < len := by first | exact (X_sg_L.mp (by assumption)).1 | exact (X_sg_D.mp (by assumption)).1
                        refine T_p xr_141_147 xn_141 (pc' := 148) (ls' := [(1, .int (iI (X_sg tb len at_))), (0, .ref 530)]) (st' := [.ref 530]) rfl ?_
                        refine T_p xr_141_148 xn_141 (pc' := 149) (ls' := [(1, .int (iI (X_sg tb len at_))), (0, .ref 530)]) (st' := [.ref 530, .ref 530]) rfl ?_
                        refine T_get xr_141_149 hM1 rfl (v := .int (iI en)) rfl (pc' := 152) rfl ?_
                        refine T_p xr_141_152 xn_141 (pc' := 153) (ls' := [(1, .int (iI (X_sg tb len at_))), (0, .ref 530)]) (st' := [.int (iI 1), .int (iI en), .ref 530]) rfl ?_
                        refine T_ziadd xr_141_153 (z := en + 1) rfl (pc' := 154) rfl ?_
                        refine T_put xr_141_154 hM1 rfl (Nat.le_of_ble_eq_true rfl) rfl (fs' := [.ref 531, .int (iI (o 1)), .ref 532, .int (iI (o 3)), .int (iI (o 4)), .int (iI (o 5)), .int (iI (o 6)), .int (iI at_), .int (iI (en + 1)), .int (iI (o 9)), .int (iI (o 10)), .int (iI (o 11)), .long nm, .ref 533, .ref 534, .ref 535, .ref 536, .ref 537, .ref 538, .ref 539, .ref 540, .ref 541, .ref 542, .ref 543, .ref 544, .ref 545, .ref 546, .ref 547, .int (iI (o 28)), .int (iI (o 29)), .int (iI (o 30)), .int (iI (o 31)), .int (iI (o 32)), .int (iI (o 33)), .ref 548, .ref 549, .ref 550, .ref 551, .int (iI (o 38)), .ref 552, .ref 553, .ref 554, .ref 555, .ref 556, .ref 557, .ref 558, .ref 559, .ref 560, .ref 561, .int (iI (o 49)), .ref 562, .ref 563, .ref 564, .ref 565, .ref 566, .ref 567, .ref 568, .ref 569, .int (iI (o 58)), .ref 570, .ref 571, .ref 572, .ref 573, .ref 574, .ref 575, .ref 576, .ref 577, .ref 578, .int (iI (o 68)), .int (iI (o 69)), .int (iI (o 70)), .ref 579]) rfl (pc' := 157) rfl (fun S895 h896 n897 e898 => ?_)
                        refine T_p xr_141_157 xn_141 (pc' := 119) (ls' := [(1, .int (iI (X_sg tb len at_))), (0, .ref 530)]) (st' := []) rfl ?_
                        exact ih828 S895 (en + 1) h896 (hF831.tr ((X_Fr.rf).tr (X_Fr.of n897 e898 (by omega)))) (by omega) ((X_se_go (by omega) (by first | exact Or.inl (X_sg_L.mp (by assumption)).2 | exact Or.inr (X_sg_D.mp (by assumption)).2)).symm.trans hse) (by omega)
                exact L827 (len + 1).toNat S618 (at_ + 1) h619 ((X_Fr.rf)) (by omega) rfl (by omega)
            · skip
              have c622 : ¬ (at_ < (o 3)) := c622
              refine T_p xr_141_88 xn_141 (pc' := 89) (ls' := [(1, .int (iI (X_sg tb len at_))), (0, .ref 530)]) (st' := [.ref 530]) rfl ?_
              refine T_p xr_141_89 xn_141 (pc' := 90) (ls' := [(1, .int (iI (X_sg tb len at_))), (0, .ref 530)]) (st' := [.int (iI 0), .ref 530]) rfl ?_
              refine T_put xr_141_90 h619 rfl (Nat.le_of_ble_eq_true rfl) rfl (fs' := [.ref 531, .int (iI (o 1)), .ref 532, .int (iI (o 3)), .int (iI (o 4)), .int (iI (o 5)), .int (iI (o 6)), .int (iI at_), .int (iI (at_ + 1)), .int (iI 0), .int (iI (o 10)), .int (iI (o 11)), .long nm, .ref 533, .ref 534, .ref 535, .ref 536, .ref 537, .ref 538, .ref 539, .ref 540, .ref 541, .ref 542, .ref 543, .ref 544, .ref 545, .ref 546, .ref 547, .int (iI (o 28)), .int (iI (o 29)), .int (iI (o 30)), .int (iI (o 31)), .int (iI (o 32)), .int (iI (o 33)), .ref 548, .ref 549, .ref 550, .ref 551, .int (iI (o 38)), .ref 552, .ref 553, .ref 554, .ref 555, .ref 556, .ref 557, .ref 558, .ref 559, .ref 560, .ref 561, .int (iI (o 49)), .ref 562, .ref 563, .ref 564, .ref 565, .ref 566, .ref 567, .ref 568, .ref 569, .int (iI (o 58)), .ref 570, .ref 571, .ref 572, .ref 573, .ref 574, .ref 575, .ref 576, .ref 577, .ref 578, .int (iI (o 68)), .int (iI (o 69)), .int (iI (o 70)), .ref 579]) rfl (pc' := 93) rfl (fun S899 h900 n901 e902 => ?_)
              refine T_p xr_141_93 xn_141 (pc' := 94) (ls' := [(1, .int (iI (X_sg tb len at_))), (0, .ref 530)]) (st' := [.ref 530]) rfl ?_
              refine T_p xr_141_94 xn_141 (pc' := 95) (ls' := [(1, .int (iI (X_sg tb len at_))), (0, .ref 530)]) (st' := [.ref 530, .ref 530]) rfl ?_
              refine T_get xr_141_95 h900 rfl (v := .int (iI (o 3))) rfl (pc' := 98) rfl ?_
              refine T_put xr_141_98 h900 rfl (Nat.le_of_ble_eq_true rfl) rfl (fs' := [.ref 531, .int (iI (o 1)), .ref 532, .int (iI (o 3)), .int (iI (o 4)), .int (iI (o 5)), .int (iI (o 6)), .int (iI (o 3)), .int (iI (at_ + 1)), .int (iI 0), .int (iI (o 10)), .int (iI (o 11)), .long nm, .ref 533, .ref 534, .ref 535, .ref 536, .ref 537, .ref 538, .ref 539, .ref 540, .ref 541, .ref 542, .ref 543, .ref 544, .ref 545, .ref 546, .ref 547, .int (iI (o 28)), .int (iI (o 29)), .int (iI (o 30)), .int (iI (o 31)), .int (iI (o 32)), .int (iI (o 33)), .ref 548, .ref 549, .ref 550, .ref 551, .int (iI (o 38)), .ref 552, .ref 553, .ref 554, .ref 555, .ref 556, .ref 557, .ref 558, .ref 559, .ref 560, .ref 561, .int (iI (o 49)), .ref 562, .ref 563, .ref 564, .ref 565, .ref 566, .ref 567, .ref 568, .ref 569, .int (iI (o 58)), .ref 570, .ref 571, .ref 572, .ref 573, .ref 574, .ref 575, .ref 576, .ref 577, .ref 578, .int (iI (o 68)), .int (iI (o 69)), .int (iI (o 70)), .ref 579]) rfl (pc' := 101) rfl (fun S903 h904 n905 e906 => ?_)
              refine T_p xr_141_101 xn_141 (pc' := 102) (ls' := [(1, .int (iI (X_sg tb len at_))), (0, .ref 530)]) (st' := [.ref 530]) rfl ?_
              refine T_p xr_141_102 xn_141 (pc' := 103) (ls' := [(1, .int (iI (X_sg tb len at_))), (0, .ref 530)]) (st' := [.ref 530, .ref 530]) rfl ?_
              refine T_get xr_141_103 h904 rfl (v := .int (iI (o 3))) rfl (pc' := 106) rfl ?_
              refine T_put xr_141_106 h904 rfl (Nat.le_of_ble_eq_true rfl) rfl (fs' := [.ref 531, .int (iI (o 1)), .ref 532, .int (iI (o 3)), .int (iI (o 4)), .int (iI (o 5)), .int (iI (o 6)), .int (iI (o 3)), .int (iI (o 3)), .int (iI 0), .int (iI (o 10)), .int (iI (o 11)), .long nm, .ref 533, .ref 534, .ref 535, .ref 536, .ref 537, .ref 538, .ref 539, .ref 540, .ref 541, .ref 542, .ref 543, .ref 544, .ref 545, .ref 546, .ref 547, .int (iI (o 28)), .int (iI (o 29)), .int (iI (o 30)), .int (iI (o 31)), .int (iI (o 32)), .int (iI (o 33)), .ref 548, .ref 549, .ref 550, .ref 551, .int (iI (o 38)), .ref 552, .ref 553, .ref 554, .ref 555, .ref 556, .ref 557, .ref 558, .ref 559, .ref 560, .ref 561, .int (iI (o 49)), .ref 562, .ref 563, .ref 564, .ref 565, .ref 566, .ref 567, .ref 568, .ref 569, .int (iI (o 58)), .ref 570, .ref 571, .ref 572, .ref 573, .ref 574, .ref 575, .ref 576, .ref 577, .ref 578, .int (iI (o 68)), .int (iI (o 69)), .int (iI (o 70)), .ref 579]) rfl (pc' := 109) rfl (fun S907 h908 n909 e910 => ?_)
              refine T_p xr_141_109 xn_141 (pc' := 551) (ls' := [(1, .int (iI (X_sg tb len at_))), (0, .ref 530)]) (st' := []) rfl ?_
              refine T_vret xr_141_551 xf_141.2.2 ?_
              refine hQ _ _ ?_
              exact ⟨o 3, o 3, 0, o 10, o 11, nm, 0, 0, len, rfl, (by omega), (Or.inl ⟨X_at_out (by omega), rfl, rfl, by omega⟩), rfl, (fun _ => by omega), fun h => absurd h (by omega), fun h => absurd h (by omega), by first | assumption | omega, h908, ((((((X_Fr.rf).tr (X_Fr.of n280 e281 (by omega))).tr (X_Fr.mono ⟨hF286.1, hF286.2⟩ (fun q hq => (by omega)))).tr (X_Fr.of n620 e621 (by omega))).tr (X_Fr.of n901 e902 (by omega))).tr (X_Fr.of n905 e906 (by omega))).tr (X_Fr.of n909 e910 (by omega))⟩
          · skip
            have c610 : ¬ (¬ (X_sg tb len at_) = 10) := c610
            refine T_p xr_141_45 xn_141 (pc' := 46) (ls' := [(0, .ref 530)]) (st' := [.ref 530]) rfl ?_
            refine T_p xr_141_46 xn_141 (pc' := 47) (ls' := [(0, .ref 530)]) (st' := [.ref 530, .ref 530]) rfl ?_
            refine T_get xr_141_47 hM1 rfl (v := .int (iI at_)) rfl (pc' := 50) rfl ?_
            refine T_p xr_141_50 xn_141 (pc' := 51) (ls' := [(0, .ref 530)]) (st' := [.int (iI 1), .int (iI at_), .ref 530]) rfl ?_
            refine T_ziadd xr_141_51 (z := at_ + 1) rfl (pc' := 52) rfl ?_
            refine T_put xr_141_52 hM1 rfl (Nat.le_of_ble_eq_true rfl) rfl (fs' := [.ref 531, .int (iI (o 1)), .ref 532, .int (iI (o 3)), .int (iI (o 4)), .int (iI (o 5)), .int (iI (o 6)), .int (iI (at_ + 1)), .int (iI (o 8)), .int (iI (o 9)), .int (iI (o 10)), .int (iI (o 11)), .long nm, .ref 533, .ref 534, .ref 535, .ref 536, .ref 537, .ref 538, .ref 539, .ref 540, .ref 541, .ref 542, .ref 543, .ref 544, .ref 545, .ref 546, .ref 547, .int (iI (o 28)), .int (iI (o 29)), .int (iI (o 30)), .int (iI (o 31)), .int (iI (o 32)), .int (iI (o 33)), .ref 548, .ref 549, .ref 550, .ref 551, .int (iI (o 38)), .ref 552, .ref 553, .ref 554, .ref 555, .ref 556, .ref 557, .ref 558, .ref 559, .ref 560, .ref 561, .int (iI (o 49)), .ref 562, .ref 563, .ref 564, .ref 565, .ref 566, .ref 567, .ref 568, .ref 569, .int (iI (o 58)), .ref 570, .ref 571, .ref 572, .ref 573, .ref 574, .ref 575, .ref 576, .ref 577, .ref 578, .int (iI (o 68)), .int (iI (o 69)), .int (iI (o 70)), .ref 579]) rfl (pc' := 55) rfl (fun S911 h912 n913 e914 => ?_)
            refine T_p xr_141_55 xn_141 (pc' := 8) (ls' := [(0, .ref 530)]) (st' := []) rfl ?_
            exact ih283 S911 (at_ + 1) h912 (hF286.tr ((X_Fr.rf).tr (X_Fr.of n913 e914 (by omega)))) (by omega) ((X_se_go (by omega) (by unfold X_isBl; omega)).symm.trans hse0) (by omega)
  exact L282 (len + 1).toNat S278 (o 8) h279 ((X_Fr.rf)) (by omega) rfl (by omega)
