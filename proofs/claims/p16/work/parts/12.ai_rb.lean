theorem xr_162_0 : X_row 162 0 = some (0, (.aload_n 0, 1), (0, 0, 0)) := by decide +kernel
theorem xr_162_1 : X_row 162 1 = some (1, (.iconst 0, 1), (0, 0, 0)) := by decide +kernel
theorem xr_162_2 : X_row 162 2 = some (2, (.putfield 11, 3), (11, 5, 10)) := by decide +kernel
theorem xr_162_5 : X_row 162 5 = some (5, (.aload_n 0, 1), (0, 0, 0)) := by decide +kernel
theorem xr_162_6 : X_row 162 6 = some (6, (.iconst (-1), 1), (0, 0, 0)) := by decide +kernel
theorem xr_162_7 : X_row 162 7 = some (7, (.putfield 14, 3), (11, 6, 12)) := by decide +kernel
theorem xr_162_10 : X_row 162 10 = some (10, (.aload_n 0, 1), (0, 0, 0)) := by decide +kernel
theorem xr_162_11 : X_row 162 11 = some (11, (.aload_n 0, 1), (0, 0, 0)) := by decide +kernel
theorem xr_162_12 : X_row 162 12 = some (12, (.getfield 293, 3), (11, 1, 2)) := by decide +kernel
theorem xr_162_15 : X_row 162 15 = some (15, (.putfield 1, 3), (11, 3, 6)) := by decide +kernel
theorem xr_162_18 : X_row 162 18 = some (18, (.iconst 0, 1), (0, 0, 0)) := by decide +kernel
theorem xr_162_19 : X_row 162 19 = some (19, (.istore_n 1, 1), (0, 0, 0)) := by decide +kernel
theorem xr_162_20 : X_row 162 20 = some (20, (.iload_n 1, 1), (0, 0, 0)) := by decide +kernel
theorem xr_162_21 : X_row 162 21 = some (21, (.aload_n 0, 1), (0, 0, 0)) := by decide +kernel
theorem xr_162_22 : X_row 162 22 = some (22, (.getfield 1, 3), (11, 3, 6)) := by decide +kernel
theorem xr_162_25 : X_row 162 25 = some (25, (.if_icmp .ge 21, 3), (0, 0, 0)) := by decide +kernel
theorem xr_162_28 : X_row 162 28 = some (28, (.aload_n 0, 1), (0, 0, 0)) := by decide +kernel
theorem xr_162_29 : X_row 162 29 = some (29, (.getfield 7, 3), (11, 2, 4)) := by decide +kernel
theorem xr_162_32 : X_row 162 32 = some (32, (.iload_n 1, 1), (0, 0, 0)) := by decide +kernel
theorem xr_162_33 : X_row 162 33 = some (33, (.aload_n 0, 1), (0, 0, 0)) := by decide +kernel
theorem xr_162_34 : X_row 162 34 = some (34, (.getfield 188, 3), (11, 0, 0)) := by decide +kernel
theorem xr_162_37 : X_row 162 37 = some (37, (.iload_n 1, 1), (0, 0, 0)) := by decide +kernel
theorem xr_162_38 : X_row 162 38 = some (38, (.baload, 1), (0, 0, 0)) := by decide +kernel
theorem xr_162_39 : X_row 162 39 = some (39, (.bastore, 1), (0, 0, 0)) := by decide +kernel
theorem xr_162_40 : X_row 162 40 = some (40, (.iinc 1 1, 3), (0, 0, 0)) := by decide +kernel
theorem xr_162_43 : X_row 162 43 = some (43, (.goto (-23), 3), (0, 0, 0)) := by decide +kernel
theorem xr_162_46 : X_row 162 46 = some (46, (.aload_n 0, 1), (0, 0, 0)) := by decide +kernel
theorem xr_162_47 : X_row 162 47 = some (47, (.iconst 0, 1), (0, 0, 0)) := by decide +kernel
theorem xr_162_48 : X_row 162 48 = some (48, (.putfield 293, 3), (11, 1, 2)) := by decide +kernel
theorem xr_162_51 : X_row 162 51 = some (51, (.aload_n 0, 1), (0, 0, 0)) := by decide +kernel
theorem xr_162_52 : X_row 162 52 = some (52, (.iconst 0, 1), (0, 0, 0)) := by decide +kernel
theorem xr_162_53 : X_row 162 53 = some (53, (.putfield 17, 3), (11, 8, 16)) := by decide +kernel
theorem xr_162_56 : X_row 162 56 = some (56, (.aload_n 0, 1), (0, 0, 0)) := by decide +kernel
theorem xr_162_57 : X_row 162 57 = some (57, (.iconst 1, 1), (0, 0, 0)) := by decide +kernel
theorem xr_162_58 : X_row 162 58 = some (58, (.aload_n 0, 1), (0, 0, 0)) := by decide +kernel
theorem xr_162_59 : X_row 162 59 = some (59, (.getfield 91, 3), (11, 4, 8)) := by decide +kernel
theorem xr_162_62 : X_row 162 62 = some (62, (.isub, 1), (0, 0, 0)) := by decide +kernel
theorem xr_162_63 : X_row 162 63 = some (63, (.putfield 91, 3), (11, 4, 8)) := by decide +kernel
theorem xr_162_66 : X_row 162 66 = some (66, (.aload_n 0, 1), (0, 0, 0)) := by decide +kernel
theorem xr_162_67 : X_row 162 67 = some (67, (.iconst 0, 1), (0, 0, 0)) := by decide +kernel
theorem xr_162_68 : X_row 162 68 = some (68, (.putfield 84, 3), (11, 28, 56)) := by decide +kernel
theorem xr_162_71 : X_row 162 71 = some (71, (.aload_n 0, 1), (0, 0, 0)) := by decide +kernel
theorem xr_162_72 : X_row 162 72 = some (72, (.iconst 0, 1), (0, 0, 0)) := by decide +kernel
theorem xr_162_73 : X_row 162 73 = some (73, (.putfield 138, 3), (11, 30, 60)) := by decide +kernel
theorem xr_162_76 : X_row 162 76 = some (76, (.aload_n 0, 1), (0, 0, 0)) := by decide +kernel
theorem xr_162_77 : X_row 162 77 = some (77, (.iconst 1, 1), (0, 0, 0)) := by decide +kernel
theorem xr_162_78 : X_row 162 78 = some (78, (.putfield 94, 3), (11, 29, 58)) := by decide +kernel
theorem xr_162_81 : X_row 162 81 = some (81, (.aload_n 0, 1), (0, 0, 0)) := by decide +kernel
theorem xr_162_82 : X_row 162 82 = some (82, (.getfield 97, 3), (11, 14, 28)) := by decide +kernel
theorem xr_162_85 : X_row 162 85 = some (85, (.bipush 11, 2), (0, 0, 0)) := by decide +kernel
theorem xr_162_87 : X_row 162 87 = some (87, (.aload_n 0, 1), (0, 0, 0)) := by decide +kernel
theorem xr_162_88 : X_row 162 88 = some (88, (.getfield 91, 3), (11, 4, 8)) := by decide +kernel
theorem xr_162_91 : X_row 162 91 = some (91, (.imul, 1), (0, 0, 0)) := by decide +kernel
theorem xr_162_92 : X_row 162 92 = some (92, (.ldc2_w 291, 3), (6384748, 1044, 0)) := by decide +kernel
theorem xr_162_95 : X_row 162 95 = some (95, (.lastore, 1), (0, 0, 0)) := by decide +kernel
theorem xr_162_96 : X_row 162 96 = some (96, (.aload_n 0, 1), (0, 0, 0)) := by decide +kernel
theorem xr_162_97 : X_row 162 97 = some (97, (.getfield 134, 3), (11, 16, 32)) := by decide +kernel
theorem xr_162_100 : X_row 162 100 = some (100, (.bipush 11, 2), (0, 0, 0)) := by decide +kernel
theorem xr_162_102 : X_row 162 102 = some (102, (.aload_n 0, 1), (0, 0, 0)) := by decide +kernel
theorem xr_162_103 : X_row 162 103 = some (103, (.getfield 91, 3), (11, 4, 8)) := by decide +kernel
theorem xr_162_106 : X_row 162 106 = some (106, (.imul, 1), (0, 0, 0)) := by decide +kernel
theorem xr_162_107 : X_row 162 107 = some (107, (.iconst (-1), 1), (0, 0, 0)) := by decide +kernel
theorem xr_162_108 : X_row 162 108 = some (108, (.iastore, 1), (0, 0, 0)) := by decide +kernel
theorem xr_162_109 : X_row 162 109 = some (109, (.aload_n 0, 1), (0, 0, 0)) := by decide +kernel
theorem xr_162_110 : X_row 162 110 = some (110, (.invokevirtual 78, 3), (141, 0, 0)) := by decide +kernel
theorem xr_162_113 : X_row 162 113 = some (113, (.aload_n 0, 1), (0, 0, 0)) := by decide +kernel
theorem xr_162_114 : X_row 162 114 = some (114, (.invokevirtual 100, 3), (140, 14, 0)) := by decide +kernel
theorem xr_162_117 : X_row 162 117 = some (117, (.ifCond .eq 213, 3), (0, 0, 0)) := by decide +kernel
theorem xr_162_120 : X_row 162 120 = some (120, (.aload_n 0, 1), (0, 0, 0)) := by decide +kernel
theorem xr_162_121 : X_row 162 121 = some (121, (.getfield 27, 3), (11, 9, 18)) := by decide +kernel
theorem xr_162_124 : X_row 162 124 = some (124, (.ifCond .eq 206, 3), (0, 0, 0)) := by decide +kernel
theorem xr_162_127 : X_row 162 127 = some (127, (.aload_n 0, 1), (0, 0, 0)) := by decide +kernel
theorem xr_162_128 : X_row 162 128 = some (128, (.getfield 27, 3), (11, 9, 18)) := by decide +kernel
theorem xr_162_131 : X_row 162 131 = some (131, (.iconst 3, 1), (0, 0, 0)) := by decide +kernel
theorem xr_162_132 : X_row 162 132 = some (132, (.if_icmp .ne 10, 3), (0, 0, 0)) := by decide +kernel
theorem xr_162_135 : X_row 162 135 = some (135, (.aload_n 0, 1), (0, 0, 0)) := by decide +kernel
theorem xr_162_136 : X_row 162 136 = some (136, (.getfield 41, 3), (11, 12, 24)) := by decide +kernel
theorem xr_162_139 : X_row 162 139 = some (139, (.goto 4, 3), (0, 0, 0)) := by decide +kernel
theorem xr_162_142 : X_row 162 142 = some (142, (.lconst 0, 1), (0, 0, 0)) := by decide +kernel
theorem xr_162_143 : X_row 162 143 = some (143, (.lstore_n 1, 1), (0, 0, 0)) := by decide +kernel
theorem xr_162_144 : X_row 162 144 = some (144, (.lload_n 1, 1), (0, 0, 0)) := by decide +kernel
theorem xr_162_145 : X_row 162 145 = some (145, (.ldc2_w 45, 3), (1918987883, 1285, 0)) := by decide +kernel
theorem xr_162_148 : X_row 162 148 = some (148, (.lcmp, 1), (0, 0, 0)) := by decide +kernel
theorem xr_162_149 : X_row 162 149 = some (149, (.ifCond .ne 20, 3), (0, 0, 0)) := by decide +kernel
theorem xr_162_152 : X_row 162 152 = some (152, (.aload_n 0, 1), (0, 0, 0)) := by decide +kernel
theorem xr_162_153 : X_row 162 153 = some (153, (.getfield 84, 3), (11, 28, 56)) := by decide +kernel
theorem xr_162_156 : X_row 162 156 = some (156, (.bipush 12, 2), (0, 0, 0)) := by decide +kernel
theorem xr_162_158 : X_row 162 158 = some (158, (.if_icmp .ne 7, 3), (0, 0, 0)) := by decide +kernel
theorem xr_162_161 : X_row 162 161 = some (161, (.iconst 1, 1), (0, 0, 0)) := by decide +kernel
theorem xr_162_162 : X_row 162 162 = some (162, (.goto 54, 3), (0, 0, 0)) := by decide +kernel
theorem xr_162_165 : X_row 162 165 = some (165, (.iconst 0, 1), (0, 0, 0)) := by decide +kernel
theorem xr_162_166 : X_row 162 166 = some (166, (.goto 50, 3), (0, 0, 0)) := by decide +kernel
theorem xr_162_169 : X_row 162 169 = some (169, (.lload_n 1, 1), (0, 0, 0)) := by decide +kernel
theorem xr_162_170 : X_row 162 170 = some (170, (.ldc2_w 49, 3), (1802071652, 1287, 0)) := by decide +kernel
theorem xr_162_173 : X_row 162 173 = some (173, (.lcmp, 1), (0, 0, 0)) := by decide +kernel
theorem xr_162_174 : X_row 162 174 = some (174, (.ifCond .ne 20, 3), (0, 0, 0)) := by decide +kernel
theorem xr_162_177 : X_row 162 177 = some (177, (.aload_n 0, 1), (0, 0, 0)) := by decide +kernel
theorem xr_162_178 : X_row 162 178 = some (178, (.getfield 94, 3), (11, 29, 58)) := by decide +kernel
theorem xr_162_181 : X_row 162 181 = some (181, (.bipush 11, 2), (0, 0, 0)) := by decide +kernel
theorem xr_162_183 : X_row 162 183 = some (183, (.if_icmp .ne 7, 3), (0, 0, 0)) := by decide +kernel
theorem xr_162_186 : X_row 162 186 = some (186, (.iconst 1, 1), (0, 0, 0)) := by decide +kernel
theorem xr_162_187 : X_row 162 187 = some (187, (.goto 29, 3), (0, 0, 0)) := by decide +kernel
theorem xr_162_190 : X_row 162 190 = some (190, (.iconst 0, 1), (0, 0, 0)) := by decide +kernel
theorem xr_162_191 : X_row 162 191 = some (191, (.goto 25, 3), (0, 0, 0)) := by decide +kernel
theorem xr_162_194 : X_row 162 194 = some (194, (.lload_n 1, 1), (0, 0, 0)) := by decide +kernel
theorem xr_162_195 : X_row 162 195 = some (195, (.ldc2_w 53, 3), (2003792484, 1289, 0)) := by decide +kernel
theorem xr_162_198 : X_row 162 198 = some (198, (.lcmp, 1), (0, 0, 0)) := by decide +kernel
theorem xr_162_199 : X_row 162 199 = some (199, (.ifCond .ne 16, 3), (0, 0, 0)) := by decide +kernel
theorem xr_162_202 : X_row 162 202 = some (202, (.aload_n 0, 1), (0, 0, 0)) := by decide +kernel
theorem xr_162_203 : X_row 162 203 = some (203, (.getfield 138, 3), (11, 30, 60)) := by decide +kernel
theorem xr_162_206 : X_row 162 206 = some (206, (.bipush 30, 2), (0, 0, 0)) := by decide +kernel
theorem xr_162_208 : X_row 162 208 = some (208, (.if_icmp .ne 7, 3), (0, 0, 0)) := by decide +kernel
theorem xr_162_211 : X_row 162 211 = some (211, (.iconst 1, 1), (0, 0, 0)) := by decide +kernel
theorem xr_162_212 : X_row 162 212 = some (212, (.goto 4, 3), (0, 0, 0)) := by decide +kernel
theorem xr_162_215 : X_row 162 215 = some (215, (.iconst 0, 1), (0, 0, 0)) := by decide +kernel
theorem xr_162_216 : X_row 162 216 = some (216, (.istore_n 3, 1), (0, 0, 0)) := by decide +kernel
theorem xr_162_217 : X_row 162 217 = some (217, (.lload_n 1, 1), (0, 0, 0)) := by decide +kernel
theorem xr_162_218 : X_row 162 218 = some (218, (.ldc2_w 45, 3), (1918987883, 1285, 0)) := by decide +kernel
theorem xr_162_221 : X_row 162 221 = some (221, (.lcmp, 1), (0, 0, 0)) := by decide +kernel
theorem xr_162_222 : X_row 162 222 = some (222, (.ifCond .eq 27, 3), (0, 0, 0)) := by decide +kernel
theorem xr_162_225 : X_row 162 225 = some (225, (.lload_n 1, 1), (0, 0, 0)) := by decide +kernel
theorem xr_162_226 : X_row 162 226 = some (226, (.ldc2_w 47, 3), (32766990153442674, 1286, 0)) := by decide +kernel
theorem xr_162_229 : X_row 162 229 = some (229, (.lcmp, 1), (0, 0, 0)) := by decide +kernel
theorem xr_162_230 : X_row 162 230 = some (230, (.ifCond .eq 19, 3), (0, 0, 0)) := by decide +kernel
theorem xr_162_233 : X_row 162 233 = some (233, (.lload_n 1, 1), (0, 0, 0)) := by decide +kernel
theorem xr_162_234 : X_row 162 234 = some (234, (.ldc2_w 49, 3), (1802071652, 1287, 0)) := by decide +kernel
theorem xr_162_237 : X_row 162 237 = some (237, (.lcmp, 1), (0, 0, 0)) := by decide +kernel
theorem xr_162_238 : X_row 162 238 = some (238, (.ifCond .eq 11, 3), (0, 0, 0)) := by decide +kernel
theorem xr_162_241 : X_row 162 241 = some (241, (.lload_n 1, 1), (0, 0, 0)) := by decide +kernel
theorem xr_162_242 : X_row 162 242 = some (242, (.ldc2_w 53, 3), (2003792484, 1289, 0)) := by decide +kernel
theorem xr_162_245 : X_row 162 245 = some (245, (.lcmp, 1), (0, 0, 0)) := by decide +kernel
theorem xr_162_246 : X_row 162 246 = some (246, (.ifCond .ne 7, 3), (0, 0, 0)) := by decide +kernel
theorem xr_162_249 : X_row 162 249 = some (249, (.iload_n 3, 1), (0, 0, 0)) := by decide +kernel
theorem xr_162_250 : X_row 162 250 = some (250, (.ifCond .eq 7, 3), (0, 0, 0)) := by decide +kernel
theorem xr_162_253 : X_row 162 253 = some (253, (.aload_n 0, 1), (0, 0, 0)) := by decide +kernel
theorem xr_162_254 : X_row 162 254 = some (254, (.invokevirtual 81, 3), (147, 16, 0)) := by decide +kernel
theorem xr_162_257 : X_row 162 257 = some (257, (.aload_n 0, 1), (0, 0, 0)) := by decide +kernel
theorem xr_162_258 : X_row 162 258 = some (258, (.invokevirtual 100, 3), (140, 14, 0)) := by decide +kernel
theorem xr_162_261 : X_row 162 261 = some (261, (.ifCond .eq 7, 3), (0, 0, 0)) := by decide +kernel
theorem xr_162_275 : X_row 162 275 = some (275, (.goto (-162), 3), (0, 0, 0)) := by decide +kernel
theorem xr_162_330 : X_row 162 330 = some (330, (.aload_n 0, 1), (0, 0, 0)) := by decide +kernel
theorem xr_162_331 : X_row 162 331 = some (331, (.invokevirtual 100, 3), (140, 14, 0)) := by decide +kernel
theorem xr_162_334 : X_row 162 334 = some (334, (.ifCond .ne 39, 3), (0, 0, 0)) := by decide +kernel
theorem xr_162_337 : X_row 162 337 = some (337, (.aload_n 0, 1), (0, 0, 0)) := by decide +kernel
theorem xr_162_338 : X_row 162 338 = some (338, (.iconst 1, 1), (0, 0, 0)) := by decide +kernel
theorem xr_162_339 : X_row 162 339 = some (339, (.aload_n 0, 1), (0, 0, 0)) := by decide +kernel
theorem xr_162_340 : X_row 162 340 = some (340, (.getfield 91, 3), (11, 4, 8)) := by decide +kernel
theorem xr_162_343 : X_row 162 343 = some (343, (.isub, 1), (0, 0, 0)) := by decide +kernel
theorem xr_162_344 : X_row 162 344 = some (344, (.putfield 91, 3), (11, 4, 8)) := by decide +kernel
theorem xr_162_347 : X_row 162 347 = some (347, (.aload_n 0, 1), (0, 0, 0)) := by decide +kernel
theorem xr_162_348 : X_row 162 348 = some (348, (.aload_n 0, 1), (0, 0, 0)) := by decide +kernel
theorem xr_162_349 : X_row 162 349 = some (349, (.getfield 308, 3), (11, 31, 62)) := by decide +kernel
theorem xr_162_352 : X_row 162 352 = some (352, (.putfield 84, 3), (11, 28, 56)) := by decide +kernel
theorem xr_162_355 : X_row 162 355 = some (355, (.aload_n 0, 1), (0, 0, 0)) := by decide +kernel
theorem xr_162_356 : X_row 162 356 = some (356, (.aload_n 0, 1), (0, 0, 0)) := by decide +kernel
theorem xr_162_357 : X_row 162 357 = some (357, (.getfield 191, 3), (11, 32, 64)) := by decide +kernel
theorem xr_162_360 : X_row 162 360 = some (360, (.putfield 94, 3), (11, 29, 58)) := by decide +kernel
theorem xr_162_363 : X_row 162 363 = some (363, (.aload_n 0, 1), (0, 0, 0)) := by decide +kernel
theorem xr_162_364 : X_row 162 364 = some (364, (.aload_n 0, 1), (0, 0, 0)) := by decide +kernel
theorem xr_162_365 : X_row 162 365 = some (365, (.getfield 311, 3), (11, 33, 66)) := by decide +kernel
theorem xr_162_368 : X_row 162 368 = some (368, (.putfield 138, 3), (11, 30, 60)) := by decide +kernel
theorem xr_162_371 : X_row 162 371 = some (371, (.iconst (-1), 1), (0, 0, 0)) := by decide +kernel
theorem xr_162_372 : X_row 162 372 = some (372, (.ireturn, 1), (0, 0, 0)) := by decide +kernel
theorem xr_162_373 : X_row 162 373 = some (373, (.aload_n 0, 1), (0, 0, 0)) := by decide +kernel
theorem xr_162_374 : X_row 162 374 = some (374, (.aload_n 0, 1), (0, 0, 0)) := by decide +kernel
theorem xr_162_375 : X_row 162 375 = some (375, (.getfield 84, 3), (11, 28, 56)) := by decide +kernel
theorem xr_162_378 : X_row 162 378 = some (378, (.putfield 308, 3), (11, 31, 62)) := by decide +kernel
theorem xr_162_381 : X_row 162 381 = some (381, (.aload_n 0, 1), (0, 0, 0)) := by decide +kernel
theorem xr_162_382 : X_row 162 382 = some (382, (.aload_n 0, 1), (0, 0, 0)) := by decide +kernel
theorem xr_162_383 : X_row 162 383 = some (383, (.getfield 94, 3), (11, 29, 58)) := by decide +kernel
theorem xr_162_386 : X_row 162 386 = some (386, (.putfield 191, 3), (11, 32, 64)) := by decide +kernel
theorem xr_162_389 : X_row 162 389 = some (389, (.aload_n 0, 1), (0, 0, 0)) := by decide +kernel
theorem xr_162_390 : X_row 162 390 = some (390, (.aload_n 0, 1), (0, 0, 0)) := by decide +kernel
theorem xr_162_391 : X_row 162 391 = some (391, (.getfield 138, 3), (11, 30, 60)) := by decide +kernel
theorem xr_162_394 : X_row 162 394 = some (394, (.putfield 311, 3), (11, 33, 66)) := by decide +kernel
theorem xr_162_397 : X_row 162 397 = some (397, (.aload_n 0, 1), (0, 0, 0)) := by decide +kernel
theorem xr_162_398 : X_row 162 398 = some (398, (.iconst 0, 1), (0, 0, 0)) := by decide +kernel
theorem xr_162_399 : X_row 162 399 = some (399, (.putfield 314, 3), (11, 38, 76)) := by decide +kernel
theorem xr_162_402 : X_row 162 402 = some (402, (.aload_n 0, 1), (0, 0, 0)) := by decide +kernel
theorem xr_162_403 : X_row 162 403 = some (403, (.iconst 0, 1), (0, 0, 0)) := by decide +kernel
theorem xr_162_404 : X_row 162 404 = some (404, (.putfield 317, 3), (11, 49, 98)) := by decide +kernel
theorem xr_162_407 : X_row 162 407 = some (407, (.aload_n 0, 1), (0, 0, 0)) := by decide +kernel
theorem xr_162_408 : X_row 162 408 = some (408, (.iconst 0, 1), (0, 0, 0)) := by decide +kernel
theorem xr_162_409 : X_row 162 409 = some (409, (.putfield 320, 3), (11, 68, 136)) := by decide +kernel
theorem xr_162_412 : X_row 162 412 = some (412, (.iconst 0, 1), (0, 0, 0)) := by decide +kernel
theorem xr_162_413 : X_row 162 413 = some (413, (.istore_n 1, 1), (0, 0, 0)) := by decide +kernel
theorem xr_162_414 : X_row 162 414 = some (414, (.iload_n 1, 1), (0, 0, 0)) := by decide +kernel
theorem xr_162_415 : X_row 162 415 = some (415, (.bipush 30, 2), (0, 0, 0)) := by decide +kernel
theorem xr_162_417 : X_row 162 417 = some (417, (.if_icmp .ge 16, 3), (0, 0, 0)) := by decide +kernel
theorem xr_162_420 : X_row 162 420 = some (420, (.aload_n 0, 1), (0, 0, 0)) := by decide +kernel
theorem xr_162_421 : X_row 162 421 = some (421, (.getfield 273, 3), (11, 63, 126)) := by decide +kernel
theorem xr_162_424 : X_row 162 424 = some (424, (.iload_n 1, 1), (0, 0, 0)) := by decide +kernel
theorem xr_162_425 : X_row 162 425 = some (425, (.iconst 0, 1), (0, 0, 0)) := by decide +kernel
theorem xr_162_426 : X_row 162 426 = some (426, (.bastore, 1), (0, 0, 0)) := by decide +kernel
theorem xr_162_427 : X_row 162 427 = some (427, (.iinc 1 1, 3), (0, 0, 0)) := by decide +kernel
theorem xr_162_430 : X_row 162 430 = some (430, (.goto (-16), 3), (0, 0, 0)) := by decide +kernel
theorem xr_162_433 : X_row 162 433 = some (433, (.aload_n 0, 1), (0, 0, 0)) := by decide +kernel
theorem xr_162_434 : X_row 162 434 = some (434, (.getfield 138, 3), (11, 30, 60)) := by decide +kernel
theorem xr_162_437 : X_row 162 437 = some (437, (.ireturn, 1), (0, 0, 0)) := by decide +kernel
set_option maxHeartbeats 1500000 in
theorem r_book (sc : X_Sc) (S : X_S) (o : Nat → Int) (nm : Int64) (tp : Int → Int) (tx : Int → Int) (ib : Int → Int) (rN : Int → Int64) (kN : Int → Int64) (tg : Int → Int) (kU : Int → Int) (wR : Int → Int) (wL : Int → Int) (wK : Int → Int) (wM : Int → Int) (wH : Int → Int) (wS : Int → Int) (sO : Int → Int) (sN : Int → Int) (eP : Int → Int64) (eH : Int → Int) (hK : Int → Int) (tb : Int → Int) (len : Int) (n : Int) (so : Int → Int) (pl : Int → Int) (ct : Int → Int64) (E : Int → Int) (rn0 : Int → Int64) (lo0 : Int → Int) (kn0 : Int → Int64) (ab0 : Int → Int) (D0 : Int → Nat → Int → Int) (W0 : Int → Int → Int64) (KO : X_Kp) (hM : M_o S o nm) (hA531 : S.1 531 = .inl (.byte, 2020, .inl fun k : Nat => iI (tp (k : Int)))) (hA532 : S.1 532 = .inl (.byte, 2000, .inl fun k : Nat => iI (tx (k : Int)))) (hA574 : S.1 574 = .inl (.boolean, 30, .inl fun k : Nat => iI (ib (k : Int)))) (hA533 : S.1 533 = .inl (.long, 24, .inr (.inl fun k : Nat => rN (k : Int)))) (hA534 : S.1 534 = .inl (.long, 22, .inr (.inl fun k : Nat => kN (k : Int)))) (hA535 : S.1 535 = .inl (.boolean, 288, .inl fun k : Nat => iI (tg (k : Int)))) (hA536 : S.1 536 = .inl (.int, 22, .inl fun k : Nat => iI (kU (k : Int)))) (hA537 : S.1 537 = .inl (.int, 60, .inl fun k : Nat => iI (wR (k : Int)))) (hA538 : S.1 538 = .inl (.int, 60, .inl fun k : Nat => iI (wL (k : Int)))) (hA539 : S.1 539 = .inl (.int, 60, .inl fun k : Nat => iI (wK (k : Int)))) (hA540 : S.1 540 = .inl (.int, 60, .inl fun k : Nat => iI (wM (k : Int)))) (hA541 : S.1 541 = .inl (.int, 60, .inl fun k : Nat => iI (wH (k : Int)))) (hA542 : S.1 542 = .inl (.int, 60, .inl fun k : Nat => iI (wS (k : Int)))) (hA543 : S.1 543 = .inl (.int, 1800, .inl fun k : Nat => iI (sO (k : Int)))) (hA544 : S.1 544 = .inl (.int, 1800, .inl fun k : Nat => iI (sN (k : Int)))) (hA545 : S.1 545 = .inl (.long, 480, .inr (.inl fun k : Nat => eP (k : Int)))) (hA546 : S.1 546 = .inl (.int, 480, .inl fun k : Nat => iI (eH (k : Int)))) (hA547 : S.1 547 = .inl (.int, 240, .inl fun k : Nat => iI (hK (k : Int)))) (hlen0 : o 1 = len) (hl : 0 ≤ len ∧ len ≤ 2000) (htp : ∀ k, 0 ≤ k → k < len → tp k = tb k ∧ -128 ≤ tb k ∧ tb k ≤ 127) (hX : X_TxE tb len n so pl ct E) (hct : ∀ i, 0 ≤ i → i < n → so i = 6 → ¬ ct i = 0) (hb : 0 ≤ o 4 ∧ o 4 ≤ 1) (hOk : X_Kok KO) (hO4 : X_K4 KO) (hO : R_bk (o 4) KO rN kN tg kU wR wL wK wM wH wS sO sN eP eH hK) : X_T sc 162 (0, [(0, .ref 530)], [], S) (fun v S' => (∃ (at1 : Int) (en1 : Int) (tk1 : Int) (nu1 : Int) (dg1 : Int) (nm1 : Int64) (g1 : Int) (K2 : X_Kp) (rN1 : Int → Int64) (kN1 : Int → Int64) (tg1 : Int → Int) (kU1 : Int → Int) (wR1 : Int → Int) (wL1 : Int → Int) (wK1 : Int → Int) (wM1 : Int → Int) (wH1 : Int → Int) (wS1 : Int → Int) (sO1 : Int → Int) (sN1 : Int → Int) (eP1 : Int → Int64) (eH1 : Int → Int) (hK1 : Int → Int) (tx1 : Int → Int) (ib1 : Int → Int), v = some (.int (iI K2.2.2.2.1)) ∧ sp_lines n so ct 2001 (0, 0, 1, 0, rn0, lo0, X_ug kn0 0 (Int64.ofNat 6384748), X_ug ab0 0 1, D0, W0) = some K2 ∧ X_Kok K2 ∧ X_K4 K2 ∧ R_bk (1 - o 4) K2 rN1 kN1 tg1 kU1 wR1 wL1 wK1 wM1 wH1 wS1 sO1 sN1 eP1 eH1 hK1 ∧ (∀ k, 0 ≤ k → k < 30 → ib1 k = 0) ∧ M_o S' (X_ou (X_ou (X_ou (X_ou (X_ou (X_ou (X_ou (X_ou (X_ou (X_ou (X_ou (X_ou (X_ou (X_ou (X_ou (X_ou (X_ou (X_ou (X_ou o 1 0) 3 (o 1)) 4 (1 - o 4)) 5 0) 6 g1) 7 at1) 8 en1) 9 tk1) 10 nu1) 11 dg1) 28 K2.2.1) 29 K2.2.2.1) 30 K2.2.2.2.1) 31 K2.2.1) 32 K2.2.2.1) 33 K2.2.2.2.1) 38 0) 49 0) 68 0) nm1 ∧ S'.1 533 = .inl (.long, 24, .inr (.inl fun k : Nat => rN1 (k : Int))) ∧ S'.1 534 = .inl (.long, 22, .inr (.inl fun k : Nat => kN1 (k : Int))) ∧ S'.1 535 = .inl (.boolean, 288, .inl fun k : Nat => iI (tg1 (k : Int))) ∧ S'.1 536 = .inl (.int, 22, .inl fun k : Nat => iI (kU1 (k : Int))) ∧ S'.1 537 = .inl (.int, 60, .inl fun k : Nat => iI (wR1 (k : Int))) ∧ S'.1 538 = .inl (.int, 60, .inl fun k : Nat => iI (wL1 (k : Int))) ∧ S'.1 539 = .inl (.int, 60, .inl fun k : Nat => iI (wK1 (k : Int))) ∧ S'.1 540 = .inl (.int, 60, .inl fun k : Nat => iI (wM1 (k : Int))) ∧ S'.1 541 = .inl (.int, 60, .inl fun k : Nat => iI (wH1 (k : Int))) ∧ S'.1 542 = .inl (.int, 60, .inl fun k : Nat => iI (wS1 (k : Int))) ∧ S'.1 543 = .inl (.int, 1800, .inl fun k : Nat => iI (sO1 (k : Int))) ∧ S'.1 544 = .inl (.int, 1800, .inl fun k : Nat => iI (sN1 (k : Int))) ∧ S'.1 545 = .inl (.long, 480, .inr (.inl fun k : Nat => eP1 (k : Int))) ∧ S'.1 546 = .inl (.int, 480, .inl fun k : Nat => iI (eH1 (k : Int))) ∧ S'.1 547 = .inl (.int, 240, .inl fun k : Nat => iI (hK1 (k : Int))) ∧ S'.1 532 = .inl (.byte, 2000, .inl fun k : Nat => iI (tx1 (k : Int))) ∧ S'.1 574 = .inl (.boolean, 30, .inl fun k : Nat => iI (ib1 (k : Int))) ∧ (X_Fr (fun q => q = 530 ∨ (532 ≤ q ∧ q ≤ 547) ∨ q = 574) S S')) ∨ (∃ (at1 : Int) (en1 : Int) (tk1 : Int) (nu1 : Int) (dg1 : Int) (nm1 : Int64) (f1 : Int) (g1 : Int) (rN1 : Int → Int64) (kN1 : Int → Int64) (tg1 : Int → Int) (kU1 : Int → Int) (wR1 : Int → Int) (wL1 : Int → Int) (wK1 : Int → Int) (wM1 : Int → Int) (wH1 : Int → Int) (wS1 : Int → Int) (sO1 : Int → Int) (sN1 : Int → Int) (eP1 : Int → Int64) (eH1 : Int → Int) (hK1 : Int → Int) (tx1 : Int → Int), v = some (.int (iI (-1))) ∧ sp_lines n so ct 2001 (0, 0, 1, 0, rn0, lo0, X_ug kn0 0 (Int64.ofNat 6384748), X_ug ab0 0 1, D0, W0) = none ∧ R_bk (o 4) KO rN1 kN1 tg1 kU1 wR1 wL1 wK1 wM1 wH1 wS1 sO1 sN1 eP1 eH1 hK1 ∧ M_o S' (X_ou (X_ou (X_ou (X_ou (X_ou (X_ou (X_ou (X_ou (X_ou (X_ou (X_ou (X_ou o 1 0) 3 (o 1)) 5 f1) 6 g1) 7 at1) 8 en1) 9 tk1) 10 nu1) 11 dg1) 28 (o 31)) 29 (o 32)) 30 (o 33)) nm1 ∧ S'.1 533 = .inl (.long, 24, .inr (.inl fun k : Nat => rN1 (k : Int))) ∧ S'.1 534 = .inl (.long, 22, .inr (.inl fun k : Nat => kN1 (k : Int))) ∧ S'.1 535 = .inl (.boolean, 288, .inl fun k : Nat => iI (tg1 (k : Int))) ∧ S'.1 536 = .inl (.int, 22, .inl fun k : Nat => iI (kU1 (k : Int))) ∧ S'.1 537 = .inl (.int, 60, .inl fun k : Nat => iI (wR1 (k : Int))) ∧ S'.1 538 = .inl (.int, 60, .inl fun k : Nat => iI (wL1 (k : Int))) ∧ S'.1 539 = .inl (.int, 60, .inl fun k : Nat => iI (wK1 (k : Int))) ∧ S'.1 540 = .inl (.int, 60, .inl fun k : Nat => iI (wM1 (k : Int))) ∧ S'.1 541 = .inl (.int, 60, .inl fun k : Nat => iI (wH1 (k : Int))) ∧ S'.1 542 = .inl (.int, 60, .inl fun k : Nat => iI (wS1 (k : Int))) ∧ S'.1 543 = .inl (.int, 1800, .inl fun k : Nat => iI (sO1 (k : Int))) ∧ S'.1 544 = .inl (.int, 1800, .inl fun k : Nat => iI (sN1 (k : Int))) ∧ S'.1 545 = .inl (.long, 480, .inr (.inl fun k : Nat => eP1 (k : Int))) ∧ S'.1 546 = .inl (.int, 480, .inl fun k : Nat => iI (eH1 (k : Int))) ∧ S'.1 547 = .inl (.int, 240, .inl fun k : Nat => iI (hK1 (k : Int))) ∧ S'.1 532 = .inl (.byte, 2000, .inl fun k : Nat => iI (tx1 (k : Int))) ∧ (X_Fr (fun q => q = 530 ∨ (532 ≤ q ∧ q ≤ 547)) S S'))) := by
  refine X_QI (fun Q hQ => ?_)
  refine T_p xr_162_0 xn_162 (pc' := 1) (ls' := [(0, .ref 530)]) (st' := [.ref 530]) rfl ?_
  refine T_p xr_162_1 xn_162 (pc' := 2) (ls' := [(0, .ref 530)]) (st' := [.int (iI 0), .ref 530]) rfl ?_
  refine T_put xr_162_2 hM rfl (Nat.le_of_ble_eq_true rfl) rfl (fs' := [.ref 531, .int (iI (o 1)), .ref 532, .int (iI (o 3)), .int (iI (o 4)), .int (iI 0), .int (iI (o 6)), .int (iI (o 7)), .int (iI (o 8)), .int (iI (o 9)), .int (iI (o 10)), .int (iI (o 11)), .long nm, .ref 533, .ref 534, .ref 535, .ref 536, .ref 537, .ref 538, .ref 539, .ref 540, .ref 541, .ref 542, .ref 543, .ref 544, .ref 545, .ref 546, .ref 547, .int (iI (o 28)), .int (iI (o 29)), .int (iI (o 30)), .int (iI (o 31)), .int (iI (o 32)), .int (iI (o 33)), .ref 548, .ref 549, .ref 550, .ref 551, .int (iI (o 38)), .ref 552, .ref 553, .ref 554, .ref 555, .ref 556, .ref 557, .ref 558, .ref 559, .ref 560, .ref 561, .int (iI (o 49)), .ref 562, .ref 563, .ref 564, .ref 565, .ref 566, .ref 567, .ref 568, .ref 569, .int (iI (o 58)), .ref 570, .ref 571, .ref 572, .ref 573, .ref 574, .ref 575, .ref 576, .ref 577, .ref 578, .int (iI (o 68)), .int (iI (o 69)), .int (iI (o 70)), .ref 579]) rfl (pc' := 5) rfl (fun S5237 h5238 n5239 e5240 => ?_)
  refine T_p xr_162_5 xn_162 (pc' := 6) (ls' := [(0, .ref 530)]) (st' := [.ref 530]) rfl ?_
  refine T_p xr_162_6 xn_162 (pc' := 7) (ls' := [(0, .ref 530)]) (st' := [.int (iI (-1)), .ref 530]) rfl ?_
  refine T_put xr_162_7 h5238 rfl (Nat.le_of_ble_eq_true rfl) rfl (fs' := [.ref 531, .int (iI (o 1)), .ref 532, .int (iI (o 3)), .int (iI (o 4)), .int (iI 0), .int (iI (-1)), .int (iI (o 7)), .int (iI (o 8)), .int (iI (o 9)), .int (iI (o 10)), .int (iI (o 11)), .long nm, .ref 533, .ref 534, .ref 535, .ref 536, .ref 537, .ref 538, .ref 539, .ref 540, .ref 541, .ref 542, .ref 543, .ref 544, .ref 545, .ref 546, .ref 547, .int (iI (o 28)), .int (iI (o 29)), .int (iI (o 30)), .int (iI (o 31)), .int (iI (o 32)), .int (iI (o 33)), .ref 548, .ref 549, .ref 550, .ref 551, .int (iI (o 38)), .ref 552, .ref 553, .ref 554, .ref 555, .ref 556, .ref 557, .ref 558, .ref 559, .ref 560, .ref 561, .int (iI (o 49)), .ref 562, .ref 563, .ref 564, .ref 565, .ref 566, .ref 567, .ref 568, .ref 569, .int (iI (o 58)), .ref 570, .ref 571, .ref 572, .ref 573, .ref 574, .ref 575, .ref 576, .ref 577, .ref 578, .int (iI (o 68)), .int (iI (o 69)), .int (iI (o 70)), .ref 579]) rfl (pc' := 10) rfl (fun S5241 h5242 n5243 e5244 => ?_)
  refine T_p xr_162_10 xn_162 (pc' := 11) (ls' := [(0, .ref 530)]) (st' := [.ref 530]) rfl ?_
  refine T_p xr_162_11 xn_162 (pc' := 12) (ls' := [(0, .ref 530)]) (st' := [.ref 530, .ref 530]) rfl ?_
  refine T_get xr_162_12 h5242 rfl (v := .int (iI (o 1))) rfl (pc' := 15) rfl ?_
  refine T_put xr_162_15 h5242 rfl (Nat.le_of_ble_eq_true rfl) rfl (fs' := [.ref 531, .int (iI (o 1)), .ref 532, .int (iI (o 1)), .int (iI (o 4)), .int (iI 0), .int (iI (-1)), .int (iI (o 7)), .int (iI (o 8)), .int (iI (o 9)), .int (iI (o 10)), .int (iI (o 11)), .long nm, .ref 533, .ref 534, .ref 535, .ref 536, .ref 537, .ref 538, .ref 539, .ref 540, .ref 541, .ref 542, .ref 543, .ref 544, .ref 545, .ref 546, .ref 547, .int (iI (o 28)), .int (iI (o 29)), .int (iI (o 30)), .int (iI (o 31)), .int (iI (o 32)), .int (iI (o 33)), .ref 548, .ref 549, .ref 550, .ref 551, .int (iI (o 38)), .ref 552, .ref 553, .ref 554, .ref 555, .ref 556, .ref 557, .ref 558, .ref 559, .ref 560, .ref 561, .int (iI (o 49)), .ref 562, .ref 563, .ref 564, .ref 565, .ref 566, .ref 567, .ref 568, .ref 569, .int (iI (o 58)), .ref 570, .ref 571, .ref 572, .ref 573, .ref 574, .ref 575, .ref 576, .ref 577, .ref 578, .int (iI (o 68)), .int (iI (o 69)), .int (iI (o 70)), .ref 579]) rfl (pc' := 18) rfl (fun S5245 h5246 n5247 e5248 => ?_)
  refine T_p xr_162_18 xn_162 (pc' := 19) (ls' := [(0, .ref 530)]) (st' := [.int (iI 0)]) rfl ?_
  refine T_p xr_162_19 xn_162 (pc' := 20) (ls' := [(1, .int (iI 0)), (0, .ref 530)]) (st' := []) rfl ?_
  have h5254 := (n5247 532 (by decide)).trans ((n5243 532 (by decide)).trans ((n5239 532 (by decide)).trans (hA532)))
  have L5249 : ∀ (m5251 : Nat) (S5255 : X_S) (k : Int) (tx1 : Int → Int) (htx1 : S5255.1 532 = .inl (.byte, 2000, .inl fun k : Nat => iI (tx1 (k : Int)))) (hF5253 : X_Fr (fun q => q = 532) S5245 S5255) (hk : 0 ≤ k ∧ k ≤ len) (htx : ∀ i, 0 ≤ i → i < k → tx1 i = tb i) (hm5252 : len - k < m5251), X_T sc 162 (20, [(1, .int (iI k)), (0, .ref 530)], [], S5255) Q := by
    intro m5251
    induction m5251 with
    | zero =>
      intro S5255 k tx1 htx1 hF5253 hk htx hm5252
      exact (show False by omega).elim
    | succ m5251 ih5250 =>
      intro S5255 k tx1 htx1 hF5253 hk htx hm5252
      refine T_p xr_162_20 xn_162 (pc' := 21) (ls' := [(1, .int (iI k)), (0, .ref 530)]) (st' := [.int (iI k)]) rfl ?_
      refine T_p xr_162_21 xn_162 (pc' := 22) (ls' := [(1, .int (iI k)), (0, .ref 530)]) (st' := [.ref 530, .int (iI k)]) rfl ?_
      have h5256 := (hF5253.1 530 (by first | decide | omega)).trans (h5246)
      refine T_get xr_162_22 h5256 rfl (v := .int (iI (o 1))) rfl (pc' := 25) rfl ?_
      refine T_zicmp_ge xr_162_25 (t := 46) (pc' := 28) rfl rfl (fun c5257 => ?_) (fun c5257 => ?_)
      · skip
        have c5257 : (o 1) ≤ k := c5257
        have htx : ∀ k, 0 ≤ k → k < len → tx1 k = tb k := fun i h1 h2 => htx i h1 (by omega)
        refine T_p xr_162_46 xn_162 (pc' := 47) (ls' := [(1, .int (iI k)), (0, .ref 530)]) (st' := [.ref 530]) rfl ?_
        refine T_p xr_162_47 xn_162 (pc' := 48) (ls' := [(1, .int (iI k)), (0, .ref 530)]) (st' := [.int (iI 0), .ref 530]) rfl ?_
        refine T_put xr_162_48 h5256 rfl (Nat.le_of_ble_eq_true rfl) rfl (fs' := [.ref 531, .int (iI 0), .ref 532, .int (iI (o 1)), .int (iI (o 4)), .int (iI 0), .int (iI (-1)), .int (iI (o 7)), .int (iI (o 8)), .int (iI (o 9)), .int (iI (o 10)), .int (iI (o 11)), .long nm, .ref 533, .ref 534, .ref 535, .ref 536, .ref 537, .ref 538, .ref 539, .ref 540, .ref 541, .ref 542, .ref 543, .ref 544, .ref 545, .ref 546, .ref 547, .int (iI (o 28)), .int (iI (o 29)), .int (iI (o 30)), .int (iI (o 31)), .int (iI (o 32)), .int (iI (o 33)), .ref 548, .ref 549, .ref 550, .ref 551, .int (iI (o 38)), .ref 552, .ref 553, .ref 554, .ref 555, .ref 556, .ref 557, .ref 558, .ref 559, .ref 560, .ref 561, .int (iI (o 49)), .ref 562, .ref 563, .ref 564, .ref 565, .ref 566, .ref 567, .ref 568, .ref 569, .int (iI (o 58)), .ref 570, .ref 571, .ref 572, .ref 573, .ref 574, .ref 575, .ref 576, .ref 577, .ref 578, .int (iI (o 68)), .int (iI (o 69)), .int (iI (o 70)), .ref 579]) rfl (pc' := 51) rfl (fun S5258 h5259 n5260 e5261 => ?_)
        refine T_p xr_162_51 xn_162 (pc' := 52) (ls' := [(1, .int (iI k)), (0, .ref 530)]) (st' := [.ref 530]) rfl ?_
        refine T_p xr_162_52 xn_162 (pc' := 53) (ls' := [(1, .int (iI k)), (0, .ref 530)]) (st' := [.int (iI 0), .ref 530]) rfl ?_
        refine T_put xr_162_53 h5259 rfl (Nat.le_of_ble_eq_true rfl) rfl (fs' := [.ref 531, .int (iI 0), .ref 532, .int (iI (o 1)), .int (iI (o 4)), .int (iI 0), .int (iI (-1)), .int (iI (o 7)), .int (iI 0), .int (iI (o 9)), .int (iI (o 10)), .int (iI (o 11)), .long nm, .ref 533, .ref 534, .ref 535, .ref 536, .ref 537, .ref 538, .ref 539, .ref 540, .ref 541, .ref 542, .ref 543, .ref 544, .ref 545, .ref 546, .ref 547, .int (iI (o 28)), .int (iI (o 29)), .int (iI (o 30)), .int (iI (o 31)), .int (iI (o 32)), .int (iI (o 33)), .ref 548, .ref 549, .ref 550, .ref 551, .int (iI (o 38)), .ref 552, .ref 553, .ref 554, .ref 555, .ref 556, .ref 557, .ref 558, .ref 559, .ref 560, .ref 561, .int (iI (o 49)), .ref 562, .ref 563, .ref 564, .ref 565, .ref 566, .ref 567, .ref 568, .ref 569, .int (iI (o 58)), .ref 570, .ref 571, .ref 572, .ref 573, .ref 574, .ref 575, .ref 576, .ref 577, .ref 578, .int (iI (o 68)), .int (iI (o 69)), .int (iI (o 70)), .ref 579]) rfl (pc' := 56) rfl (fun S5262 h5263 n5264 e5265 => ?_)
        refine T_p xr_162_56 xn_162 (pc' := 57) (ls' := [(1, .int (iI k)), (0, .ref 530)]) (st' := [.ref 530]) rfl ?_
        refine T_p xr_162_57 xn_162 (pc' := 58) (ls' := [(1, .int (iI k)), (0, .ref 530)]) (st' := [.int (iI 1), .ref 530]) rfl ?_
        refine T_p xr_162_58 xn_162 (pc' := 59) (ls' := [(1, .int (iI k)), (0, .ref 530)]) (st' := [.ref 530, .int (iI 1), .ref 530]) rfl ?_
        refine T_get xr_162_59 h5263 rfl (v := .int (iI (o 4))) rfl (pc' := 62) rfl ?_
        refine T_zisub xr_162_62 (z := 1 - (o 4)) rfl (pc' := 63) rfl ?_
        obtain ⟨b1, hb1⟩ : ∃ z : Int, z = 1 - o 4 := ⟨_, rfl⟩
        have hbb : 0 ≤ o 4 ∧ o 4 ≤ 1 ∧ 0 ≤ b1 ∧ b1 ≤ 1 ∧ ¬ o 4 = b1 := by omega
        refine T_ie (y := iI b1) (by rw [hb1]) ?_
        refine T_put xr_162_63 h5263 rfl (Nat.le_of_ble_eq_true rfl) rfl (fs' := [.ref 531, .int (iI 0), .ref 532, .int (iI (o 1)), .int (iI b1), .int (iI 0), .int (iI (-1)), .int (iI (o 7)), .int (iI 0), .int (iI (o 9)), .int (iI (o 10)), .int (iI (o 11)), .long nm, .ref 533, .ref 534, .ref 535, .ref 536, .ref 537, .ref 538, .ref 539, .ref 540, .ref 541, .ref 542, .ref 543, .ref 544, .ref 545, .ref 546, .ref 547, .int (iI (o 28)), .int (iI (o 29)), .int (iI (o 30)), .int (iI (o 31)), .int (iI (o 32)), .int (iI (o 33)), .ref 548, .ref 549, .ref 550, .ref 551, .int (iI (o 38)), .ref 552, .ref 553, .ref 554, .ref 555, .ref 556, .ref 557, .ref 558, .ref 559, .ref 560, .ref 561, .int (iI (o 49)), .ref 562, .ref 563, .ref 564, .ref 565, .ref 566, .ref 567, .ref 568, .ref 569, .int (iI (o 58)), .ref 570, .ref 571, .ref 572, .ref 573, .ref 574, .ref 575, .ref 576, .ref 577, .ref 578, .int (iI (o 68)), .int (iI (o 69)), .int (iI (o 70)), .ref 579]) rfl (pc' := 66) rfl (fun S5266 h5267 n5268 e5269 => ?_)
        refine T_p xr_162_66 xn_162 (pc' := 67) (ls' := [(1, .int (iI k)), (0, .ref 530)]) (st' := [.ref 530]) rfl ?_
        refine T_p xr_162_67 xn_162 (pc' := 68) (ls' := [(1, .int (iI k)), (0, .ref 530)]) (st' := [.int (iI 0), .ref 530]) rfl ?_
        refine T_put xr_162_68 h5267 rfl (Nat.le_of_ble_eq_true rfl) rfl (fs' := [.ref 531, .int (iI 0), .ref 532, .int (iI (o 1)), .int (iI b1), .int (iI 0), .int (iI (-1)), .int (iI (o 7)), .int (iI 0), .int (iI (o 9)), .int (iI (o 10)), .int (iI (o 11)), .long nm, .ref 533, .ref 534, .ref 535, .ref 536, .ref 537, .ref 538, .ref 539, .ref 540, .ref 541, .ref 542, .ref 543, .ref 544, .ref 545, .ref 546, .ref 547, .int (iI 0), .int (iI (o 29)), .int (iI (o 30)), .int (iI (o 31)), .int (iI (o 32)), .int (iI (o 33)), .ref 548, .ref 549, .ref 550, .ref 551, .int (iI (o 38)), .ref 552, .ref 553, .ref 554, .ref 555, .ref 556, .ref 557, .ref 558, .ref 559, .ref 560, .ref 561, .int (iI (o 49)), .ref 562, .ref 563, .ref 564, .ref 565, .ref 566, .ref 567, .ref 568, .ref 569, .int (iI (o 58)), .ref 570, .ref 571, .ref 572, .ref 573, .ref 574, .ref 575, .ref 576, .ref 577, .ref 578, .int (iI (o 68)), .int (iI (o 69)), .int (iI (o 70)), .ref 579]) rfl (pc' := 71) rfl (fun S5270 h5271 n5272 e5273 => ?_)
        refine T_p xr_162_71 xn_162 (pc' := 72) (ls' := [(1, .int (iI k)), (0, .ref 530)]) (st' := [.ref 530]) rfl ?_
        refine T_p xr_162_72 xn_162 (pc' := 73) (ls' := [(1, .int (iI k)), (0, .ref 530)]) (st' := [.int (iI 0), .ref 530]) rfl ?_
        refine T_put xr_162_73 h5271 rfl (Nat.le_of_ble_eq_true rfl) rfl (fs' := [.ref 531, .int (iI 0), .ref 532, .int (iI (o 1)), .int (iI b1), .int (iI 0), .int (iI (-1)), .int (iI (o 7)), .int (iI 0), .int (iI (o 9)), .int (iI (o 10)), .int (iI (o 11)), .long nm, .ref 533, .ref 534, .ref 535, .ref 536, .ref 537, .ref 538, .ref 539, .ref 540, .ref 541, .ref 542, .ref 543, .ref 544, .ref 545, .ref 546, .ref 547, .int (iI 0), .int (iI (o 29)), .int (iI 0), .int (iI (o 31)), .int (iI (o 32)), .int (iI (o 33)), .ref 548, .ref 549, .ref 550, .ref 551, .int (iI (o 38)), .ref 552, .ref 553, .ref 554, .ref 555, .ref 556, .ref 557, .ref 558, .ref 559, .ref 560, .ref 561, .int (iI (o 49)), .ref 562, .ref 563, .ref 564, .ref 565, .ref 566, .ref 567, .ref 568, .ref 569, .int (iI (o 58)), .ref 570, .ref 571, .ref 572, .ref 573, .ref 574, .ref 575, .ref 576, .ref 577, .ref 578, .int (iI (o 68)), .int (iI (o 69)), .int (iI (o 70)), .ref 579]) rfl (pc' := 76) rfl (fun S5274 h5275 n5276 e5277 => ?_)
        refine T_p xr_162_76 xn_162 (pc' := 77) (ls' := [(1, .int (iI k)), (0, .ref 530)]) (st' := [.ref 530]) rfl ?_
        refine T_p xr_162_77 xn_162 (pc' := 78) (ls' := [(1, .int (iI k)), (0, .ref 530)]) (st' := [.int (iI 1), .ref 530]) rfl ?_
        refine T_put xr_162_78 h5275 rfl (Nat.le_of_ble_eq_true rfl) rfl (fs' := [.ref 531, .int (iI 0), .ref 532, .int (iI (o 1)), .int (iI b1), .int (iI 0), .int (iI (-1)), .int (iI (o 7)), .int (iI 0), .int (iI (o 9)), .int (iI (o 10)), .int (iI (o 11)), .long nm, .ref 533, .ref 534, .ref 535, .ref 536, .ref 537, .ref 538, .ref 539, .ref 540, .ref 541, .ref 542, .ref 543, .ref 544, .ref 545, .ref 546, .ref 547, .int (iI 0), .int (iI 1), .int (iI 0), .int (iI (o 31)), .int (iI (o 32)), .int (iI (o 33)), .ref 548, .ref 549, .ref 550, .ref 551, .int (iI (o 38)), .ref 552, .ref 553, .ref 554, .ref 555, .ref 556, .ref 557, .ref 558, .ref 559, .ref 560, .ref 561, .int (iI (o 49)), .ref 562, .ref 563, .ref 564, .ref 565, .ref 566, .ref 567, .ref 568, .ref 569, .int (iI (o 58)), .ref 570, .ref 571, .ref 572, .ref 573, .ref 574, .ref 575, .ref 576, .ref 577, .ref 578, .int (iI (o 68)), .int (iI (o 69)), .int (iI (o 70)), .ref 579]) rfl (pc' := 81) rfl (fun S5278 h5279 n5280 e5281 => ?_)
        refine T_p xr_162_81 xn_162 (pc' := 82) (ls' := [(1, .int (iI k)), (0, .ref 530)]) (st' := [.ref 530]) rfl ?_
        refine T_get xr_162_82 h5279 rfl (v := .ref 534) rfl (pc' := 85) rfl ?_
        refine T_p xr_162_85 xn_162 (pc' := 87) (ls' := [(1, .int (iI k)), (0, .ref 530)]) (st' := [.int (iI 11), .ref 534]) rfl ?_
        refine T_p xr_162_87 xn_162 (pc' := 88) (ls' := [(1, .int (iI k)), (0, .ref 530)]) (st' := [.ref 530, .int (iI 11), .ref 534]) rfl ?_
        refine T_get xr_162_88 h5279 rfl (v := .int (iI b1)) rfl (pc' := 91) rfl ?_
        refine T_zimul xr_162_91 (z := 11 * b1) rfl (pc' := 92) rfl ?_
        refine T_p xr_162_92 xn_162 (pc' := 95) (ls' := [(1, .int (iI k)), (0, .ref 530)]) (st' := [.long (Int64.ofNat 6384748), .int (iI (11 * b1)), .ref 534]) rfl ?_
        have h5282 := (n5280 534 (by decide)).trans ((n5276 534 (by decide)).trans ((n5272 534 (by decide)).trans ((n5268 534 (by decide)).trans ((n5264 534 (by decide)).trans ((n5260 534 (by decide)).trans ((hF5253.1 534 (by first | decide | omega)).trans ((n5247 534 (by decide)).trans ((n5243 534 (by decide)).trans ((n5239 534 (by decide)).trans (hA534))))))))))
        refine T_zlast xr_162_95 h5282 (pc' := 96) rfl (fun S5283 h5284 n5285 e5286 => ?_)
        refine T_p xr_162_96 xn_162 (pc' := 97) (ls' := [(1, .int (iI k)), (0, .ref 530)]) (st' := [.ref 530]) rfl ?_
        have h5287 := (n5285 530 (by decide)).trans (h5279)
        refine T_get xr_162_97 h5287 rfl (v := .ref 536) rfl (pc' := 100) rfl ?_
        refine T_p xr_162_100 xn_162 (pc' := 102) (ls' := [(1, .int (iI k)), (0, .ref 530)]) (st' := [.int (iI 11), .ref 536]) rfl ?_
        refine T_p xr_162_102 xn_162 (pc' := 103) (ls' := [(1, .int (iI k)), (0, .ref 530)]) (st' := [.ref 530, .int (iI 11), .ref 536]) rfl ?_
        refine T_get xr_162_103 h5287 rfl (v := .int (iI b1)) rfl (pc' := 106) rfl ?_
        refine T_zimul xr_162_106 (z := 11 * b1) rfl (pc' := 107) rfl ?_
        refine T_p xr_162_107 xn_162 (pc' := 108) (ls' := [(1, .int (iI k)), (0, .ref 530)]) (st' := [.int (iI (-1)), .int (iI (11 * b1)), .ref 536]) rfl ?_
        have h5288 := (n5285 536 (by decide)).trans ((n5280 536 (by decide)).trans ((n5276 536 (by decide)).trans ((n5272 536 (by decide)).trans ((n5268 536 (by decide)).trans ((n5264 536 (by decide)).trans ((n5260 536 (by decide)).trans ((hF5253.1 536 (by first | decide | omega)).trans ((n5247 536 (by decide)).trans ((n5243 536 (by decide)).trans ((n5239 536 (by decide)).trans (hA536)))))))))))
        refine T_ziast xr_162_108 h5288 (pc' := 109) rfl (fun S5289 h5290 n5291 e5292 => ?_)
        refine T_p xr_162_109 xn_162 (pc' := 110) (ls' := [(1, .int (iI k)), (0, .ref 530)]) (st' := [.ref 530]) rfl ?_
        have h5293 := (n5291 530 (by decide)).trans (h5287)
        refine T_cv (S := S5289) (q := 530) xr_162_110 xf_141.1 xf_141.2.1 xn_141 (as := []) (r := []) rfl h5293 (Nat.le_of_ble_eq_true rfl) (Nat.le_of_ble_eq_true rfl) (pc' := 113) rfl (ls' := [(0, .ref 530)]) rfl ?_
        have h5294 := (n5291 532 (by decide)).trans ((n5285 532 (by decide)).trans ((n5280 532 (by decide)).trans ((n5276 532 (by decide)).trans ((n5272 532 (by decide)).trans ((n5268 532 (by decide)).trans ((n5264 532 (by decide)).trans ((n5260 532 (by decide)).trans (htx1))))))))
        refine T_mono (r_nx0 sc S5289 (X_ou (X_ou (X_ou (X_ou (X_ou (X_ou (X_ou (X_ou (X_ou o 1 0) 3 (o 1)) 4 b1) 5 0) 6 (-1)) 8 0) 28 0) 29 1) 30 0) nm tx1 tb len n so pl ct E h5293 h5294 (show (o 1) = len from by first | assumption | omega) hl htx hX (show 0 = 0 from by omega)) (fun v5295 S5296 h5297 => ?_)
        rcases h5297 with ⟨at5298, en5299, tk5300, nu5301, dg5302, nm5303, hv5304, hp5305, hM5306, hf5307⟩
        rw [hv5304]
        have h5308 : S5296.1 530 = .inr (11, [.ref 531, .int (iI 0), .ref 532, .int (iI (o 1)), .int (iI b1), .int (iI 0), .int (iI (-1)), .int (iI at5298), .int (iI en5299), .int (iI tk5300), .int (iI nu5301), .int (iI dg5302), .long nm5303, .ref 533, .ref 534, .ref 535, .ref 536, .ref 537, .ref 538, .ref 539, .ref 540, .ref 541, .ref 542, .ref 543, .ref 544, .ref 545, .ref 546, .ref 547, .int (iI 0), .int (iI 1), .int (iI 0), .int (iI (o 31)), .int (iI (o 32)), .int (iI (o 33)), .ref 548, .ref 549, .ref 550, .ref 551, .int (iI (o 38)), .ref 552, .ref 553, .ref 554, .ref 555, .ref 556, .ref 557, .ref 558, .ref 559, .ref 560, .ref 561, .int (iI (o 49)), .ref 562, .ref 563, .ref 564, .ref 565, .ref 566, .ref 567, .ref 568, .ref 569, .int (iI (o 58)), .ref 570, .ref 571, .ref 572, .ref 573, .ref 574, .ref 575, .ref 576, .ref 577, .ref 578, .int (iI (o 68)), .int (iI (o 69)), .int (iI (o 70)), .ref 579]) := hM5306
        obtain ⟨⟨_, _⟩, ⟨_, _⟩, hk5309, ⟨_, _⟩, hk5309e, ⟨_, _⟩, ⟨_, _⟩⟩ := R_tk_f hX hp5305
        show X_T sc 162 (113, [(1, .int (iI k)), (0, .ref 530)], [], S5296) _
        have h5315 := (hf5307.1 533 (by first | decide | omega)).trans ((n5291 533 (by decide)).trans ((n5285 533 (by decide)).trans ((n5280 533 (by decide)).trans ((n5276 533 (by decide)).trans ((n5272 533 (by decide)).trans ((n5268 533 (by decide)).trans ((n5264 533 (by decide)).trans ((n5260 533 (by decide)).trans ((hF5253.1 533 (by first | decide | omega)).trans ((n5247 533 (by decide)).trans ((n5243 533 (by decide)).trans ((n5239 533 (by decide)).trans (hA533)))))))))))))
        have h5316 := (hf5307.1 534 (by first | decide | omega)).trans ((n5291 534 (by decide)).trans (h5284))
        have h5317 := (hf5307.1 535 (by first | decide | omega)).trans ((n5291 535 (by decide)).trans ((n5285 535 (by decide)).trans ((n5280 535 (by decide)).trans ((n5276 535 (by decide)).trans ((n5272 535 (by decide)).trans ((n5268 535 (by decide)).trans ((n5264 535 (by decide)).trans ((n5260 535 (by decide)).trans ((hF5253.1 535 (by first | decide | omega)).trans ((n5247 535 (by decide)).trans ((n5243 535 (by decide)).trans ((n5239 535 (by decide)).trans (hA535)))))))))))))
        have h5318 := (hf5307.1 536 (by first | decide | omega)).trans (h5290)
        have h5319 := (hf5307.1 537 (by first | decide | omega)).trans ((n5291 537 (by decide)).trans ((n5285 537 (by decide)).trans ((n5280 537 (by decide)).trans ((n5276 537 (by decide)).trans ((n5272 537 (by decide)).trans ((n5268 537 (by decide)).trans ((n5264 537 (by decide)).trans ((n5260 537 (by decide)).trans ((hF5253.1 537 (by first | decide | omega)).trans ((n5247 537 (by decide)).trans ((n5243 537 (by decide)).trans ((n5239 537 (by decide)).trans (hA537)))))))))))))
        have h5320 := (hf5307.1 538 (by first | decide | omega)).trans ((n5291 538 (by decide)).trans ((n5285 538 (by decide)).trans ((n5280 538 (by decide)).trans ((n5276 538 (by decide)).trans ((n5272 538 (by decide)).trans ((n5268 538 (by decide)).trans ((n5264 538 (by decide)).trans ((n5260 538 (by decide)).trans ((hF5253.1 538 (by first | decide | omega)).trans ((n5247 538 (by decide)).trans ((n5243 538 (by decide)).trans ((n5239 538 (by decide)).trans (hA538)))))))))))))
        have h5321 := (hf5307.1 539 (by first | decide | omega)).trans ((n5291 539 (by decide)).trans ((n5285 539 (by decide)).trans ((n5280 539 (by decide)).trans ((n5276 539 (by decide)).trans ((n5272 539 (by decide)).trans ((n5268 539 (by decide)).trans ((n5264 539 (by decide)).trans ((n5260 539 (by decide)).trans ((hF5253.1 539 (by first | decide | omega)).trans ((n5247 539 (by decide)).trans ((n5243 539 (by decide)).trans ((n5239 539 (by decide)).trans (hA539)))))))))))))
        have h5322 := (hf5307.1 540 (by first | decide | omega)).trans ((n5291 540 (by decide)).trans ((n5285 540 (by decide)).trans ((n5280 540 (by decide)).trans ((n5276 540 (by decide)).trans ((n5272 540 (by decide)).trans ((n5268 540 (by decide)).trans ((n5264 540 (by decide)).trans ((n5260 540 (by decide)).trans ((hF5253.1 540 (by first | decide | omega)).trans ((n5247 540 (by decide)).trans ((n5243 540 (by decide)).trans ((n5239 540 (by decide)).trans (hA540)))))))))))))
        have h5323 := (hf5307.1 541 (by first | decide | omega)).trans ((n5291 541 (by decide)).trans ((n5285 541 (by decide)).trans ((n5280 541 (by decide)).trans ((n5276 541 (by decide)).trans ((n5272 541 (by decide)).trans ((n5268 541 (by decide)).trans ((n5264 541 (by decide)).trans ((n5260 541 (by decide)).trans ((hF5253.1 541 (by first | decide | omega)).trans ((n5247 541 (by decide)).trans ((n5243 541 (by decide)).trans ((n5239 541 (by decide)).trans (hA541)))))))))))))
        have h5324 := (hf5307.1 542 (by first | decide | omega)).trans ((n5291 542 (by decide)).trans ((n5285 542 (by decide)).trans ((n5280 542 (by decide)).trans ((n5276 542 (by decide)).trans ((n5272 542 (by decide)).trans ((n5268 542 (by decide)).trans ((n5264 542 (by decide)).trans ((n5260 542 (by decide)).trans ((hF5253.1 542 (by first | decide | omega)).trans ((n5247 542 (by decide)).trans ((n5243 542 (by decide)).trans ((n5239 542 (by decide)).trans (hA542)))))))))))))
        have h5325 := (hf5307.1 543 (by first | decide | omega)).trans ((n5291 543 (by decide)).trans ((n5285 543 (by decide)).trans ((n5280 543 (by decide)).trans ((n5276 543 (by decide)).trans ((n5272 543 (by decide)).trans ((n5268 543 (by decide)).trans ((n5264 543 (by decide)).trans ((n5260 543 (by decide)).trans ((hF5253.1 543 (by first | decide | omega)).trans ((n5247 543 (by decide)).trans ((n5243 543 (by decide)).trans ((n5239 543 (by decide)).trans (hA543)))))))))))))
        have h5326 := (hf5307.1 544 (by first | decide | omega)).trans ((n5291 544 (by decide)).trans ((n5285 544 (by decide)).trans ((n5280 544 (by decide)).trans ((n5276 544 (by decide)).trans ((n5272 544 (by decide)).trans ((n5268 544 (by decide)).trans ((n5264 544 (by decide)).trans ((n5260 544 (by decide)).trans ((hF5253.1 544 (by first | decide | omega)).trans ((n5247 544 (by decide)).trans ((n5243 544 (by decide)).trans ((n5239 544 (by decide)).trans (hA544)))))))))))))
        have h5327 := (hf5307.1 545 (by first | decide | omega)).trans ((n5291 545 (by decide)).trans ((n5285 545 (by decide)).trans ((n5280 545 (by decide)).trans ((n5276 545 (by decide)).trans ((n5272 545 (by decide)).trans ((n5268 545 (by decide)).trans ((n5264 545 (by decide)).trans ((n5260 545 (by decide)).trans ((hF5253.1 545 (by first | decide | omega)).trans ((n5247 545 (by decide)).trans ((n5243 545 (by decide)).trans ((n5239 545 (by decide)).trans (hA545)))))))))))))
        have h5328 := (hf5307.1 546 (by first | decide | omega)).trans ((n5291 546 (by decide)).trans ((n5285 546 (by decide)).trans ((n5280 546 (by decide)).trans ((n5276 546 (by decide)).trans ((n5272 546 (by decide)).trans ((n5268 546 (by decide)).trans ((n5264 546 (by decide)).trans ((n5260 546 (by decide)).trans ((hF5253.1 546 (by first | decide | omega)).trans ((n5247 546 (by decide)).trans ((n5243 546 (by decide)).trans ((n5239 546 (by decide)).trans (hA546)))))))))))))
        have h5329 := (hf5307.1 547 (by first | decide | omega)).trans ((n5291 547 (by decide)).trans ((n5285 547 (by decide)).trans ((n5280 547 (by decide)).trans ((n5276 547 (by decide)).trans ((n5272 547 (by decide)).trans ((n5268 547 (by decide)).trans ((n5264 547 (by decide)).trans ((n5260 547 (by decide)).trans ((hF5253.1 547 (by first | decide | omega)).trans ((n5247 547 (by decide)).trans ((n5243 547 (by decide)).trans ((n5239 547 (by decide)).trans (hA547)))))))))))))
        have L5310 : ∀ (m5312 : Nat) (S5330 : X_S) (line : Int) (K1 : X_Kp) (f1 : Int) (g1 : Int) (at1 : Int) (en1 : Int) (tk1 : Int) (nu1 : Int) (dg1 : Int) (rc1 : Int) (kc1 : Int) (wc1 : Int) (nm1 : Int64) (rN1 : Int → Int64) (kN1 : Int → Int64) (tg1 : Int → Int) (kU1 : Int → Int) (wR1 : Int → Int) (wL1 : Int → Int) (wK1 : Int → Int) (wM1 : Int → Int) (wH1 : Int → Int) (wS1 : Int → Int) (sO1 : Int → Int) (sN1 : Int → Int) (eP1 : Int → Int64) (eH1 : Int → Int) (hK1 : Int → Int) (hM1 : S5330.1 530 = .inr (11, [.ref 531, .int (iI 0), .ref 532, .int (iI (o 1)), .int (iI b1), .int (iI f1), .int (iI g1), .int (iI at1), .int (iI en1), .int (iI tk1), .int (iI nu1), .int (iI dg1), .long nm1, .ref 533, .ref 534, .ref 535, .ref 536, .ref 537, .ref 538, .ref 539, .ref 540, .ref 541, .ref 542, .ref 543, .ref 544, .ref 545, .ref 546, .ref 547, .int (iI rc1), .int (iI kc1), .int (iI wc1), .int (iI (o 31)), .int (iI (o 32)), .int (iI (o 33)), .ref 548, .ref 549, .ref 550, .ref 551, .int (iI (o 38)), .ref 552, .ref 553, .ref 554, .ref 555, .ref 556, .ref 557, .ref 558, .ref 559, .ref 560, .ref 561, .int (iI (o 49)), .ref 562, .ref 563, .ref 564, .ref 565, .ref 566, .ref 567, .ref 568, .ref 569, .int (iI (o 58)), .ref 570, .ref 571, .ref 572, .ref 573, .ref 574, .ref 575, .ref 576, .ref 577, .ref 578, .int (iI (o 68)), .int (iI (o 69)), .int (iI (o 70)), .ref 579])) (hA533_ : S5330.1 533 = .inl (.long, 24, .inr (.inl fun k : Nat => rN1 (k : Int)))) (hA534_ : S5330.1 534 = .inl (.long, 22, .inr (.inl fun k : Nat => kN1 (k : Int)))) (hA535_ : S5330.1 535 = .inl (.boolean, 288, .inl fun k : Nat => iI (tg1 (k : Int)))) (hA536_ : S5330.1 536 = .inl (.int, 22, .inl fun k : Nat => iI (kU1 (k : Int)))) (hA537_ : S5330.1 537 = .inl (.int, 60, .inl fun k : Nat => iI (wR1 (k : Int)))) (hA538_ : S5330.1 538 = .inl (.int, 60, .inl fun k : Nat => iI (wL1 (k : Int)))) (hA539_ : S5330.1 539 = .inl (.int, 60, .inl fun k : Nat => iI (wK1 (k : Int)))) (hA540_ : S5330.1 540 = .inl (.int, 60, .inl fun k : Nat => iI (wM1 (k : Int)))) (hA541_ : S5330.1 541 = .inl (.int, 60, .inl fun k : Nat => iI (wH1 (k : Int)))) (hA542_ : S5330.1 542 = .inl (.int, 60, .inl fun k : Nat => iI (wS1 (k : Int)))) (hA543_ : S5330.1 543 = .inl (.int, 1800, .inl fun k : Nat => iI (sO1 (k : Int)))) (hA544_ : S5330.1 544 = .inl (.int, 1800, .inl fun k : Nat => iI (sN1 (k : Int)))) (hA545_ : S5330.1 545 = .inl (.long, 480, .inr (.inl fun k : Nat => eP1 (k : Int)))) (hA546_ : S5330.1 546 = .inl (.int, 480, .inl fun k : Nat => iI (eH1 (k : Int)))) (hA547_ : S5330.1 547 = .inl (.int, 240, .inl fun k : Nat => iI (hK1 (k : Int)))) (hF5314 : X_Fr (fun q => q = 530 ∨ (533 ≤ q ∧ q ≤ 547)) S5296 S5330) (hf1 : 0 ≤ f1 ∧ f1 ≤ 5) (hgd : f1 = 0 → R_tk n so pl ct E K1.1 at1 en1 tk1 nu1 dg1 nm1 ∧ sp_lines n so ct (2001 - line).toNat K1 = sp_lines n so ct 2001 (0, 0, 1, 0, rn0, lo0, X_ug kn0 0 (Int64.ofNat 6384748), X_ug ab0 0 1, D0, W0) ∧ X_Kok K1 ∧ X_K4 K1 ∧ R_bk b1 K1 rN1 kN1 tg1 kU1 wR1 wL1 wK1 wM1 wH1 wS1 sO1 sN1 eP1 eH1 hK1 ∧ (rc1 = K1.2.1 ∧ kc1 = K1.2.2.1 ∧ wc1 = K1.2.2.2.1) ∧ (0 ≤ line ∧ line ≤ K1.1)) (hbd : ¬ f1 = 0 → sp_lines n so ct 2001 (0, 0, 1, 0, rn0, lo0, X_ug kn0 0 (Int64.ofNat 6384748), X_ug ab0 0 1, D0, W0) = none) (hO : R_bk (o 4) KO rN1 kN1 tg1 kU1 wR1 wL1 wK1 wM1 wH1 wS1 sO1 sN1 eP1 eH1 hK1) (hm5313 : (if f1 = 0 then ((2002 - line).toNat : Int) else 0) < m5312), X_T sc 162 (113, [(0, .ref 530)], [], S5330) Q := by
          intro m5312
          induction m5312 with
          | zero =>
            intro S5330 line K1 f1 g1 at1 en1 tk1 nu1 dg1 rc1 kc1 wc1 nm1 rN1 kN1 tg1 kU1 wR1 wL1 wK1 wM1 wH1 wS1 sO1 sN1 eP1 eH1 hK1 hM1 hA533_ hA534_ hA535_ hA536_ hA537_ hA538_ hA539_ hA540_ hA541_ hA542_ hA543_ hA544_ hA545_ hA546_ hA547_ hF5314 hf1 hgd hbd hO hm5313
            exact (show False by omega).elim
          | succ m5312 ih5311 =>
            intro S5330 line K1 f1 g1 at1 en1 tk1 nu1 dg1 rc1 kc1 wc1 nm1 rN1 kN1 tg1 kU1 wR1 wL1 wK1 wM1 wH1 wS1 sO1 sN1 eP1 eH1 hK1 hM1 hA533_ hA534_ hA535_ hA536_ hA537_ hA538_ hA539_ hA540_ hA541_ hA542_ hA543_ hA544_ hA545_ hA546_ hA547_ hF5314 hf1 hgd hbd hO hm5313
            refine T_p xr_162_113 xn_162 (pc' := 114) (ls' := [(0, .ref 530)]) (st' := [.ref 530]) rfl ?_
            refine T_cv (S := S5330) (q := 530) xr_162_114 xf_140.1 xf_140.2.1 xn_140 (as := []) (r := []) rfl hM1 (Nat.le_of_ble_eq_true rfl) (Nat.le_of_ble_eq_true rfl) (pc' := 117) rfl (ls' := [(0, .ref 530)]) rfl ?_
            refine T_mono (r_isGood sc S5330 (X_ou (X_ou (X_ou (X_ou (X_ou (X_ou (X_ou (X_ou (X_ou (X_ou (X_ou (X_ou (X_ou o 1 0) 3 (o 1)) 4 b1) 5 f1) 6 g1) 7 at1) 8 en1) 9 tk1) 10 nu1) 11 dg1) 28 rc1) 29 kc1) 30 wc1) nm1 hM1 (show 0 ≤ f1 ∧ f1 ≤ 5 from by omega)) (fun v5331 S5332 h5333 => ?_)
            rcases h5333 with ⟨hv5334, hf5335⟩
            rw [hv5334]
            rw [hf5335]
            show X_T sc 162 (117, [(0, .ref 530)], [.int (iI (bI (f1 = 0)))], S5330) _
            refine T_bif_eq xr_162_117 (t := 330) (pc' := 120) rfl rfl (fun c5336 => ?_) (fun c5336 => ?_)
            · skip
              have c5336 : ¬ (f1 = 0) := c5336
              refine T_p xr_162_330 xn_162 (pc' := 331) (ls' := [(0, .ref 530)]) (st' := [.ref 530]) rfl ?_
              refine T_cv (S := S5330) (q := 530) xr_162_331 xf_140.1 xf_140.2.1 xn_140 (as := []) (r := []) rfl hM1 (Nat.le_of_ble_eq_true rfl) (Nat.le_of_ble_eq_true rfl) (pc' := 334) rfl (ls' := [(0, .ref 530)]) rfl ?_
              refine T_mono (r_isGood sc S5330 (X_ou (X_ou (X_ou (X_ou (X_ou (X_ou (X_ou (X_ou (X_ou (X_ou (X_ou (X_ou (X_ou o 1 0) 3 (o 1)) 4 b1) 5 f1) 6 g1) 7 at1) 8 en1) 9 tk1) 10 nu1) 11 dg1) 28 rc1) 29 kc1) 30 wc1) nm1 hM1 (show 0 ≤ f1 ∧ f1 ≤ 5 from by omega)) (fun v5337 S5338 h5339 => ?_)
              rcases h5339 with ⟨hv5340, hf5341⟩
              rw [hv5340]
              rw [hf5341]
              show X_T sc 162 (334, [(0, .ref 530)], [.int (iI (bI (f1 = 0)))], S5330) _
              refine T_bif_ne xr_162_334 (t := 373) (pc' := 337) rfl rfl (fun c5342 => ?_) (fun c5342 => ?_)
              · skip
                have c5342 : (f1 = 0) := c5342
                exact (show False by first | contradiction | omega).elim
              · skip
                have c5342 : ¬ (f1 = 0) := c5342
                refine T_p xr_162_337 xn_162 (pc' := 338) (ls' := [(0, .ref 530)]) (st' := [.ref 530]) rfl ?_
                refine T_p xr_162_338 xn_162 (pc' := 339) (ls' := [(0, .ref 530)]) (st' := [.int (iI 1), .ref 530]) rfl ?_
                refine T_p xr_162_339 xn_162 (pc' := 340) (ls' := [(0, .ref 530)]) (st' := [.ref 530, .int (iI 1), .ref 530]) rfl ?_
                refine T_get xr_162_340 hM1 rfl (v := .int (iI b1)) rfl (pc' := 343) rfl ?_
                refine T_zisub xr_162_343 (z := 1 - b1) rfl (pc' := 344) rfl ?_
                refine T_ie (y := iI (o 4)) (by congr 1; omega) ?_
                refine T_put xr_162_344 hM1 rfl (Nat.le_of_ble_eq_true rfl) rfl (fs' := [.ref 531, .int (iI 0), .ref 532, .int (iI (o 1)), .int (iI (o 4)), .int (iI f1), .int (iI g1), .int (iI at1), .int (iI en1), .int (iI tk1), .int (iI nu1), .int (iI dg1), .long nm1, .ref 533, .ref 534, .ref 535, .ref 536, .ref 537, .ref 538, .ref 539, .ref 540, .ref 541, .ref 542, .ref 543, .ref 544, .ref 545, .ref 546, .ref 547, .int (iI rc1), .int (iI kc1), .int (iI wc1), .int (iI (o 31)), .int (iI (o 32)), .int (iI (o 33)), .ref 548, .ref 549, .ref 550, .ref 551, .int (iI (o 38)), .ref 552, .ref 553, .ref 554, .ref 555, .ref 556, .ref 557, .ref 558, .ref 559, .ref 560, .ref 561, .int (iI (o 49)), .ref 562, .ref 563, .ref 564, .ref 565, .ref 566, .ref 567, .ref 568, .ref 569, .int (iI (o 58)), .ref 570, .ref 571, .ref 572, .ref 573, .ref 574, .ref 575, .ref 576, .ref 577, .ref 578, .int (iI (o 68)), .int (iI (o 69)), .int (iI (o 70)), .ref 579]) rfl (pc' := 347) rfl (fun S5343 h5344 n5345 e5346 => ?_)
                refine T_p xr_162_347 xn_162 (pc' := 348) (ls' := [(0, .ref 530)]) (st' := [.ref 530]) rfl ?_
                refine T_p xr_162_348 xn_162 (pc' := 349) (ls' := [(0, .ref 530)]) (st' := [.ref 530, .ref 530]) rfl ?_
                refine T_get xr_162_349 h5344 rfl (v := .int (iI (o 31))) rfl (pc' := 352) rfl ?_
                refine T_put xr_162_352 h5344 rfl (Nat.le_of_ble_eq_true rfl) rfl (fs' := [.ref 531, .int (iI 0), .ref 532, .int (iI (o 1)), .int (iI (o 4)), .int (iI f1), .int (iI g1), .int (iI at1), .int (iI en1), .int (iI tk1), .int (iI nu1), .int (iI dg1), .long nm1, .ref 533, .ref 534, .ref 535, .ref 536, .ref 537, .ref 538, .ref 539, .ref 540, .ref 541, .ref 542, .ref 543, .ref 544, .ref 545, .ref 546, .ref 547, .int (iI (o 31)), .int (iI kc1), .int (iI wc1), .int (iI (o 31)), .int (iI (o 32)), .int (iI (o 33)), .ref 548, .ref 549, .ref 550, .ref 551, .int (iI (o 38)), .ref 552, .ref 553, .ref 554, .ref 555, .ref 556, .ref 557, .ref 558, .ref 559, .ref 560, .ref 561, .int (iI (o 49)), .ref 562, .ref 563, .ref 564, .ref 565, .ref 566, .ref 567, .ref 568, .ref 569, .int (iI (o 58)), .ref 570, .ref 571, .ref 572, .ref 573, .ref 574, .ref 575, .ref 576, .ref 577, .ref 578, .int (iI (o 68)), .int (iI (o 69)), .int (iI (o 70)), .ref 579]) rfl (pc' := 355) rfl (fun S5347 h5348 n5349 e5350 => ?_)
                refine T_p xr_162_355 xn_162 (pc' := 356) (ls' := [(0, .ref 530)]) (st' := [.ref 530]) rfl ?_
                refine T_p xr_162_356 xn_162 (pc' := 357) (ls' := [(0, .ref 530)]) (st' := [.ref 530, .ref 530]) rfl ?_
                refine T_get xr_162_357 h5348 rfl (v := .int (iI (o 32))) rfl (pc' := 360) rfl ?_
                refine T_put xr_162_360 h5348 rfl (Nat.le_of_ble_eq_true rfl) rfl (fs' := [.ref 531, .int (iI 0), .ref 532, .int (iI (o 1)), .int (iI (o 4)), .int (iI f1), .int (iI g1), .int (iI at1), .int (iI en1), .int (iI tk1), .int (iI nu1), .int (iI dg1), .long nm1, .ref 533, .ref 534, .ref 535, .ref 536, .ref 537, .ref 538, .ref 539, .ref 540, .ref 541, .ref 542, .ref 543, .ref 544, .ref 545, .ref 546, .ref 547, .int (iI (o 31)), .int (iI (o 32)), .int (iI wc1), .int (iI (o 31)), .int (iI (o 32)), .int (iI (o 33)), .ref 548, .ref 549, .ref 550, .ref 551, .int (iI (o 38)), .ref 552, .ref 553, .ref 554, .ref 555, .ref 556, .ref 557, .ref 558, .ref 559, .ref 560, .ref 561, .int (iI (o 49)), .ref 562, .ref 563, .ref 564, .ref 565, .ref 566, .ref 567, .ref 568, .ref 569, .int (iI (o 58)), .ref 570, .ref 571, .ref 572, .ref 573, .ref 574, .ref 575, .ref 576, .ref 577, .ref 578, .int (iI (o 68)), .int (iI (o 69)), .int (iI (o 70)), .ref 579]) rfl (pc' := 363) rfl (fun S5351 h5352 n5353 e5354 => ?_)
                refine T_p xr_162_363 xn_162 (pc' := 364) (ls' := [(0, .ref 530)]) (st' := [.ref 530]) rfl ?_
                refine T_p xr_162_364 xn_162 (pc' := 365) (ls' := [(0, .ref 530)]) (st' := [.ref 530, .ref 530]) rfl ?_
                refine T_get xr_162_365 h5352 rfl (v := .int (iI (o 33))) rfl (pc' := 368) rfl ?_
                refine T_put xr_162_368 h5352 rfl (Nat.le_of_ble_eq_true rfl) rfl (fs' := [.ref 531, .int (iI 0), .ref 532, .int (iI (o 1)), .int (iI (o 4)), .int (iI f1), .int (iI g1), .int (iI at1), .int (iI en1), .int (iI tk1), .int (iI nu1), .int (iI dg1), .long nm1, .ref 533, .ref 534, .ref 535, .ref 536, .ref 537, .ref 538, .ref 539, .ref 540, .ref 541, .ref 542, .ref 543, .ref 544, .ref 545, .ref 546, .ref 547, .int (iI (o 31)), .int (iI (o 32)), .int (iI (o 33)), .int (iI (o 31)), .int (iI (o 32)), .int (iI (o 33)), .ref 548, .ref 549, .ref 550, .ref 551, .int (iI (o 38)), .ref 552, .ref 553, .ref 554, .ref 555, .ref 556, .ref 557, .ref 558, .ref 559, .ref 560, .ref 561, .int (iI (o 49)), .ref 562, .ref 563, .ref 564, .ref 565, .ref 566, .ref 567, .ref 568, .ref 569, .int (iI (o 58)), .ref 570, .ref 571, .ref 572, .ref 573, .ref 574, .ref 575, .ref 576, .ref 577, .ref 578, .int (iI (o 68)), .int (iI (o 69)), .int (iI (o 70)), .ref 579]) rfl (pc' := 371) rfl (fun S5355 h5356 n5357 e5358 => ?_)
                refine T_p xr_162_371 xn_162 (pc' := 372) (ls' := [(0, .ref 530)]) (st' := [.int (iI (-1))]) rfl ?_
                refine T_iret xr_162_372 xf_162.2.2 rfl ?_
                refine hQ _ _ ?_
                have h5359 := (n5357 533 (by decide)).trans ((n5353 533 (by decide)).trans ((n5349 533 (by decide)).trans ((n5345 533 (by decide)).trans (hA533_))))
                have h5360 := (n5357 534 (by decide)).trans ((n5353 534 (by decide)).trans ((n5349 534 (by decide)).trans ((n5345 534 (by decide)).trans (hA534_))))
                have h5361 := (n5357 535 (by decide)).trans ((n5353 535 (by decide)).trans ((n5349 535 (by decide)).trans ((n5345 535 (by decide)).trans (hA535_))))
                have h5362 := (n5357 536 (by decide)).trans ((n5353 536 (by decide)).trans ((n5349 536 (by decide)).trans ((n5345 536 (by decide)).trans (hA536_))))
                have h5363 := (n5357 537 (by decide)).trans ((n5353 537 (by decide)).trans ((n5349 537 (by decide)).trans ((n5345 537 (by decide)).trans (hA537_))))
                have h5364 := (n5357 538 (by decide)).trans ((n5353 538 (by decide)).trans ((n5349 538 (by decide)).trans ((n5345 538 (by decide)).trans (hA538_))))
                have h5365 := (n5357 539 (by decide)).trans ((n5353 539 (by decide)).trans ((n5349 539 (by decide)).trans ((n5345 539 (by decide)).trans (hA539_))))
                have h5366 := (n5357 540 (by decide)).trans ((n5353 540 (by decide)).trans ((n5349 540 (by decide)).trans ((n5345 540 (by decide)).trans (hA540_))))
                have h5367 := (n5357 541 (by decide)).trans ((n5353 541 (by decide)).trans ((n5349 541 (by decide)).trans ((n5345 541 (by decide)).trans (hA541_))))
                have h5368 := (n5357 542 (by decide)).trans ((n5353 542 (by decide)).trans ((n5349 542 (by decide)).trans ((n5345 542 (by decide)).trans (hA542_))))
                have h5369 := (n5357 543 (by decide)).trans ((n5353 543 (by decide)).trans ((n5349 543 (by decide)).trans ((n5345 543 (by decide)).trans (hA543_))))
                have h5370 := (n5357 544 (by decide)).trans ((n5353 544 (by decide)).trans ((n5349 544 (by decide)).trans ((n5345 544 (by decide)).trans (hA544_))))
                have h5371 := (n5357 545 (by decide)).trans ((n5353 545 (by decide)).trans ((n5349 545 (by decide)).trans ((n5345 545 (by decide)).trans (hA545_))))
                have h5372 := (n5357 546 (by decide)).trans ((n5353 546 (by decide)).trans ((n5349 546 (by decide)).trans ((n5345 546 (by decide)).trans (hA546_))))
                have h5373 := (n5357 547 (by decide)).trans ((n5353 547 (by decide)).trans ((n5349 547 (by decide)).trans ((n5345 547 (by decide)).trans (hA547_))))
                have h5374 := (n5357 532 (by decide)).trans ((n5353 532 (by decide)).trans ((n5349 532 (by decide)).trans ((n5345 532 (by decide)).trans ((hF5314.1 532 (by first | decide | omega)).trans ((hf5307.1 532 (by first | decide | omega)).trans (h5294))))))
                have h5375 := (n5357 574 (by decide)).trans ((n5353 574 (by decide)).trans ((n5349 574 (by decide)).trans ((n5345 574 (by decide)).trans ((hF5314.1 574 (by first | decide | omega)).trans ((hf5307.1 574 (by first | decide | omega)).trans ((n5291 574 (by decide)).trans ((n5285 574 (by decide)).trans ((n5280 574 (by decide)).trans ((n5276 574 (by decide)).trans ((n5272 574 (by decide)).trans ((n5268 574 (by decide)).trans ((n5264 574 (by decide)).trans ((n5260 574 (by decide)).trans ((hF5253.1 574 (by first | decide | omega)).trans ((n5247 574 (by decide)).trans ((n5243 574 (by decide)).trans ((n5239 574 (by decide)).trans (hA574))))))))))))))))))
                refine Or.inr ⟨at1, en1, tk1, nu1, dg1, nm1, f1, g1, rN1, kN1, tg1, kU1, wR1, wL1, wK1, wM1, wH1, wS1, sO1, sN1, eP1, eH1, hK1, tx1, rfl, hbd (by assumption), hO, (by unfold M_o; simp only [X_ou, Nat.reduceEqDiff, reduceIte]; exact h5356), h5359, h5360, h5361, h5362, h5363, h5364, h5365, h5366, h5367, h5368, h5369, h5370, h5371, h5372, h5373, h5374, ((((((((((((((((((X_Fr.rf).tr (X_Fr.of n5239 e5240 (by first | decide | exact ⟨Nat.le_add_right _ _, Nat.add_le_add_left (by decide) _⟩ | omega))).tr (X_Fr.of n5243 e5244 (by first | decide | exact ⟨Nat.le_add_right _ _, Nat.add_le_add_left (by decide) _⟩ | omega))).tr (X_Fr.of n5247 e5248 (by first | decide | exact ⟨Nat.le_add_right _ _, Nat.add_le_add_left (by decide) _⟩ | omega))).tr (X_Fr.mono ⟨hF5253.1, hF5253.2⟩ (fun q hq => by first | exact hq | (rcases hq with rfl <;> decide) | (rcases hq with rfl | rfl <;> decide) | (rcases hq with rfl | rfl | rfl <;> decide) | (rcases hq with rfl | rfl | rfl | rfl <;> decide) | (rcases hq with rfl | rfl | rfl | rfl | rfl <;> decide) | (rcases hq with rfl | rfl | rfl | rfl | rfl | rfl <;> decide) | (rcases hq with rfl | rfl | rfl | rfl | rfl | rfl | rfl <;> decide) | omega))).tr (X_Fr.of n5260 e5261 (by first | decide | exact ⟨Nat.le_add_right _ _, Nat.add_le_add_left (by decide) _⟩ | omega))).tr (X_Fr.of n5264 e5265 (by first | decide | exact ⟨Nat.le_add_right _ _, Nat.add_le_add_left (by decide) _⟩ | omega))).tr (X_Fr.of n5268 e5269 (by first | decide | exact ⟨Nat.le_add_right _ _, Nat.add_le_add_left (by decide) _⟩ | omega))).tr (X_Fr.of n5272 e5273 (by first | decide | exact ⟨Nat.le_add_right _ _, Nat.add_le_add_left (by decide) _⟩ | omega))).tr (X_Fr.of n5276 e5277 (by first | decide | exact ⟨Nat.le_add_right _ _, Nat.add_le_add_left (by decide) _⟩ | omega))).tr (X_Fr.of n5280 e5281 (by first | decide | exact ⟨Nat.le_add_right _ _, Nat.add_le_add_left (by decide) _⟩ | omega))).tr (X_Fr.of n5285 e5286 (by first | decide | exact ⟨Nat.le_add_right _ _, Nat.add_le_add_left (by decide) _⟩ | omega))).tr (X_Fr.of n5291 e5292 (by first | decide | exact ⟨Nat.le_add_right _ _, Nat.add_le_add_left (by decide) _⟩ | omega))).tr (X_Fr.mono ⟨hf5307.1, hf5307.2⟩ (fun q hq => by first | exact hq | (rcases hq with rfl <;> decide) | (rcases hq with rfl | rfl <;> decide) | (rcases hq with rfl | rfl | rfl <;> decide) | (rcases hq with rfl | rfl | rfl | rfl <;> decide) | (rcases hq with rfl | rfl | rfl | rfl | rfl <;> decide) | (rcases hq with rfl | rfl | rfl | rfl | rfl | rfl <;> decide) | (rcases hq with rfl | rfl | rfl | rfl | rfl | rfl | rfl <;> decide) | omega))).tr (X_Fr.mono ⟨hF5314.1, hF5314.2⟩ (fun q hq => by first | exact hq | (rcases hq with rfl <;> decide) | (rcases hq with rfl | rfl <;> decide) | (rcases hq with rfl | rfl | rfl <;> decide) | (rcases hq with rfl | rfl | rfl | rfl <;> decide) | (rcases hq with rfl | rfl | rfl | rfl | rfl <;> decide) | (rcases hq with rfl | rfl | rfl | rfl | rfl | rfl <;> decide) | (rcases hq with rfl | rfl | rfl | rfl | rfl | rfl | rfl <;> decide) | omega))).tr (X_Fr.of n5345 e5346 (by first | decide | exact ⟨Nat.le_add_right _ _, Nat.add_le_add_left (by decide) _⟩ | omega))).tr (X_Fr.of n5349 e5350 (by first | decide | exact ⟨Nat.le_add_right _ _, Nat.add_le_add_left (by decide) _⟩ | omega))).tr (X_Fr.of n5353 e5354 (by first | decide | exact ⟨Nat.le_add_right _ _, Nat.add_le_add_left (by decide) _⟩ | omega))).tr (X_Fr.of n5357 e5358 (by first | decide | exact ⟨Nat.le_add_right _ _, Nat.add_le_add_left (by decide) _⟩ | omega))⟩
            · skip
              have c5336 : (f1 = 0) := c5336
              obtain rfl : f1 = 0 := by omega
              obtain ⟨hT1, hR, hok, h4k, hB1, ⟨hq1, hq2, hq3⟩, hli⟩ := hgd rfl
              obtain ⟨ck, rc, kc, wc, rn, lo, kn, ab, D, W⟩ := K1
              simp only at hT1 hq1 hq2 hq3 hli
              have hok1 := hok.1
              have hok2 := hok.2.1
              have hok3 := hok.2.2.1
              simp only at hok1 hok2 hok3
              have hn2 := hX.2.1
              obtain ⟨⟨_, _⟩, ⟨_, _⟩, hk1, ⟨_, _⟩, hk1e, ⟨_, _⟩, ⟨_, _⟩⟩ := R_tk_f hX hT1
              obtain ⟨hB1r, hB1k, hB1w⟩ := id hB1
              have hM5376 : S5330.1 530 = .inr (11, [.ref 531, .int (iI 0), .ref 532, .int (iI (o 1)), .int (iI b1), .int (iI 0), .int (iI g1), .int (iI at1), .int (iI en1), .int (iI tk1), .int (iI nu1), .int (iI dg1), .long nm1, .ref 533, .ref 534, .ref 535, .ref 536, .ref 537, .ref 538, .ref 539, .ref 540, .ref 541, .ref 542, .ref 543, .ref 544, .ref 545, .ref 546, .ref 547, .int (iI rc), .int (iI kc), .int (iI wc), .int (iI (o 31)), .int (iI (o 32)), .int (iI (o 33)), .ref 548, .ref 549, .ref 550, .ref 551, .int (iI (o 38)), .ref 552, .ref 553, .ref 554, .ref 555, .ref 556, .ref 557, .ref 558, .ref 559, .ref 560, .ref 561, .int (iI (o 49)), .ref 562, .ref 563, .ref 564, .ref 565, .ref 566, .ref 567, .ref 568, .ref 569, .int (iI (o 58)), .ref 570, .ref 571, .ref 572, .ref 573, .ref 574, .ref 575, .ref 576, .ref 577, .ref 578, .int (iI (o 68)), .int (iI (o 69)), .int (iI (o 70)), .ref 579]) := by rw [← hq1, ← hq2, ← hq3]; exact hM1
              refine T_p xr_162_120 xn_162 (pc' := 121) (ls' := [(0, .ref 530)]) (st' := [.ref 530]) rfl ?_
              refine T_get xr_162_121 hM5376 rfl (v := .int (iI tk1)) rfl (pc' := 124) rfl ?_
              refine T_zif_eq xr_162_124 (t := 330) (pc' := 127) rfl rfl (fun c5377 => ?_) (fun c5377 => ?_)
              · skip
                have c5377 : tk1 = 0 := c5377
                refine T_p xr_162_330 xn_162 (pc' := 331) (ls' := [(0, .ref 530)]) (st' := [.ref 530]) rfl ?_
                refine T_cv (S := S5330) (q := 530) xr_162_331 xf_140.1 xf_140.2.1 xn_140 (as := []) (r := []) rfl hM5376 (Nat.le_of_ble_eq_true rfl) (Nat.le_of_ble_eq_true rfl) (pc' := 334) rfl (ls' := [(0, .ref 530)]) rfl ?_
                refine T_mono (r_isGood sc S5330 (X_ou (X_ou (X_ou (X_ou (X_ou (X_ou (X_ou (X_ou (X_ou (X_ou (X_ou (X_ou (X_ou o 1 0) 3 (o 1)) 4 b1) 5 0) 6 g1) 7 at1) 8 en1) 9 tk1) 10 nu1) 11 dg1) 28 rc) 29 kc) 30 wc) nm1 hM5376 (show 0 ≤ 0 ∧ 0 ≤ 5 from by omega)) (fun v5378 S5379 h5380 => ?_)
                rcases h5380 with ⟨hv5381, hf5382⟩
                rw [hv5381]
                rw [hf5382]
                show X_T sc 162 (334, [(0, .ref 530)], [.int (iI (bI ((0 : Int) = 0)))], S5330) _
                refine T_bif_ne xr_162_334 (t := 373) (pc' := 337) rfl rfl (fun c5383 => ?_) (fun c5383 => ?_)
                · skip
                  have c5383 : ((0 : Int) = 0) := c5383
                  refine T_p xr_162_373 xn_162 (pc' := 374) (ls' := [(0, .ref 530)]) (st' := [.ref 530]) rfl ?_
                  refine T_p xr_162_374 xn_162 (pc' := 375) (ls' := [(0, .ref 530)]) (st' := [.ref 530, .ref 530]) rfl ?_
                  refine T_get xr_162_375 hM5376 rfl (v := .int (iI rc)) rfl (pc' := 378) rfl ?_
                  refine T_put xr_162_378 hM5376 rfl (Nat.le_of_ble_eq_true rfl) rfl (fs' := [.ref 531, .int (iI 0), .ref 532, .int (iI (o 1)), .int (iI b1), .int (iI 0), .int (iI g1), .int (iI at1), .int (iI en1), .int (iI tk1), .int (iI nu1), .int (iI dg1), .long nm1, .ref 533, .ref 534, .ref 535, .ref 536, .ref 537, .ref 538, .ref 539, .ref 540, .ref 541, .ref 542, .ref 543, .ref 544, .ref 545, .ref 546, .ref 547, .int (iI rc), .int (iI kc), .int (iI wc), .int (iI rc), .int (iI (o 32)), .int (iI (o 33)), .ref 548, .ref 549, .ref 550, .ref 551, .int (iI (o 38)), .ref 552, .ref 553, .ref 554, .ref 555, .ref 556, .ref 557, .ref 558, .ref 559, .ref 560, .ref 561, .int (iI (o 49)), .ref 562, .ref 563, .ref 564, .ref 565, .ref 566, .ref 567, .ref 568, .ref 569, .int (iI (o 58)), .ref 570, .ref 571, .ref 572, .ref 573, .ref 574, .ref 575, .ref 576, .ref 577, .ref 578, .int (iI (o 68)), .int (iI (o 69)), .int (iI (o 70)), .ref 579]) rfl (pc' := 381) rfl (fun S5384 h5385 n5386 e5387 => ?_)
                  refine T_p xr_162_381 xn_162 (pc' := 382) (ls' := [(0, .ref 530)]) (st' := [.ref 530]) rfl ?_
                  refine T_p xr_162_382 xn_162 (pc' := 383) (ls' := [(0, .ref 530)]) (st' := [.ref 530, .ref 530]) rfl ?_
                  refine T_get xr_162_383 h5385 rfl (v := .int (iI kc)) rfl (pc' := 386) rfl ?_
                  refine T_put xr_162_386 h5385 rfl (Nat.le_of_ble_eq_true rfl) rfl (fs' := [.ref 531, .int (iI 0), .ref 532, .int (iI (o 1)), .int (iI b1), .int (iI 0), .int (iI g1), .int (iI at1), .int (iI en1), .int (iI tk1), .int (iI nu1), .int (iI dg1), .long nm1, .ref 533, .ref 534, .ref 535, .ref 536, .ref 537, .ref 538, .ref 539, .ref 540, .ref 541, .ref 542, .ref 543, .ref 544, .ref 545, .ref 546, .ref 547, .int (iI rc), .int (iI kc), .int (iI wc), .int (iI rc), .int (iI kc), .int (iI (o 33)), .ref 548, .ref 549, .ref 550, .ref 551, .int (iI (o 38)), .ref 552, .ref 553, .ref 554, .ref 555, .ref 556, .ref 557, .ref 558, .ref 559, .ref 560, .ref 561, .int (iI (o 49)), .ref 562, .ref 563, .ref 564, .ref 565, .ref 566, .ref 567, .ref 568, .ref 569, .int (iI (o 58)), .ref 570, .ref 571, .ref 572, .ref 573, .ref 574, .ref 575, .ref 576, .ref 577, .ref 578, .int (iI (o 68)), .int (iI (o 69)), .int (iI (o 70)), .ref 579]) rfl (pc' := 389) rfl (fun S5388 h5389 n5390 e5391 => ?_)
                  refine T_p xr_162_389 xn_162 (pc' := 390) (ls' := [(0, .ref 530)]) (st' := [.ref 530]) rfl ?_
                  refine T_p xr_162_390 xn_162 (pc' := 391) (ls' := [(0, .ref 530)]) (st' := [.ref 530, .ref 530]) rfl ?_
                  refine T_get xr_162_391 h5389 rfl (v := .int (iI wc)) rfl (pc' := 394) rfl ?_
                  refine T_put xr_162_394 h5389 rfl (Nat.le_of_ble_eq_true rfl) rfl (fs' := [.ref 531, .int (iI 0), .ref 532, .int (iI (o 1)), .int (iI b1), .int (iI 0), .int (iI g1), .int (iI at1), .int (iI en1), .int (iI tk1), .int (iI nu1), .int (iI dg1), .long nm1, .ref 533, .ref 534, .ref 535, .ref 536, .ref 537, .ref 538, .ref 539, .ref 540, .ref 541, .ref 542, .ref 543, .ref 544, .ref 545, .ref 546, .ref 547, .int (iI rc), .int (iI kc), .int (iI wc), .int (iI rc), .int (iI kc), .int (iI wc), .ref 548, .ref 549, .ref 550, .ref 551, .int (iI (o 38)), .ref 552, .ref 553, .ref 554, .ref 555, .ref 556, .ref 557, .ref 558, .ref 559, .ref 560, .ref 561, .int (iI (o 49)), .ref 562, .ref 563, .ref 564, .ref 565, .ref 566, .ref 567, .ref 568, .ref 569, .int (iI (o 58)), .ref 570, .ref 571, .ref 572, .ref 573, .ref 574, .ref 575, .ref 576, .ref 577, .ref 578, .int (iI (o 68)), .int (iI (o 69)), .int (iI (o 70)), .ref 579]) rfl (pc' := 397) rfl (fun S5392 h5393 n5394 e5395 => ?_)
                  refine T_p xr_162_397 xn_162 (pc' := 398) (ls' := [(0, .ref 530)]) (st' := [.ref 530]) rfl ?_
                  refine T_p xr_162_398 xn_162 (pc' := 399) (ls' := [(0, .ref 530)]) (st' := [.int (iI 0), .ref 530]) rfl ?_
                  refine T_put xr_162_399 h5393 rfl (Nat.le_of_ble_eq_true rfl) rfl (fs' := [.ref 531, .int (iI 0), .ref 532, .int (iI (o 1)), .int (iI b1), .int (iI 0), .int (iI g1), .int (iI at1), .int (iI en1), .int (iI tk1), .int (iI nu1), .int (iI dg1), .long nm1, .ref 533, .ref 534, .ref 535, .ref 536, .ref 537, .ref 538, .ref 539, .ref 540, .ref 541, .ref 542, .ref 543, .ref 544, .ref 545, .ref 546, .ref 547, .int (iI rc), .int (iI kc), .int (iI wc), .int (iI rc), .int (iI kc), .int (iI wc), .ref 548, .ref 549, .ref 550, .ref 551, .int (iI 0), .ref 552, .ref 553, .ref 554, .ref 555, .ref 556, .ref 557, .ref 558, .ref 559, .ref 560, .ref 561, .int (iI (o 49)), .ref 562, .ref 563, .ref 564, .ref 565, .ref 566, .ref 567, .ref 568, .ref 569, .int (iI (o 58)), .ref 570, .ref 571, .ref 572, .ref 573, .ref 574, .ref 575, .ref 576, .ref 577, .ref 578, .int (iI (o 68)), .int (iI (o 69)), .int (iI (o 70)), .ref 579]) rfl (pc' := 402) rfl (fun S5396 h5397 n5398 e5399 => ?_)
                  refine T_p xr_162_402 xn_162 (pc' := 403) (ls' := [(0, .ref 530)]) (st' := [.ref 530]) rfl ?_
                  refine T_p xr_162_403 xn_162 (pc' := 404) (ls' := [(0, .ref 530)]) (st' := [.int (iI 0), .ref 530]) rfl ?_
                  refine T_put xr_162_404 h5397 rfl (Nat.le_of_ble_eq_true rfl) rfl (fs' := [.ref 531, .int (iI 0), .ref 532, .int (iI (o 1)), .int (iI b1), .int (iI 0), .int (iI g1), .int (iI at1), .int (iI en1), .int (iI tk1), .int (iI nu1), .int (iI dg1), .long nm1, .ref 533, .ref 534, .ref 535, .ref 536, .ref 537, .ref 538, .ref 539, .ref 540, .ref 541, .ref 542, .ref 543, .ref 544, .ref 545, .ref 546, .ref 547, .int (iI rc), .int (iI kc), .int (iI wc), .int (iI rc), .int (iI kc), .int (iI wc), .ref 548, .ref 549, .ref 550, .ref 551, .int (iI 0), .ref 552, .ref 553, .ref 554, .ref 555, .ref 556, .ref 557, .ref 558, .ref 559, .ref 560, .ref 561, .int (iI 0), .ref 562, .ref 563, .ref 564, .ref 565, .ref 566, .ref 567, .ref 568, .ref 569, .int (iI (o 58)), .ref 570, .ref 571, .ref 572, .ref 573, .ref 574, .ref 575, .ref 576, .ref 577, .ref 578, .int (iI (o 68)), .int (iI (o 69)), .int (iI (o 70)), .ref 579]) rfl (pc' := 407) rfl (fun S5400 h5401 n5402 e5403 => ?_)
                  refine T_p xr_162_407 xn_162 (pc' := 408) (ls' := [(0, .ref 530)]) (st' := [.ref 530]) rfl ?_
                  refine T_p xr_162_408 xn_162 (pc' := 409) (ls' := [(0, .ref 530)]) (st' := [.int (iI 0), .ref 530]) rfl ?_
                  refine T_put xr_162_409 h5401 rfl (Nat.le_of_ble_eq_true rfl) rfl (fs' := [.ref 531, .int (iI 0), .ref 532, .int (iI (o 1)), .int (iI b1), .int (iI 0), .int (iI g1), .int (iI at1), .int (iI en1), .int (iI tk1), .int (iI nu1), .int (iI dg1), .long nm1, .ref 533, .ref 534, .ref 535, .ref 536, .ref 537, .ref 538, .ref 539, .ref 540, .ref 541, .ref 542, .ref 543, .ref 544, .ref 545, .ref 546, .ref 547, .int (iI rc), .int (iI kc), .int (iI wc), .int (iI rc), .int (iI kc), .int (iI wc), .ref 548, .ref 549, .ref 550, .ref 551, .int (iI 0), .ref 552, .ref 553, .ref 554, .ref 555, .ref 556, .ref 557, .ref 558, .ref 559, .ref 560, .ref 561, .int (iI 0), .ref 562, .ref 563, .ref 564, .ref 565, .ref 566, .ref 567, .ref 568, .ref 569, .int (iI (o 58)), .ref 570, .ref 571, .ref 572, .ref 573, .ref 574, .ref 575, .ref 576, .ref 577, .ref 578, .int (iI 0), .int (iI (o 69)), .int (iI (o 70)), .ref 579]) rfl (pc' := 412) rfl (fun S5404 h5405 n5406 e5407 => ?_)
                  refine T_p xr_162_412 xn_162 (pc' := 413) (ls' := [(0, .ref 530)]) (st' := [.int (iI 0)]) rfl ?_
                  refine T_p xr_162_413 xn_162 (pc' := 414) (ls' := [(1, .int (iI 0)), (0, .ref 530)]) (st' := []) rfl ?_
                  have h5413 := (n5406 574 (by decide)).trans ((n5402 574 (by decide)).trans ((n5398 574 (by decide)).trans ((n5394 574 (by decide)).trans ((n5390 574 (by decide)).trans ((n5386 574 (by decide)).trans ((hF5314.1 574 (by first | decide | omega)).trans ((hf5307.1 574 (by first | decide | omega)).trans ((n5291 574 (by decide)).trans ((n5285 574 (by decide)).trans ((n5280 574 (by decide)).trans ((n5276 574 (by decide)).trans ((n5272 574 (by decide)).trans ((n5268 574 (by decide)).trans ((n5264 574 (by decide)).trans ((n5260 574 (by decide)).trans ((hF5253.1 574 (by first | decide | omega)).trans ((n5247 574 (by decide)).trans ((n5243 574 (by decide)).trans ((n5239 574 (by decide)).trans (hA574))))))))))))))))))))
                  have L5408 : ∀ (m5410 : Nat) (S5414 : X_S) (k : Int) (ib1 : Int → Int) (hib1 : S5414.1 574 = .inl (.boolean, 30, .inl fun k : Nat => iI (ib1 (k : Int)))) (hF5412 : X_Fr (fun q => q = 574) S5404 S5414) (hk : 0 ≤ k ∧ k ≤ 30) (hib : ∀ i, 0 ≤ i → i < k → ib1 i = 0) (hm5411 : 30 - k < m5410), X_T sc 162 (414, [(1, .int (iI k)), (0, .ref 530)], [], S5414) Q := by
                    intro m5410
                    induction m5410 with
                    | zero =>
                      intro S5414 k ib1 hib1 hF5412 hk hib hm5411
                      exact (show False by omega).elim
                    | succ m5410 ih5409 =>
                      intro S5414 k ib1 hib1 hF5412 hk hib hm5411
                      refine T_p xr_162_414 xn_162 (pc' := 415) (ls' := [(1, .int (iI k)), (0, .ref 530)]) (st' := [.int (iI k)]) rfl ?_
                      refine T_p xr_162_415 xn_162 (pc' := 417) (ls' := [(1, .int (iI k)), (0, .ref 530)]) (st' := [.int (iI 30), .int (iI k)]) rfl ?_
                      refine T_zicmp_ge xr_162_417 (t := 433) (pc' := 420) rfl rfl (fun c5415 => ?_) (fun c5415 => ?_)
                      · skip
                        have c5415 : 30 ≤ k := c5415
                        refine T_p xr_162_433 xn_162 (pc' := 434) (ls' := [(1, .int (iI k)), (0, .ref 530)]) (st' := [.ref 530]) rfl ?_
                        have h5416 := (hF5412.1 530 (by first | decide | omega)).trans (h5405)
                        refine T_get xr_162_434 h5416 rfl (v := .int (iI wc)) rfl (pc' := 437) rfl ?_
                        refine T_iret xr_162_437 xf_162.2.2 rfl ?_
                        refine hQ _ _ ?_
                        have h5417 := (hF5412.1 533 (by first | decide | omega)).trans ((n5406 533 (by decide)).trans ((n5402 533 (by decide)).trans ((n5398 533 (by decide)).trans ((n5394 533 (by decide)).trans ((n5390 533 (by decide)).trans ((n5386 533 (by decide)).trans (hA533_)))))))
                        have h5418 := (hF5412.1 534 (by first | decide | omega)).trans ((n5406 534 (by decide)).trans ((n5402 534 (by decide)).trans ((n5398 534 (by decide)).trans ((n5394 534 (by decide)).trans ((n5390 534 (by decide)).trans ((n5386 534 (by decide)).trans (hA534_)))))))
                        have h5419 := (hF5412.1 535 (by first | decide | omega)).trans ((n5406 535 (by decide)).trans ((n5402 535 (by decide)).trans ((n5398 535 (by decide)).trans ((n5394 535 (by decide)).trans ((n5390 535 (by decide)).trans ((n5386 535 (by decide)).trans (hA535_)))))))
                        have h5420 := (hF5412.1 536 (by first | decide | omega)).trans ((n5406 536 (by decide)).trans ((n5402 536 (by decide)).trans ((n5398 536 (by decide)).trans ((n5394 536 (by decide)).trans ((n5390 536 (by decide)).trans ((n5386 536 (by decide)).trans (hA536_)))))))
                        have h5421 := (hF5412.1 537 (by first | decide | omega)).trans ((n5406 537 (by decide)).trans ((n5402 537 (by decide)).trans ((n5398 537 (by decide)).trans ((n5394 537 (by decide)).trans ((n5390 537 (by decide)).trans ((n5386 537 (by decide)).trans (hA537_)))))))
                        have h5422 := (hF5412.1 538 (by first | decide | omega)).trans ((n5406 538 (by decide)).trans ((n5402 538 (by decide)).trans ((n5398 538 (by decide)).trans ((n5394 538 (by decide)).trans ((n5390 538 (by decide)).trans ((n5386 538 (by decide)).trans (hA538_)))))))
                        have h5423 := (hF5412.1 539 (by first | decide | omega)).trans ((n5406 539 (by decide)).trans ((n5402 539 (by decide)).trans ((n5398 539 (by decide)).trans ((n5394 539 (by decide)).trans ((n5390 539 (by decide)).trans ((n5386 539 (by decide)).trans (hA539_)))))))
                        have h5424 := (hF5412.1 540 (by first | decide | omega)).trans ((n5406 540 (by decide)).trans ((n5402 540 (by decide)).trans ((n5398 540 (by decide)).trans ((n5394 540 (by decide)).trans ((n5390 540 (by decide)).trans ((n5386 540 (by decide)).trans (hA540_)))))))
                        have h5425 := (hF5412.1 541 (by first | decide | omega)).trans ((n5406 541 (by decide)).trans ((n5402 541 (by decide)).trans ((n5398 541 (by decide)).trans ((n5394 541 (by decide)).trans ((n5390 541 (by decide)).trans ((n5386 541 (by decide)).trans (hA541_)))))))
                        have h5426 := (hF5412.1 542 (by first | decide | omega)).trans ((n5406 542 (by decide)).trans ((n5402 542 (by decide)).trans ((n5398 542 (by decide)).trans ((n5394 542 (by decide)).trans ((n5390 542 (by decide)).trans ((n5386 542 (by decide)).trans (hA542_)))))))
                        have h5427 := (hF5412.1 543 (by first | decide | omega)).trans ((n5406 543 (by decide)).trans ((n5402 543 (by decide)).trans ((n5398 543 (by decide)).trans ((n5394 543 (by decide)).trans ((n5390 543 (by decide)).trans ((n5386 543 (by decide)).trans (hA543_)))))))
                        have h5428 := (hF5412.1 544 (by first | decide | omega)).trans ((n5406 544 (by decide)).trans ((n5402 544 (by decide)).trans ((n5398 544 (by decide)).trans ((n5394 544 (by decide)).trans ((n5390 544 (by decide)).trans ((n5386 544 (by decide)).trans (hA544_)))))))
                        have h5429 := (hF5412.1 545 (by first | decide | omega)).trans ((n5406 545 (by decide)).trans ((n5402 545 (by decide)).trans ((n5398 545 (by decide)).trans ((n5394 545 (by decide)).trans ((n5390 545 (by decide)).trans ((n5386 545 (by decide)).trans (hA545_)))))))
                        have h5430 := (hF5412.1 546 (by first | decide | omega)).trans ((n5406 546 (by decide)).trans ((n5402 546 (by decide)).trans ((n5398 546 (by decide)).trans ((n5394 546 (by decide)).trans ((n5390 546 (by decide)).trans ((n5386 546 (by decide)).trans (hA546_)))))))
                        have h5431 := (hF5412.1 547 (by first | decide | omega)).trans ((n5406 547 (by decide)).trans ((n5402 547 (by decide)).trans ((n5398 547 (by decide)).trans ((n5394 547 (by decide)).trans ((n5390 547 (by decide)).trans ((n5386 547 (by decide)).trans (hA547_)))))))
                        have h5432 := (hF5412.1 532 (by first | decide | omega)).trans ((n5406 532 (by decide)).trans ((n5402 532 (by decide)).trans ((n5398 532 (by decide)).trans ((n5394 532 (by decide)).trans ((n5390 532 (by decide)).trans ((n5386 532 (by decide)).trans ((hF5314.1 532 (by first | decide | omega)).trans ((hf5307.1 532 (by first | decide | omega)).trans (h5294)))))))))
                        refine Or.inl ⟨at1, en1, tk1, nu1, dg1, nm1, g1, (ck, rc, kc, wc, rn, lo, kn, ab, D, W), rN1, kN1, tg1, kU1, wR1, wL1, wK1, wM1, wH1, wS1, sO1, sN1, eP1, eH1, hK1, tx1, ib1, rfl, ?_, hok, h4k, (by rw [← hb1]; exact hB1), fun k k1 k2 => hib k k1 (by omega), (by unfold M_o; simp only [X_ou, Nat.reduceEqDiff, reduceIte]; rw [← hb1]; exact h5416), h5417, h5418, h5419, h5420, h5421, h5422, h5423, h5424, h5425, h5426, h5427, h5428, h5429, h5430, h5431, h5432, hib1, (((((((((((((((((((((X_Fr.rf).tr (X_Fr.of n5239 e5240 (by first | decide | exact ⟨Nat.le_add_right _ _, Nat.add_le_add_left (by decide) _⟩ | omega))).tr (X_Fr.of n5243 e5244 (by first | decide | exact ⟨Nat.le_add_right _ _, Nat.add_le_add_left (by decide) _⟩ | omega))).tr (X_Fr.of n5247 e5248 (by first | decide | exact ⟨Nat.le_add_right _ _, Nat.add_le_add_left (by decide) _⟩ | omega))).tr (X_Fr.mono ⟨hF5253.1, hF5253.2⟩ (fun q hq => by first | exact hq | (rcases hq with rfl <;> decide) | (rcases hq with rfl | rfl <;> decide) | (rcases hq with rfl | rfl | rfl <;> decide) | (rcases hq with rfl | rfl | rfl | rfl <;> decide) | (rcases hq with rfl | rfl | rfl | rfl | rfl <;> decide) | (rcases hq with rfl | rfl | rfl | rfl | rfl | rfl <;> decide) | (rcases hq with rfl | rfl | rfl | rfl | rfl | rfl | rfl <;> decide) | omega))).tr (X_Fr.of n5260 e5261 (by first | decide | exact ⟨Nat.le_add_right _ _, Nat.add_le_add_left (by decide) _⟩ | omega))).tr (X_Fr.of n5264 e5265 (by first | decide | exact ⟨Nat.le_add_right _ _, Nat.add_le_add_left (by decide) _⟩ | omega))).tr (X_Fr.of n5268 e5269 (by first | decide | exact ⟨Nat.le_add_right _ _, Nat.add_le_add_left (by decide) _⟩ | omega))).tr (X_Fr.of n5272 e5273 (by first | decide | exact ⟨Nat.le_add_right _ _, Nat.add_le_add_left (by decide) _⟩ | omega))).tr (X_Fr.of n5276 e5277 (by first | decide | exact ⟨Nat.le_add_right _ _, Nat.add_le_add_left (by decide) _⟩ | omega))).tr (X_Fr.of n5280 e5281 (by first | decide | exact ⟨Nat.le_add_right _ _, Nat.add_le_add_left (by decide) _⟩ | omega))).tr (X_Fr.of n5285 e5286 (by first | decide | exact ⟨Nat.le_add_right _ _, Nat.add_le_add_left (by decide) _⟩ | omega))).tr (X_Fr.of n5291 e5292 (by first | decide | exact ⟨Nat.le_add_right _ _, Nat.add_le_add_left (by decide) _⟩ | omega))).tr (X_Fr.mono ⟨hf5307.1, hf5307.2⟩ (fun q hq => by first | exact hq | (rcases hq with rfl <;> decide) | (rcases hq with rfl | rfl <;> decide) | (rcases hq with rfl | rfl | rfl <;> decide) | (rcases hq with rfl | rfl | rfl | rfl <;> decide) | (rcases hq with rfl | rfl | rfl | rfl | rfl <;> decide) | (rcases hq with rfl | rfl | rfl | rfl | rfl | rfl <;> decide) | (rcases hq with rfl | rfl | rfl | rfl | rfl | rfl | rfl <;> decide) | omega))).tr (X_Fr.mono ⟨hF5314.1, hF5314.2⟩ (fun q hq => by first | exact hq | (rcases hq with rfl <;> decide) | (rcases hq with rfl | rfl <;> decide) | (rcases hq with rfl | rfl | rfl <;> decide) | (rcases hq with rfl | rfl | rfl | rfl <;> decide) | (rcases hq with rfl | rfl | rfl | rfl | rfl <;> decide) | (rcases hq with rfl | rfl | rfl | rfl | rfl | rfl <;> decide) | (rcases hq with rfl | rfl | rfl | rfl | rfl | rfl | rfl <;> decide) | omega))).tr (X_Fr.of n5386 e5387 (by first | decide | exact ⟨Nat.le_add_right _ _, Nat.add_le_add_left (by decide) _⟩ | omega))).tr (X_Fr.of n5390 e5391 (by first | decide | exact ⟨Nat.le_add_right _ _, Nat.add_le_add_left (by decide) _⟩ | omega))).tr (X_Fr.of n5394 e5395 (by first | decide | exact ⟨Nat.le_add_right _ _, Nat.add_le_add_left (by decide) _⟩ | omega))).tr (X_Fr.of n5398 e5399 (by first | decide | exact ⟨Nat.le_add_right _ _, Nat.add_le_add_left (by decide) _⟩ | omega))).tr (X_Fr.of n5402 e5403 (by first | decide | exact ⟨Nat.le_add_right _ _, Nat.add_le_add_left (by decide) _⟩ | omega))).tr (X_Fr.of n5406 e5407 (by first | decide | exact ⟨Nat.le_add_right _ _, Nat.add_le_add_left (by decide) _⟩ | omega))).tr (X_Fr.mono ⟨hF5412.1, hF5412.2⟩ (fun q hq => by first | exact hq | (rcases hq with rfl <;> decide) | (rcases hq with rfl | rfl <;> decide) | (rcases hq with rfl | rfl | rfl <;> decide) | (rcases hq with rfl | rfl | rfl | rfl <;> decide) | (rcases hq with rfl | rfl | rfl | rfl | rfl <;> decide) | (rcases hq with rfl | rfl | rfl | rfl | rfl | rfl <;> decide) | (rcases hq with rfl | rfl | rfl | rfl | rfl | rfl | rfl <;> decide) | omega))⟩
                        rw [← hR]
                        rw [sp_lines_at (by omega), if_pos (by first | assumption | (show so ck = 0; omega))]
                      · skip
                        have c5415 : ¬ (30 ≤ k) := c5415
                        refine T_p xr_162_420 xn_162 (pc' := 421) (ls' := [(1, .int (iI k)), (0, .ref 530)]) (st' := [.ref 530]) rfl ?_
                        have h5433 := (hF5412.1 530 (by first | decide | omega)).trans (h5405)
                        refine T_get xr_162_421 h5433 rfl (v := .ref 574) rfl (pc' := 424) rfl ?_
                        refine T_p xr_162_424 xn_162 (pc' := 425) (ls' := [(1, .int (iI k)), (0, .ref 530)]) (st' := [.int (iI k), .ref 574]) rfl ?_
                        refine T_p xr_162_425 xn_162 (pc' := 426) (ls' := [(1, .int (iI k)), (0, .ref 530)]) (st' := [.int (iI 0), .int (iI k), .ref 574]) rfl ?_
                        refine T_zzast xr_162_426 hib1 (pc' := 427) rfl (fun S5434 h5435 n5436 e5437 => ?_)
                        refine T_ziinc xr_162_427 xn_162 (a := k) (z := k + 1) rfl (Nat.le_of_ble_eq_true rfl) (by omega) (ls' := [(1, .int (iI (k + 1))), (0, .ref 530)]) rfl (pc' := 430) rfl ?_
                        refine T_p xr_162_430 xn_162 (pc' := 414) (ls' := [(1, .int (iI (k + 1))), (0, .ref 530)]) (st' := []) rfl ?_
                        exact ih5409 S5434 (k + 1) (X_ug ib1 k (X_bo 0)) h5435 (hF5412.tr ((X_Fr.rf).tr (X_Fr.of n5436 e5437 (by first | decide | exact ⟨Nat.le_add_right _ _, Nat.add_le_add_left (by decide) _⟩ | omega)))) (by omega) (fun i h1 h2 => by
                              by_cases hi : i = k
                              · subst hi; rw [X_ug_s]; exact X_bo_z
                              · rw [X_ug_n _ _ hi]; exact hib i h1 (by omega)) (by omega)
                  exact L5408 ((30 : Int) + 1).toNat S5404 0 ib h5413 ((X_Fr.rf)) (by omega) (fun i h1 h2 => absurd h2 (by omega)) (by omega)
                · skip
                  have c5383 : ¬ ((0 : Int) = 0) := c5383
                  exact (show False by first | contradiction | omega).elim
              · skip
                have c5377 : ¬ (tk1 = 0) := c5377
                refine T_p xr_162_127 xn_162 (pc' := 128) (ls' := [(0, .ref 530)]) (st' := [.ref 530]) rfl ?_
                refine T_get xr_162_128 hM5376 rfl (v := .int (iI tk1)) rfl (pc' := 131) rfl ?_
                refine T_p xr_162_131 xn_162 (pc' := 132) (ls' := [(0, .ref 530)]) (st' := [.int (iI 3), .int (iI tk1)]) rfl ?_
                refine T_zicmp_ne xr_162_132 (t := 142) (pc' := 135) rfl rfl (fun c5438 => ?_) (fun c5438 => ?_)
                · skip
                  have c5438 : ¬ tk1 = 3 := c5438
                  refine T_p xr_162_142 xn_162 (pc' := 143) (ls' := [(0, .ref 530)]) (st' := [.long (0 : Int64)]) rfl ?_
                  refine T_p xr_162_143 xn_162 (pc' := 144) (ls' := [(1, .long (0 : Int64)), (0, .ref 530)]) (st' := []) rfl ?_
                  refine T_p xr_162_144 xn_162 (pc' := 145) (ls' := [(1, .long (0 : Int64)), (0, .ref 530)]) (st' := [.long (0 : Int64)]) rfl ?_
                  refine T_p xr_162_145 xn_162 (pc' := 148) (ls' := [(1, .long (0 : Int64)), (0, .ref 530)]) (st' := [.long (Int64.ofNat 1918987883), .long (0 : Int64)]) rfl ?_
                  refine T_lc_ne xr_162_148 xr_162_149 (t := 169) (pc' := 152) rfl rfl (fun c5439 => ?_) (fun c5439 => ?_)
                  · skip
                    have c5439 : ¬ (0 : Int64) = (Int64.ofNat 1918987883) := c5439
                    refine T_p xr_162_169 xn_162 (pc' := 170) (ls' := [(1, .long (0 : Int64)), (0, .ref 530)]) (st' := [.long (0 : Int64)]) rfl ?_
                    refine T_p xr_162_170 xn_162 (pc' := 173) (ls' := [(1, .long (0 : Int64)), (0, .ref 530)]) (st' := [.long (Int64.ofNat 1802071652), .long (0 : Int64)]) rfl ?_
                    refine T_lc_ne xr_162_173 xr_162_174 (t := 194) (pc' := 177) rfl rfl (fun c5440 => ?_) (fun c5440 => ?_)
                    · skip
                      have c5440 : ¬ (0 : Int64) = (Int64.ofNat 1802071652) := c5440
                      refine T_p xr_162_194 xn_162 (pc' := 195) (ls' := [(1, .long (0 : Int64)), (0, .ref 530)]) (st' := [.long (0 : Int64)]) rfl ?_
                      refine T_p xr_162_195 xn_162 (pc' := 198) (ls' := [(1, .long (0 : Int64)), (0, .ref 530)]) (st' := [.long (Int64.ofNat 2003792484), .long (0 : Int64)]) rfl ?_
                      refine T_lc_ne xr_162_198 xr_162_199 (t := 215) (pc' := 202) rfl rfl (fun c5441 => ?_) (fun c5441 => ?_)
                      · skip
                        have c5441 : ¬ (0 : Int64) = (Int64.ofNat 2003792484) := c5441
                        refine T_p xr_162_215 xn_162 (pc' := 216) (ls' := [(1, .long (0 : Int64)), (0, .ref 530)]) (st' := [.int (iI 0)]) rfl ?_
                        refine T_p xr_162_216 xn_162 (pc' := 217) (ls' := [(3, .int (iI 0)), (1, .long (0 : Int64)), (0, .ref 530)]) (st' := []) rfl ?_
                        refine T_p xr_162_217 xn_162 (pc' := 218) (ls' := [(3, .int (iI 0)), (1, .long (0 : Int64)), (0, .ref 530)]) (st' := [.long (0 : Int64)]) rfl ?_
                        refine T_p xr_162_218 xn_162 (pc' := 221) (ls' := [(3, .int (iI 0)), (1, .long (0 : Int64)), (0, .ref 530)]) (st' := [.long (Int64.ofNat 1918987883), .long (0 : Int64)]) rfl ?_
                        refine T_lc_eq xr_162_221 xr_162_222 (t := 249) (pc' := 225) rfl rfl (fun c5442 => ?_) (fun c5442 => ?_)
                        · skip
                          have c5442 : (0 : Int64) = (Int64.ofNat 1918987883) := c5442
                          exact absurd (show (0 : Int64) = Int64.ofNat 1918987883 from (by first | exact c5442 | exact Classical.not_not.mp c5442)) (by decide)
                        · skip
                          have c5442 : ¬ ((0 : Int64) = (Int64.ofNat 1918987883)) := c5442
                          refine T_p xr_162_225 xn_162 (pc' := 226) (ls' := [(3, .int (iI 0)), (1, .long (0 : Int64)), (0, .ref 530)]) (st' := [.long (0 : Int64)]) rfl ?_
                          refine T_p xr_162_226 xn_162 (pc' := 229) (ls' := [(3, .int (iI 0)), (1, .long (0 : Int64)), (0, .ref 530)]) (st' := [.long (Int64.ofNat 32766990153442674), .long (0 : Int64)]) rfl ?_
                          refine T_lc_eq xr_162_229 xr_162_230 (t := 249) (pc' := 233) rfl rfl (fun c5443 => ?_) (fun c5443 => ?_)
                          · skip
                            have c5443 : (0 : Int64) = (Int64.ofNat 32766990153442674) := c5443
                            exact absurd (show (0 : Int64) = Int64.ofNat 32766990153442674 from (by first | exact c5443 | exact Classical.not_not.mp c5443)) (by decide)
                          · skip
                            have c5443 : ¬ ((0 : Int64) = (Int64.ofNat 32766990153442674)) := c5443
                            refine T_p xr_162_233 xn_162 (pc' := 234) (ls' := [(3, .int (iI 0)), (1, .long (0 : Int64)), (0, .ref 530)]) (st' := [.long (0 : Int64)]) rfl ?_
                            refine T_p xr_162_234 xn_162 (pc' := 237) (ls' := [(3, .int (iI 0)), (1, .long (0 : Int64)), (0, .ref 530)]) (st' := [.long (Int64.ofNat 1802071652), .long (0 : Int64)]) rfl ?_
                            refine T_lc_eq xr_162_237 xr_162_238 (t := 249) (pc' := 241) rfl rfl (fun c5444 => ?_) (fun c5444 => ?_)
                            · skip
                              have c5444 : (0 : Int64) = (Int64.ofNat 1802071652) := c5444
                              exact absurd (show (0 : Int64) = Int64.ofNat 1802071652 from (by first | exact c5444 | exact Classical.not_not.mp c5444)) (by decide)
                            · skip
                              have c5444 : ¬ ((0 : Int64) = (Int64.ofNat 1802071652)) := c5444
                              refine T_p xr_162_241 xn_162 (pc' := 242) (ls' := [(3, .int (iI 0)), (1, .long (0 : Int64)), (0, .ref 530)]) (st' := [.long (0 : Int64)]) rfl ?_
                              refine T_p xr_162_242 xn_162 (pc' := 245) (ls' := [(3, .int (iI 0)), (1, .long (0 : Int64)), (0, .ref 530)]) (st' := [.long (Int64.ofNat 2003792484), .long (0 : Int64)]) rfl ?_
                              refine T_lc_ne xr_162_245 xr_162_246 (t := 253) (pc' := 249) rfl rfl (fun c5445 => ?_) (fun c5445 => ?_)
                              · skip
                                have c5445 : ¬ (0 : Int64) = (Int64.ofNat 2003792484) := c5445
                                refine T_p xr_162_253 xn_162 (pc' := 254) (ls' := [(3, .int (iI 0)), (1, .long (0 : Int64)), (0, .ref 530)]) (st' := [.ref 530]) rfl ?_
                                refine T_cv (S := S5330) (q := 530) xr_162_254 xf_147.1 xf_147.2.1 xn_147 (as := []) (r := []) rfl hM5376 (Nat.le_of_ble_eq_true rfl) (Nat.le_of_ble_eq_true rfl) (pc' := 257) rfl (ls' := [(0, .ref 530)]) rfl ?_
                                have h5446 := (hF5314.1 532 (by first | decide | omega)).trans ((hf5307.1 532 (by first | decide | omega)).trans (h5294))
                                refine T_mono (r_wrong sc S5330 (X_ou (X_ou (X_ou (X_ou (X_ou (X_ou (X_ou (X_ou (X_ou (X_ou (X_ou (X_ou (X_ou o 1 0) 3 (o 1)) 4 b1) 5 0) 6 g1) 7 at1) 8 en1) 9 tk1) 10 nu1) 11 dg1) 28 rc) 29 kc) 30 wc) nm1 tx1 tb len n so pl ct E ck hM5376 h5446 (show (o 1) = len from by first | assumption | omega) hl htx hX hT1 (show 0 ≤ 0 ∧ 0 ≤ 5 from by omega)) (fun v5447 S5448 h5449 => ?_)
                                rcases h5449 with ⟨f5450, g5451, hv5452, hp5453, hM5454, hf5455⟩
                                rw [hv5452]
                                have h5456 : S5448.1 530 = .inr (11, [.ref 531, .int (iI 0), .ref 532, .int (iI (o 1)), .int (iI b1), .int (iI f5450), .int (iI g5451), .int (iI at1), .int (iI en1), .int (iI tk1), .int (iI nu1), .int (iI dg1), .long nm1, .ref 533, .ref 534, .ref 535, .ref 536, .ref 537, .ref 538, .ref 539, .ref 540, .ref 541, .ref 542, .ref 543, .ref 544, .ref 545, .ref 546, .ref 547, .int (iI rc), .int (iI kc), .int (iI wc), .int (iI (o 31)), .int (iI (o 32)), .int (iI (o 33)), .ref 548, .ref 549, .ref 550, .ref 551, .int (iI (o 38)), .ref 552, .ref 553, .ref 554, .ref 555, .ref 556, .ref 557, .ref 558, .ref 559, .ref 560, .ref 561, .int (iI (o 49)), .ref 562, .ref 563, .ref 564, .ref 565, .ref 566, .ref 567, .ref 568, .ref 569, .int (iI (o 58)), .ref 570, .ref 571, .ref 572, .ref 573, .ref 574, .ref 575, .ref 576, .ref 577, .ref 578, .int (iI (o 68)), .int (iI (o 69)), .int (iI (o 70)), .ref 579]) := hM5454
                                show X_T sc 162 (257, [(3, .int (iI 0)), (1, .long (0 : Int64)), (0, .ref 530)], [], S5448) _
                                refine T_p xr_162_257 xn_162 (pc' := 258) (ls' := [(3, .int (iI 0)), (1, .long (0 : Int64)), (0, .ref 530)]) (st' := [.ref 530]) rfl ?_
                                refine T_cv (S := S5448) (q := 530) xr_162_258 xf_140.1 xf_140.2.1 xn_140 (as := []) (r := []) rfl h5456 (Nat.le_of_ble_eq_true rfl) (Nat.le_of_ble_eq_true rfl) (pc' := 261) rfl (ls' := [(0, .ref 530)]) rfl ?_
                                refine T_mono (r_isGood sc S5448 (X_ou (X_ou (X_ou (X_ou (X_ou (X_ou (X_ou (X_ou (X_ou (X_ou (X_ou (X_ou (X_ou o 1 0) 3 (o 1)) 4 b1) 5 f5450) 6 g5451) 7 at1) 8 en1) 9 tk1) 10 nu1) 11 dg1) 28 rc) 29 kc) 30 wc) nm1 h5456 (show 0 ≤ f5450 ∧ f5450 ≤ 5 from by omega)) (fun v5457 S5458 h5459 => ?_)
                                rcases h5459 with ⟨hv5460, hf5461⟩
                                rw [hv5460]
                                rw [hf5461]
                                show X_T sc 162 (261, [(3, .int (iI 0)), (1, .long (0 : Int64)), (0, .ref 530)], [.int (iI (bI (f5450 = 0)))], S5448) _
                                refine T_bif_eq xr_162_261 (t := 268) (pc' := 264) rfl rfl (fun c5462 => ?_) (fun c5462 => ?_)
                                · skip
                                  have c5462 : ¬ (f5450 = 0) := c5462
                                  refine T_p xr_162_268 xn_162 (pc' := 269) (ls' := [(3, .int (iI 0)), (1, .long (0 : Int64)), (0, .ref 530)]) (st' := [.ref 530]) rfl ?_
                                  refine T_cv (S := S5448) (q := 530) xr_162_269 xf_140.1 xf_140.2.1 xn_140 (as := []) (r := []) rfl h5456 (Nat.le_of_ble_eq_true rfl) (Nat.le_of_ble_eq_true rfl) (pc' := 272) rfl (ls' := [(0, .ref 530)]) rfl ?_
                                  refine T_mono (r_isGood sc S5448 (X_ou (X_ou (X_ou (X_ou (X_ou (X_ou (X_ou (X_ou (X_ou (X_ou (X_ou (X_ou (X_ou o 1 0) 3 (o 1)) 4 b1) 5 f5450) 6 g5451) 7 at1) 8 en1) 9 tk1) 10 nu1) 11 dg1) 28 rc) 29 kc) 30 wc) nm1 h5456 (show 0 ≤ f5450 ∧ f5450 ≤ 5 from by omega)) (fun v5463 S5464 h5465 => ?_)
                                  rcases h5465 with ⟨hv5466, hf5467⟩
                                  rw [hv5466]
                                  rw [hf5467]
                                  show X_T sc 162 (272, [(3, .int (iI 0)), (1, .long (0 : Int64)), (0, .ref 530)], [.int (iI (bI (f5450 = 0)))], S5448) _
                                  refine T_bif_ne xr_162_272 (t := 278) (pc' := 275) rfl rfl (fun c5468 => ?_) (fun c5468 => ?_)
                                  · skip
                                    have c5468 : (f5450 = 0) := c5468
                                    exact (show False by first | contradiction | omega).elim
                                  · skip
                                    have c5468 : ¬ (f5450 = 0) := c5468
                                    refine T_p xr_162_275 xn_162 (pc' := 113) (ls' := [(3, .int (iI 0)), (1, .long (0 : Int64)), (0, .ref 530)]) (st' := []) rfl ?_
                                    have h5469 := (hf5455.1 533 (by first | decide | omega)).trans (hA533_)
                                    have h5470 := (hf5455.1 534 (by first | decide | omega)).trans (hA534_)
                                    have h5471 := (hf5455.1 535 (by first | decide | omega)).trans (hA535_)
                                    have h5472 := (hf5455.1 536 (by first | decide | omega)).trans (hA536_)
                                    have h5473 := (hf5455.1 537 (by first | decide | omega)).trans (hA537_)
                                    have h5474 := (hf5455.1 538 (by first | decide | omega)).trans (hA538_)
                                    have h5475 := (hf5455.1 539 (by first | decide | omega)).trans (hA539_)
                                    have h5476 := (hf5455.1 540 (by first | decide | omega)).trans (hA540_)
                                    have h5477 := (hf5455.1 541 (by first | decide | omega)).trans (hA541_)
                                    have h5478 := (hf5455.1 542 (by first | decide | omega)).trans (hA542_)
                                    have h5479 := (hf5455.1 543 (by first | decide | omega)).trans (hA543_)
                                    have h5480 := (hf5455.1 544 (by first | decide | omega)).trans (hA544_)
                                    have h5481 := (hf5455.1 545 (by first | decide | omega)).trans (hA545_)
                                    have h5482 := (hf5455.1 546 (by first | decide | omega)).trans (hA546_)
                                    have h5483 := (hf5455.1 547 (by first | decide | omega)).trans (hA547_)
                                    have hl5484 : sp_line n so ct (ck, rc, kc, wc, rn, lo, kn, ab, D, W) = none := by
                                      show (if so ck = 3 ∧ ct ck = Int64.ofNat 1918987883 then _ else if so ck = 3 ∧ ct ck = Int64.ofNat 32766990153442674 then _ else if so ck = 3 ∧ ct ck = Int64.ofNat 1802071652 then _ else if so ck = 3 ∧ ct ck = Int64.ofNat 2003792484 then _ else none) = _
                                      rw [if_neg (fun z => by first | omega | exact absurd z.2 (by assumption) | exact absurd z.2 (id))]
                                      rw [if_neg (fun z => by first | omega | exact absurd z.2 (by assumption) | exact absurd z.2 (id))]
                                      rw [if_neg (fun z => by first | omega | exact absurd z.2 (by assumption) | exact absurd z.2 (id))]
                                      rw [if_neg (fun z => by first | omega | exact absurd z.2 (by assumption) | exact absurd z.2 (id))]
                                    refine T_sub (ls := [(0, .ref 530)]) ⟨rfl, trivial⟩ rfl rfl ?_
                                    exact ih5311 S5448 (line + 1) (ck, rc, kc, wc, rn, lo, kn, ab, D, W) f5450 g5451 at1 en1 tk1 nu1 dg1 rc kc wc nm1 rN1 kN1 tg1 kU1 wR1 wL1 wK1 wM1 wH1 wS1 sO1 sN1 eP1 eH1 hK1 h5456 h5469 h5470 h5471 h5472 h5473 h5474 h5475 h5476 h5477 h5478 h5479 h5480 h5481 h5482 h5483 (hF5314.tr ((X_Fr.rf).tr (X_Fr.mono ⟨hf5455.1, hf5455.2⟩ (fun q hq => by first | exact hq | (rcases hq with rfl <;> decide) | (rcases hq with rfl | rfl <;> decide) | (rcases hq with rfl | rfl | rfl <;> decide) | (rcases hq with rfl | rfl | rfl | rfl <;> decide) | (rcases hq with rfl | rfl | rfl | rfl | rfl <;> decide) | (rcases hq with rfl | rfl | rfl | rfl | rfl | rfl <;> decide) | (rcases hq with rfl | rfl | rfl | rfl | rfl | rfl | rfl <;> decide) | omega)))) (by omega) (fun z => absurd z (by omega)) (fun _ => by
                                          rw [← hR, show (2001 - line).toNat = (2001 - (line + 1)).toNat + 1 by omega]
                                          show (if so ck = 0 then _ else _) = _
                                          rw [if_neg (by omega), hl5484]
                                          rfl) hO (by omega)
                                · skip
                                  have c5462 : (f5450 = 0) := c5462
                                  exact (show False by first | contradiction | omega).elim
                              · skip
                                have c5445 : ¬ (¬ (0 : Int64) = (Int64.ofNat 2003792484)) := c5445
                                exact absurd (show (0 : Int64) = Int64.ofNat 2003792484 from (by first | exact c5445 | exact Classical.not_not.mp c5445)) (by decide)
                      · skip
                        have c5441 : ¬ (¬ (0 : Int64) = (Int64.ofNat 2003792484)) := c5441
                        exact absurd (show (0 : Int64) = Int64.ofNat 2003792484 from (by first | exact c5441 | exact Classical.not_not.mp c5441)) (by decide)
                    · skip
                      have c5440 : ¬ (¬ (0 : Int64) = (Int64.ofNat 1802071652)) := c5440
                      exact absurd (show (0 : Int64) = Int64.ofNat 1802071652 from (by first | exact c5440 | exact Classical.not_not.mp c5440)) (by decide)
                  · skip
                    have c5439 : ¬ (¬ (0 : Int64) = (Int64.ofNat 1918987883)) := c5439
                    exact absurd (show (0 : Int64) = Int64.ofNat 1918987883 from (by first | exact c5439 | exact Classical.not_not.mp c5439)) (by decide)
                · skip
                  have c5438 : ¬ (¬ tk1 = 3) := c5438
                  refine T_p xr_162_135 xn_162 (pc' := 136) (ls' := [(0, .ref 530)]) (st' := [.ref 530]) rfl ?_
                  refine T_get xr_162_136 hM5376 rfl (v := .long nm1) rfl (pc' := 139) rfl ?_
                  refine T_le (y := (ct ck)) (hT1.2.2.2.2.1 (Or.inr (Or.inl (by omega)))) ?_
                  refine T_p xr_162_139 xn_162 (pc' := 143) (ls' := [(0, .ref 530)]) (st' := [.long (ct ck)]) rfl ?_
                  refine T_p xr_162_143 xn_162 (pc' := 144) (ls' := [(1, .long (ct ck)), (0, .ref 530)]) (st' := []) rfl ?_
                  refine T_p xr_162_144 xn_162 (pc' := 145) (ls' := [(1, .long (ct ck)), (0, .ref 530)]) (st' := [.long (ct ck)]) rfl ?_
                  refine T_p xr_162_145 xn_162 (pc' := 148) (ls' := [(1, .long (ct ck)), (0, .ref 530)]) (st' := [.long (Int64.ofNat 1918987883), .long (ct ck)]) rfl ?_
                  refine T_lc_ne xr_162_148 xr_162_149 (t := 169) (pc' := 152) rfl rfl (fun c5485 => ?_) (fun c5485 => ?_)
                  · skip
                    have c5485 : ¬ (ct ck) = (Int64.ofNat 1918987883) := c5485
                    refine T_p xr_162_169 xn_162 (pc' := 170) (ls' := [(1, .long (ct ck)), (0, .ref 530)]) (st' := [.long (ct ck)]) rfl ?_
                    refine T_p xr_162_170 xn_162 (pc' := 173) (ls' := [(1, .long (ct ck)), (0, .ref 530)]) (st' := [.long (Int64.ofNat 1802071652), .long (ct ck)]) rfl ?_
                    refine T_lc_ne xr_162_173 xr_162_174 (t := 194) (pc' := 177) rfl rfl (fun c5486 => ?_) (fun c5486 => ?_)
                    · skip
                      have c5486 : ¬ (ct ck) = (Int64.ofNat 1802071652) := c5486
                      refine T_p xr_162_194 xn_162 (pc' := 195) (ls' := [(1, .long (ct ck)), (0, .ref 530)]) (st' := [.long (ct ck)]) rfl ?_
                      refine T_p xr_162_195 xn_162 (pc' := 198) (ls' := [(1, .long (ct ck)), (0, .ref 530)]) (st' := [.long (Int64.ofNat 2003792484), .long (ct ck)]) rfl ?_
                      refine T_lc_ne xr_162_198 xr_162_199 (t := 215) (pc' := 202) rfl rfl (fun c5487 => ?_) (fun c5487 => ?_)
                      · skip
                        have c5487 : ¬ (ct ck) = (Int64.ofNat 2003792484) := c5487
                        refine T_p xr_162_215 xn_162 (pc' := 216) (ls' := [(1, .long (ct ck)), (0, .ref 530)]) (st' := [.int (iI 0)]) rfl ?_
                        refine T_p xr_162_216 xn_162 (pc' := 217) (ls' := [(3, .int (iI 0)), (1, .long (ct ck)), (0, .ref 530)]) (st' := []) rfl ?_
                        refine T_p xr_162_217 xn_162 (pc' := 218) (ls' := [(3, .int (iI 0)), (1, .long (ct ck)), (0, .ref 530)]) (st' := [.long (ct ck)]) rfl ?_
                        refine T_p xr_162_218 xn_162 (pc' := 221) (ls' := [(3, .int (iI 0)), (1, .long (ct ck)), (0, .ref 530)]) (st' := [.long (Int64.ofNat 1918987883), .long (ct ck)]) rfl ?_
                        refine T_lc_eq xr_162_221 xr_162_222 (t := 249) (pc' := 225) rfl rfl (fun c5488 => ?_) (fun c5488 => ?_)
                        · skip
                          have c5488 : (ct ck) = (Int64.ofNat 1918987883) := c5488
                          exact absurd (show ct ck = Int64.ofNat 1918987883 from (by first | exact c5488 | exact Classical.not_not.mp c5488)) c5485
                        · skip
                          have c5488 : ¬ ((ct ck) = (Int64.ofNat 1918987883)) := c5488
                          refine T_p xr_162_225 xn_162 (pc' := 226) (ls' := [(3, .int (iI 0)), (1, .long (ct ck)), (0, .ref 530)]) (st' := [.long (ct ck)]) rfl ?_
                          refine T_p xr_162_226 xn_162 (pc' := 229) (ls' := [(3, .int (iI 0)), (1, .long (ct ck)), (0, .ref 530)]) (st' := [.long (Int64.ofNat 32766990153442674), .long (ct ck)]) rfl ?_
                          refine T_lc_eq xr_162_229 xr_162_230 (t := 249) (pc' := 233) rfl rfl (fun c5489 => ?_) (fun c5489 => ?_)
                          · skip
                            have c5489 : (ct ck) = (Int64.ofNat 32766990153442674) := c5489
                            refine T_p xr_162_249 xn_162 (pc' := 250) (ls' := [(3, .int (iI 0)), (1, .long (ct ck)), (0, .ref 530)]) (st' := [.int (iI 0)]) rfl ?_
                            refine T_zif_eqt xr_162_250 (t := 257) rfl (by decide) ?_
                            refine T_p xr_162_257 xn_162 (pc' := 258) (ls' := [(3, .int (iI 0)), (1, .long (ct ck)), (0, .ref 530)]) (st' := [.ref 530]) rfl ?_
                            refine T_cv (S := S5330) (q := 530) xr_162_258 xf_140.1 xf_140.2.1 xn_140 (as := []) (r := []) rfl hM5376 (Nat.le_of_ble_eq_true rfl) (Nat.le_of_ble_eq_true rfl) (pc' := 261) rfl (ls' := [(0, .ref 530)]) rfl ?_
                            refine T_mono (r_isGood sc S5330 (X_ou (X_ou (X_ou (X_ou (X_ou (X_ou (X_ou (X_ou (X_ou (X_ou (X_ou (X_ou (X_ou o 1 0) 3 (o 1)) 4 b1) 5 0) 6 g1) 7 at1) 8 en1) 9 tk1) 10 nu1) 11 dg1) 28 rc) 29 kc) 30 wc) nm1 hM5376 (show 0 ≤ 0 ∧ 0 ≤ 5 from by omega)) (fun v5490 S5491 h5492 => ?_)
                            rcases h5492 with ⟨hv5493, hf5494⟩
                            rw [hv5493]
                            rw [hf5494]
                            show X_T sc 162 (261, [(3, .int (iI 0)), (1, .long (ct ck)), (0, .ref 530)], [.int (iI (bI ((0 : Int) = 0)))], S5330) _
                            refine T_bif_eq xr_162_261 (t := 268) (pc' := 264) rfl rfl (fun c5495 => ?_) (fun c5495 => ?_)
                            · skip
                              have c5495 : ¬ ((0 : Int) = 0) := c5495
                              exact (show False by first | contradiction | omega).elim
                            · skip
                              have c5495 : ((0 : Int) = 0) := c5495
                              have hckn : ck + 1 < n := by
                                have z := hX.2.2.2.2
                                by_cases hz : ck = n - 1
                                · rw [← hz] at z; omega
                                · omega
                              refine T_sub (ls := [(1, .long (ct ck)), (0, .ref 530)]) ⟨rfl, rfl, trivial⟩ rfl rfl ?_
                              have h5496 := (hF5314.1 532 (by first | decide | omega)).trans ((hf5307.1 532 (by first | decide | omega)).trans (h5294))
                              refine r_lnT sc S5330 (X_ou (X_ou (X_ou (X_ou (X_ou (X_ou (X_ou (X_ou (X_ou (X_ou (X_ou (X_ou (X_ou o 1 0) 3 (o 1)) 4 b1) 5 0) 6 g1) 7 at1) 8 en1) 9 tk1) 10 nu1) 11 dg1) 28 rc) 29 kc) 30 wc) nm1 tx1 rN1 tg1 tb len n so pl ct E ck rc kc wc rn lo kn ab D W hM5376 h5496 hA533_ hA535_ (show (o 1) = len from by first | assumption | omega) hl htx hX hT1 (show 0 = 0 from by omega) (show rc = rc from by omega) (show kc = kc from by omega) (show wc = wc from by omega) (show 0 ≤ b1 ∧ b1 ≤ 1 from by omega) ⟨by omega, c5489⟩ (by omega) hB1r _ (fun S5498 h5499 => ?_)
                              rcases h5499 with ⟨at5500, en5501, tk5502, nu5503, dg5504, nm5505, tg5506, hp5508, hp5509, hp5510, hp5511, hM5512, ha5513, hf5514⟩ | ⟨at5515, en5516, tk5517, nu5518, dg5519, nm5520, f5521, g5522, tg5523, hp5525, hp5526, hp5527, hM5528, ha5529, hf5530⟩
                              · skip
                                have h5531 : S5498.1 530 = .inr (11, [.ref 531, .int (iI 0), .ref 532, .int (iI (o 1)), .int (iI b1), .int (iI 0), .int (iI g1), .int (iI at5500), .int (iI en5501), .int (iI tk5502), .int (iI nu5503), .int (iI dg5504), .long nm5505, .ref 533, .ref 534, .ref 535, .ref 536, .ref 537, .ref 538, .ref 539, .ref 540, .ref 541, .ref 542, .ref 543, .ref 544, .ref 545, .ref 546, .ref 547, .int (iI rc), .int (iI kc), .int (iI wc), .int (iI (o 31)), .int (iI (o 32)), .int (iI (o 33)), .ref 548, .ref 549, .ref 550, .ref 551, .int (iI (o 38)), .ref 552, .ref 553, .ref 554, .ref 555, .ref 556, .ref 557, .ref 558, .ref 559, .ref 560, .ref 561, .int (iI (o 49)), .ref 562, .ref 563, .ref 564, .ref 565, .ref 566, .ref 567, .ref 568, .ref 569, .int (iI (o 58)), .ref 570, .ref 571, .ref 572, .ref 573, .ref 574, .ref 575, .ref 576, .ref 577, .ref 578, .int (iI (o 68)), .int (iI (o 69)), .int (iI (o 70)), .ref 579]) := hM5512
                                have hp5510 : R_rk (b1) rc rn (X_tf rc lo (X_ix rn rc (ct (X_av n ck))) (X_ix rn rc (ct (X_av n (X_av n ck))))) rN1 tg5506 := hp5510
                                have hp5511 : R_ob 144 (b1) tg1 tg5506 := hp5511
                                obtain ⟨⟨_, _⟩, ⟨_, _⟩, hk5532, ⟨_, _⟩, hk5532e, ⟨_, _⟩, ⟨_, _⟩⟩ := R_tk_f hX hp5508
                                show X_T sc 162 (113, [(0, .ref 530)], [], S5498) _
                                have h5534 := (hf5514.1 533 (by first | decide | omega)).trans (hA533_)
                                have h5535 := (hf5514.1 534 (by first | decide | omega)).trans (hA534_)
                                have h5536 := (hf5514.1 536 (by first | decide | omega)).trans (hA536_)
                                have h5537 := (hf5514.1 537 (by first | decide | omega)).trans (hA537_)
                                have h5538 := (hf5514.1 538 (by first | decide | omega)).trans (hA538_)
                                have h5539 := (hf5514.1 539 (by first | decide | omega)).trans (hA539_)
                                have h5540 := (hf5514.1 540 (by first | decide | omega)).trans (hA540_)
                                have h5541 := (hf5514.1 541 (by first | decide | omega)).trans (hA541_)
                                have h5542 := (hf5514.1 542 (by first | decide | omega)).trans (hA542_)
                                have h5543 := (hf5514.1 543 (by first | decide | omega)).trans (hA543_)
                                have h5544 := (hf5514.1 544 (by first | decide | omega)).trans (hA544_)
                                have h5545 := (hf5514.1 545 (by first | decide | omega)).trans (hA545_)
                                have h5546 := (hf5514.1 546 (by first | decide | omega)).trans (hA546_)
                                have h5547 := (hf5514.1 547 (by first | decide | omega)).trans (hA547_)
                                have hl5548 : sp_line n so ct (ck, rc, kc, wc, rn, lo, kn, ab, D, W) = some (X_av n (X_av n (X_av n (X_av n ck))), rc, kc, wc, rn, X_tf rc lo (X_ix rn rc (ct (X_av n ck))) (X_ix rn rc (ct (X_av n (X_av n ck)))), kn, ab, D, W) := by
                                  show (if so ck = 3 ∧ ct ck = Int64.ofNat 1918987883 then _ else if so ck = 3 ∧ ct ck = Int64.ofNat 32766990153442674 then _ else if so ck = 3 ∧ ct ck = Int64.ofNat 1802071652 then _ else if so ck = 3 ∧ ct ck = Int64.ofNat 2003792484 then _ else none) = _
                                  rw [if_neg (fun z => absurd ((c5489).symm.trans z.2) (by decide))]
                                  rw [if_pos ⟨by omega, c5489⟩]
                                  exact hp5509
                                have hl5548o := sp_line_ok hct ⟨by omega, by omega⟩ hok hl5548
                                have hl55484 := sp_line_h4 hct ⟨by omega, by omega⟩ hok h4k hl5548
                                have hl5548g := sp_line_gt (show ck + 1 < n from hckn) hl5548
                                simp only at hl5548g
                                exact ih5311 S5498 (line + 1) (X_av n (X_av n (X_av n (X_av n ck))), rc, kc, wc, rn, X_tf rc lo (X_ix rn rc (ct (X_av n ck))) (X_ix rn rc (ct (X_av n (X_av n ck)))), kn, ab, D, W) 0 g1 at5500 en5501 tk5502 nu5503 dg5504 rc kc wc nm5505 rN1 kN1 tg5506 kU1 wR1 wL1 wK1 wM1 wH1 wS1 sO1 sN1 eP1 eH1 hK1 h5531 h5534 h5535 ha5513 h5536 h5537 h5538 h5539 h5540 h5541 h5542 h5543 h5544 h5545 h5546 h5547 (hF5314.tr ((X_Fr.rf).tr (X_Fr.mono ⟨hf5514.1, hf5514.2⟩ (fun q hq => by first | exact hq | (rcases hq with rfl <;> decide) | (rcases hq with rfl | rfl <;> decide) | (rcases hq with rfl | rfl | rfl <;> decide) | (rcases hq with rfl | rfl | rfl | rfl <;> decide) | (rcases hq with rfl | rfl | rfl | rfl | rfl <;> decide) | (rcases hq with rfl | rfl | rfl | rfl | rfl | rfl <;> decide) | (rcases hq with rfl | rfl | rfl | rfl | rfl | rfl | rfl <;> decide) | omega)))) (by omega) (fun _ => ⟨hp5508, (by
                                      rw [← hR, show (2001 - line).toNat = (2001 - (line + 1)).toNat + 1 by omega]
                                      show _ = (if so ck = 0 then _ else _)
                                      rw [if_neg (by omega), hl5548]
                                      rfl), hl5548o.1, hl55484, ⟨hp5510, hB1k, hB1w⟩, ⟨rfl, rfl, rfl⟩, (by show 0 ≤ line + 1 ∧ line + 1 ≤ X_av n (X_av n (X_av n (X_av n ck))); omega)⟩) (fun z => absurd rfl z) (hO.frR hbb hOk R_ob.rf hp5511) (by omega)
                              · skip
                                have h5533 : S5498.1 530 = .inr (11, [.ref 531, .int (iI 0), .ref 532, .int (iI (o 1)), .int (iI b1), .int (iI f5521), .int (iI g5522), .int (iI at5515), .int (iI en5516), .int (iI tk5517), .int (iI nu5518), .int (iI dg5519), .long nm5520, .ref 533, .ref 534, .ref 535, .ref 536, .ref 537, .ref 538, .ref 539, .ref 540, .ref 541, .ref 542, .ref 543, .ref 544, .ref 545, .ref 546, .ref 547, .int (iI rc), .int (iI kc), .int (iI wc), .int (iI (o 31)), .int (iI (o 32)), .int (iI (o 33)), .ref 548, .ref 549, .ref 550, .ref 551, .int (iI (o 38)), .ref 552, .ref 553, .ref 554, .ref 555, .ref 556, .ref 557, .ref 558, .ref 559, .ref 560, .ref 561, .int (iI (o 49)), .ref 562, .ref 563, .ref 564, .ref 565, .ref 566, .ref 567, .ref 568, .ref 569, .int (iI (o 58)), .ref 570, .ref 571, .ref 572, .ref 573, .ref 574, .ref 575, .ref 576, .ref 577, .ref 578, .int (iI (o 68)), .int (iI (o 69)), .int (iI (o 70)), .ref 579]) := hM5528
                                have hp5527 : R_ob 144 (b1) tg1 tg5523 := hp5527
                                show X_T sc 162 (113, [(0, .ref 530)], [], S5498) _
                                have h5549 := (hf5530.1 533 (by first | decide | omega)).trans (hA533_)
                                have h5550 := (hf5530.1 534 (by first | decide | omega)).trans (hA534_)
                                have h5551 := (hf5530.1 536 (by first | decide | omega)).trans (hA536_)
                                have h5552 := (hf5530.1 537 (by first | decide | omega)).trans (hA537_)
                                have h5553 := (hf5530.1 538 (by first | decide | omega)).trans (hA538_)
                                have h5554 := (hf5530.1 539 (by first | decide | omega)).trans (hA539_)
                                have h5555 := (hf5530.1 540 (by first | decide | omega)).trans (hA540_)
                                have h5556 := (hf5530.1 541 (by first | decide | omega)).trans (hA541_)
                                have h5557 := (hf5530.1 542 (by first | decide | omega)).trans (hA542_)
                                have h5558 := (hf5530.1 543 (by first | decide | omega)).trans (hA543_)
                                have h5559 := (hf5530.1 544 (by first | decide | omega)).trans (hA544_)
                                have h5560 := (hf5530.1 545 (by first | decide | omega)).trans (hA545_)
                                have h5561 := (hf5530.1 546 (by first | decide | omega)).trans (hA546_)
                                have h5562 := (hf5530.1 547 (by first | decide | omega)).trans (hA547_)
                                have hl5563 : sp_line n so ct (ck, rc, kc, wc, rn, lo, kn, ab, D, W) = none := by
                                  show (if so ck = 3 ∧ ct ck = Int64.ofNat 1918987883 then _ else if so ck = 3 ∧ ct ck = Int64.ofNat 32766990153442674 then _ else if so ck = 3 ∧ ct ck = Int64.ofNat 1802071652 then _ else if so ck = 3 ∧ ct ck = Int64.ofNat 2003792484 then _ else none) = _
                                  rw [if_neg (fun z => absurd ((c5489).symm.trans z.2) (by decide))]
                                  rw [if_pos ⟨by omega, c5489⟩]
                                  exact hp5526
                                exact ih5311 S5498 (line + 1) (ck, rc, kc, wc, rn, lo, kn, ab, D, W) f5521 g5522 at5515 en5516 tk5517 nu5518 dg5519 rc kc wc nm5520 rN1 kN1 tg5523 kU1 wR1 wL1 wK1 wM1 wH1 wS1 sO1 sN1 eP1 eH1 hK1 h5533 h5549 h5550 ha5529 h5551 h5552 h5553 h5554 h5555 h5556 h5557 h5558 h5559 h5560 h5561 h5562 (hF5314.tr ((X_Fr.rf).tr (X_Fr.mono ⟨hf5530.1, hf5530.2⟩ (fun q hq => by first | exact hq | (rcases hq with rfl <;> decide) | (rcases hq with rfl | rfl <;> decide) | (rcases hq with rfl | rfl | rfl <;> decide) | (rcases hq with rfl | rfl | rfl | rfl <;> decide) | (rcases hq with rfl | rfl | rfl | rfl | rfl <;> decide) | (rcases hq with rfl | rfl | rfl | rfl | rfl | rfl <;> decide) | (rcases hq with rfl | rfl | rfl | rfl | rfl | rfl | rfl <;> decide) | omega)))) (by omega) (fun z => absurd z (by omega)) (fun _ => by
                                      rw [← hR, show (2001 - line).toNat = (2001 - (line + 1)).toNat + 1 by omega]
                                      show (if so ck = 0 then _ else _) = _
                                      rw [if_neg (by omega), hl5563]
                                      rfl) (hO.frR hbb hOk R_ob.rf hp5527) (by omega)
                          · skip
                            have c5489 : ¬ ((ct ck) = (Int64.ofNat 32766990153442674)) := c5489
                            refine T_p xr_162_233 xn_162 (pc' := 234) (ls' := [(3, .int (iI 0)), (1, .long (ct ck)), (0, .ref 530)]) (st' := [.long (ct ck)]) rfl ?_
                            refine T_p xr_162_234 xn_162 (pc' := 237) (ls' := [(3, .int (iI 0)), (1, .long (ct ck)), (0, .ref 530)]) (st' := [.long (Int64.ofNat 1802071652), .long (ct ck)]) rfl ?_
                            refine T_lc_eq xr_162_237 xr_162_238 (t := 249) (pc' := 241) rfl rfl (fun c5564 => ?_) (fun c5564 => ?_)
                            · skip
                              have c5564 : (ct ck) = (Int64.ofNat 1802071652) := c5564
                              exact absurd (show ct ck = Int64.ofNat 1802071652 from (by first | exact c5564 | exact Classical.not_not.mp c5564)) c5486
                            · skip
                              have c5564 : ¬ ((ct ck) = (Int64.ofNat 1802071652)) := c5564
                              refine T_p xr_162_241 xn_162 (pc' := 242) (ls' := [(3, .int (iI 0)), (1, .long (ct ck)), (0, .ref 530)]) (st' := [.long (ct ck)]) rfl ?_
                              refine T_p xr_162_242 xn_162 (pc' := 245) (ls' := [(3, .int (iI 0)), (1, .long (ct ck)), (0, .ref 530)]) (st' := [.long (Int64.ofNat 2003792484), .long (ct ck)]) rfl ?_
                              refine T_lc_ne xr_162_245 xr_162_246 (t := 253) (pc' := 249) rfl rfl (fun c5565 => ?_) (fun c5565 => ?_)
                              · skip
                                have c5565 : ¬ (ct ck) = (Int64.ofNat 2003792484) := c5565
                                refine T_p xr_162_253 xn_162 (pc' := 254) (ls' := [(3, .int (iI 0)), (1, .long (ct ck)), (0, .ref 530)]) (st' := [.ref 530]) rfl ?_
                                refine T_cv (S := S5330) (q := 530) xr_162_254 xf_147.1 xf_147.2.1 xn_147 (as := []) (r := []) rfl hM5376 (Nat.le_of_ble_eq_true rfl) (Nat.le_of_ble_eq_true rfl) (pc' := 257) rfl (ls' := [(0, .ref 530)]) rfl ?_
                                have h5566 := (hF5314.1 532 (by first | decide | omega)).trans ((hf5307.1 532 (by first | decide | omega)).trans (h5294))
                                refine T_mono (r_wrong sc S5330 (X_ou (X_ou (X_ou (X_ou (X_ou (X_ou (X_ou (X_ou (X_ou (X_ou (X_ou (X_ou (X_ou o 1 0) 3 (o 1)) 4 b1) 5 0) 6 g1) 7 at1) 8 en1) 9 tk1) 10 nu1) 11 dg1) 28 rc) 29 kc) 30 wc) nm1 tx1 tb len n so pl ct E ck hM5376 h5566 (show (o 1) = len from by first | assumption | omega) hl htx hX hT1 (show 0 ≤ 0 ∧ 0 ≤ 5 from by omega)) (fun v5567 S5568 h5569 => ?_)
                                rcases h5569 with ⟨f5570, g5571, hv5572, hp5573, hM5574, hf5575⟩
                                rw [hv5572]
                                have h5576 : S5568.1 530 = .inr (11, [.ref 531, .int (iI 0), .ref 532, .int (iI (o 1)), .int (iI b1), .int (iI f5570), .int (iI g5571), .int (iI at1), .int (iI en1), .int (iI tk1), .int (iI nu1), .int (iI dg1), .long nm1, .ref 533, .ref 534, .ref 535, .ref 536, .ref 537, .ref 538, .ref 539, .ref 540, .ref 541, .ref 542, .ref 543, .ref 544, .ref 545, .ref 546, .ref 547, .int (iI rc), .int (iI kc), .int (iI wc), .int (iI (o 31)), .int (iI (o 32)), .int (iI (o 33)), .ref 548, .ref 549, .ref 550, .ref 551, .int (iI (o 38)), .ref 552, .ref 553, .ref 554, .ref 555, .ref 556, .ref 557, .ref 558, .ref 559, .ref 560, .ref 561, .int (iI (o 49)), .ref 562, .ref 563, .ref 564, .ref 565, .ref 566, .ref 567, .ref 568, .ref 569, .int (iI (o 58)), .ref 570, .ref 571, .ref 572, .ref 573, .ref 574, .ref 575, .ref 576, .ref 577, .ref 578, .int (iI (o 68)), .int (iI (o 69)), .int (iI (o 70)), .ref 579]) := hM5574
                                show X_T sc 162 (257, [(3, .int (iI 0)), (1, .long (ct ck)), (0, .ref 530)], [], S5568) _
                                refine T_p xr_162_257 xn_162 (pc' := 258) (ls' := [(3, .int (iI 0)), (1, .long (ct ck)), (0, .ref 530)]) (st' := [.ref 530]) rfl ?_
                                refine T_cv (S := S5568) (q := 530) xr_162_258 xf_140.1 xf_140.2.1 xn_140 (as := []) (r := []) rfl h5576 (Nat.le_of_ble_eq_true rfl) (Nat.le_of_ble_eq_true rfl) (pc' := 261) rfl (ls' := [(0, .ref 530)]) rfl ?_
                                refine T_mono (r_isGood sc S5568 (X_ou (X_ou (X_ou (X_ou (X_ou (X_ou (X_ou (X_ou (X_ou (X_ou (X_ou (X_ou (X_ou o 1 0) 3 (o 1)) 4 b1) 5 f5570) 6 g5571) 7 at1) 8 en1) 9 tk1) 10 nu1) 11 dg1) 28 rc) 29 kc) 30 wc) nm1 h5576 (show 0 ≤ f5570 ∧ f5570 ≤ 5 from by omega)) (fun v5577 S5578 h5579 => ?_)
                                rcases h5579 with ⟨hv5580, hf5581⟩
                                rw [hv5580]
                                rw [hf5581]
                                show X_T sc 162 (261, [(3, .int (iI 0)), (1, .long (ct ck)), (0, .ref 530)], [.int (iI (bI (f5570 = 0)))], S5568) _
                                refine T_bif_eq xr_162_261 (t := 268) (pc' := 264) rfl rfl (fun c5582 => ?_) (fun c5582 => ?_)
                                · skip
                                  have c5582 : ¬ (f5570 = 0) := c5582
                                  refine T_p xr_162_268 xn_162 (pc' := 269) (ls' := [(3, .int (iI 0)), (1, .long (ct ck)), (0, .ref 530)]) (st' := [.ref 530]) rfl ?_
                                  refine T_cv (S := S5568) (q := 530) xr_162_269 xf_140.1 xf_140.2.1 xn_140 (as := []) (r := []) rfl h5576 (Nat.le_of_ble_eq_true rfl) (Nat.le_of_ble_eq_true rfl) (pc' := 272) rfl (ls' := [(0, .ref 530)]) rfl ?_
                                  refine T_mono (r_isGood sc S5568 (X_ou (X_ou (X_ou (X_ou (X_ou (X_ou (X_ou (X_ou (X_ou (X_ou (X_ou (X_ou (X_ou o 1 0) 3 (o 1)) 4 b1) 5 f5570) 6 g5571) 7 at1) 8 en1) 9 tk1) 10 nu1) 11 dg1) 28 rc) 29 kc) 30 wc) nm1 h5576 (show 0 ≤ f5570 ∧ f5570 ≤ 5 from by omega)) (fun v5583 S5584 h5585 => ?_)
                                  rcases h5585 with ⟨hv5586, hf5587⟩
                                  rw [hv5586]
                                  rw [hf5587]
                                  show X_T sc 162 (272, [(3, .int (iI 0)), (1, .long (ct ck)), (0, .ref 530)], [.int (iI (bI (f5570 = 0)))], S5568) _
                                  refine T_bif_ne xr_162_272 (t := 278) (pc' := 275) rfl rfl (fun c5588 => ?_) (fun c5588 => ?_)
                                  · skip
                                    have c5588 : (f5570 = 0) := c5588
                                    exact (show False by first | contradiction | omega).elim
                                  · skip
                                    have c5588 : ¬ (f5570 = 0) := c5588
                                    refine T_p xr_162_275 xn_162 (pc' := 113) (ls' := [(3, .int (iI 0)), (1, .long (ct ck)), (0, .ref 530)]) (st' := []) rfl ?_
                                    have h5589 := (hf5575.1 533 (by first | decide | omega)).trans (hA533_)
                                    have h5590 := (hf5575.1 534 (by first | decide | omega)).trans (hA534_)
                                    have h5591 := (hf5575.1 535 (by first | decide | omega)).trans (hA535_)
                                    have h5592 := (hf5575.1 536 (by first | decide | omega)).trans (hA536_)
                                    have h5593 := (hf5575.1 537 (by first | decide | omega)).trans (hA537_)
                                    have h5594 := (hf5575.1 538 (by first | decide | omega)).trans (hA538_)
                                    have h5595 := (hf5575.1 539 (by first | decide | omega)).trans (hA539_)
                                    have h5596 := (hf5575.1 540 (by first | decide | omega)).trans (hA540_)
                                    have h5597 := (hf5575.1 541 (by first | decide | omega)).trans (hA541_)
                                    have h5598 := (hf5575.1 542 (by first | decide | omega)).trans (hA542_)
                                    have h5599 := (hf5575.1 543 (by first | decide | omega)).trans (hA543_)
                                    have h5600 := (hf5575.1 544 (by first | decide | omega)).trans (hA544_)
                                    have h5601 := (hf5575.1 545 (by first | decide | omega)).trans (hA545_)
                                    have h5602 := (hf5575.1 546 (by first | decide | omega)).trans (hA546_)
                                    have h5603 := (hf5575.1 547 (by first | decide | omega)).trans (hA547_)
                                    have hl5604 : sp_line n so ct (ck, rc, kc, wc, rn, lo, kn, ab, D, W) = none := by
                                      show (if so ck = 3 ∧ ct ck = Int64.ofNat 1918987883 then _ else if so ck = 3 ∧ ct ck = Int64.ofNat 32766990153442674 then _ else if so ck = 3 ∧ ct ck = Int64.ofNat 1802071652 then _ else if so ck = 3 ∧ ct ck = Int64.ofNat 2003792484 then _ else none) = _
                                      rw [if_neg (fun z => by first | omega | exact absurd z.2 (by assumption) | exact absurd z.2 (c5485))]
                                      rw [if_neg (fun z => by first | omega | exact absurd z.2 (by assumption) | exact absurd z.2 (c5489))]
                                      rw [if_neg (fun z => by first | omega | exact absurd z.2 (by assumption) | exact absurd z.2 (c5486))]
                                      rw [if_neg (fun z => by first | omega | exact absurd z.2 (by assumption) | exact absurd z.2 (c5487))]
                                    refine T_sub (ls := [(0, .ref 530)]) ⟨rfl, trivial⟩ rfl rfl ?_
                                    exact ih5311 S5568 (line + 1) (ck, rc, kc, wc, rn, lo, kn, ab, D, W) f5570 g5571 at1 en1 tk1 nu1 dg1 rc kc wc nm1 rN1 kN1 tg1 kU1 wR1 wL1 wK1 wM1 wH1 wS1 sO1 sN1 eP1 eH1 hK1 h5576 h5589 h5590 h5591 h5592 h5593 h5594 h5595 h5596 h5597 h5598 h5599 h5600 h5601 h5602 h5603 (hF5314.tr ((X_Fr.rf).tr (X_Fr.mono ⟨hf5575.1, hf5575.2⟩ (fun q hq => by first | exact hq | (rcases hq with rfl <;> decide) | (rcases hq with rfl | rfl <;> decide) | (rcases hq with rfl | rfl | rfl <;> decide) | (rcases hq with rfl | rfl | rfl | rfl <;> decide) | (rcases hq with rfl | rfl | rfl | rfl | rfl <;> decide) | (rcases hq with rfl | rfl | rfl | rfl | rfl | rfl <;> decide) | (rcases hq with rfl | rfl | rfl | rfl | rfl | rfl | rfl <;> decide) | omega)))) (by omega) (fun z => absurd z (by omega)) (fun _ => by
                                          rw [← hR, show (2001 - line).toNat = (2001 - (line + 1)).toNat + 1 by omega]
                                          show (if so ck = 0 then _ else _) = _
                                          rw [if_neg (by omega), hl5604]
                                          rfl) hO (by omega)
                                · skip
                                  have c5582 : (f5570 = 0) := c5582
                                  exact (show False by first | contradiction | omega).elim
                              · skip
                                have c5565 : ¬ (¬ (ct ck) = (Int64.ofNat 2003792484)) := c5565
                                exact absurd (show ct ck = Int64.ofNat 2003792484 from (by first | exact c5565 | exact Classical.not_not.mp c5565)) c5487
                      · skip
                        have c5487 : ¬ (¬ (ct ck) = (Int64.ofNat 2003792484)) := c5487
                        refine T_p xr_162_202 xn_162 (pc' := 203) (ls' := [(1, .long (ct ck)), (0, .ref 530)]) (st' := [.ref 530]) rfl ?_
                        refine T_get xr_162_203 hM5376 rfl (v := .int (iI wc)) rfl (pc' := 206) rfl ?_
                        refine T_p xr_162_206 xn_162 (pc' := 208) (ls' := [(1, .long (ct ck)), (0, .ref 530)]) (st' := [.int (iI 30), .int (iI wc)]) rfl ?_
                        refine T_zicmp_ne xr_162_208 (t := 215) (pc' := 211) rfl rfl (fun c5605 => ?_) (fun c5605 => ?_)
                        · skip
                          have c5605 : ¬ wc = 30 := c5605
                          refine T_p xr_162_215 xn_162 (pc' := 216) (ls' := [(1, .long (ct ck)), (0, .ref 530)]) (st' := [.int (iI 0)]) rfl ?_
                          refine T_p xr_162_216 xn_162 (pc' := 217) (ls' := [(3, .int (iI 0)), (1, .long (ct ck)), (0, .ref 530)]) (st' := []) rfl ?_
                          refine T_p xr_162_217 xn_162 (pc' := 218) (ls' := [(3, .int (iI 0)), (1, .long (ct ck)), (0, .ref 530)]) (st' := [.long (ct ck)]) rfl ?_
                          refine T_p xr_162_218 xn_162 (pc' := 221) (ls' := [(3, .int (iI 0)), (1, .long (ct ck)), (0, .ref 530)]) (st' := [.long (Int64.ofNat 1918987883), .long (ct ck)]) rfl ?_
                          refine T_lc_eq xr_162_221 xr_162_222 (t := 249) (pc' := 225) rfl rfl (fun c5606 => ?_) (fun c5606 => ?_)
                          · skip
                            have c5606 : (ct ck) = (Int64.ofNat 1918987883) := c5606
                            exact absurd (show ct ck = Int64.ofNat 1918987883 from (by first | exact c5606 | exact Classical.not_not.mp c5606)) c5485
                          · skip
                            have c5606 : ¬ ((ct ck) = (Int64.ofNat 1918987883)) := c5606
                            refine T_p xr_162_225 xn_162 (pc' := 226) (ls' := [(3, .int (iI 0)), (1, .long (ct ck)), (0, .ref 530)]) (st' := [.long (ct ck)]) rfl ?_
                            refine T_p xr_162_226 xn_162 (pc' := 229) (ls' := [(3, .int (iI 0)), (1, .long (ct ck)), (0, .ref 530)]) (st' := [.long (Int64.ofNat 32766990153442674), .long (ct ck)]) rfl ?_
                            refine T_lc_eq xr_162_229 xr_162_230 (t := 249) (pc' := 233) rfl rfl (fun c5607 => ?_) (fun c5607 => ?_)
                            · skip
                              have c5607 : (ct ck) = (Int64.ofNat 32766990153442674) := c5607
                              exact absurd (((Classical.not_not.mp c5487)).symm.trans (show ct ck = Int64.ofNat 32766990153442674 from (by first | exact c5607 | exact Classical.not_not.mp c5607))) (by decide)
                            · skip
                              have c5607 : ¬ ((ct ck) = (Int64.ofNat 32766990153442674)) := c5607
                              refine T_p xr_162_233 xn_162 (pc' := 234) (ls' := [(3, .int (iI 0)), (1, .long (ct ck)), (0, .ref 530)]) (st' := [.long (ct ck)]) rfl ?_
                              refine T_p xr_162_234 xn_162 (pc' := 237) (ls' := [(3, .int (iI 0)), (1, .long (ct ck)), (0, .ref 530)]) (st' := [.long (Int64.ofNat 1802071652), .long (ct ck)]) rfl ?_
                              refine T_lc_eq xr_162_237 xr_162_238 (t := 249) (pc' := 241) rfl rfl (fun c5608 => ?_) (fun c5608 => ?_)
                              · skip
                                have c5608 : (ct ck) = (Int64.ofNat 1802071652) := c5608
                                exact absurd (show ct ck = Int64.ofNat 1802071652 from (by first | exact c5608 | exact Classical.not_not.mp c5608)) c5486
                              · skip
                                have c5608 : ¬ ((ct ck) = (Int64.ofNat 1802071652)) := c5608
                                refine T_p xr_162_241 xn_162 (pc' := 242) (ls' := [(3, .int (iI 0)), (1, .long (ct ck)), (0, .ref 530)]) (st' := [.long (ct ck)]) rfl ?_
                                refine T_p xr_162_242 xn_162 (pc' := 245) (ls' := [(3, .int (iI 0)), (1, .long (ct ck)), (0, .ref 530)]) (st' := [.long (Int64.ofNat 2003792484), .long (ct ck)]) rfl ?_
                                refine T_lc_ne xr_162_245 xr_162_246 (t := 253) (pc' := 249) rfl rfl (fun c5609 => ?_) (fun c5609 => ?_)
                                · skip
                                  have c5609 : ¬ (ct ck) = (Int64.ofNat 2003792484) := c5609
                                  exact absurd (Classical.not_not.mp c5487) c5609
                                · skip
                                  have c5609 : ¬ (¬ (ct ck) = (Int64.ofNat 2003792484)) := c5609
                                  refine T_p xr_162_249 xn_162 (pc' := 250) (ls' := [(3, .int (iI 0)), (1, .long (ct ck)), (0, .ref 530)]) (st' := [.int (iI 0)]) rfl ?_
                                  refine T_zif_eqt xr_162_250 (t := 257) rfl (by decide) ?_
                                  refine T_p xr_162_257 xn_162 (pc' := 258) (ls' := [(3, .int (iI 0)), (1, .long (ct ck)), (0, .ref 530)]) (st' := [.ref 530]) rfl ?_
                                  refine T_cv (S := S5330) (q := 530) xr_162_258 xf_140.1 xf_140.2.1 xn_140 (as := []) (r := []) rfl hM5376 (Nat.le_of_ble_eq_true rfl) (Nat.le_of_ble_eq_true rfl) (pc' := 261) rfl (ls' := [(0, .ref 530)]) rfl ?_
                                  refine T_mono (r_isGood sc S5330 (X_ou (X_ou (X_ou (X_ou (X_ou (X_ou (X_ou (X_ou (X_ou (X_ou (X_ou (X_ou (X_ou o 1 0) 3 (o 1)) 4 b1) 5 0) 6 g1) 7 at1) 8 en1) 9 tk1) 10 nu1) 11 dg1) 28 rc) 29 kc) 30 wc) nm1 hM5376 (show 0 ≤ 0 ∧ 0 ≤ 5 from by omega)) (fun v5610 S5611 h5612 => ?_)
                                  rcases h5612 with ⟨hv5613, hf5614⟩
                                  rw [hv5613]
                                  rw [hf5614]
                                  show X_T sc 162 (261, [(3, .int (iI 0)), (1, .long (ct ck)), (0, .ref 530)], [.int (iI (bI ((0 : Int) = 0)))], S5330) _
                                  refine T_bif_eq xr_162_261 (t := 268) (pc' := 264) rfl rfl (fun c5615 => ?_) (fun c5615 => ?_)
                                  · skip
                                    have c5615 : ¬ ((0 : Int) = 0) := c5615
                                    exact (show False by first | contradiction | omega).elim
                                  · skip
                                    have c5615 : ((0 : Int) = 0) := c5615
                                    have hckn : ck + 1 < n := by
                                      have z := hX.2.2.2.2
                                      by_cases hz : ck = n - 1
                                      · rw [← hz] at z; omega
                                      · omega
                                    have hok3w : 0 ≤ wc ∧ wc < 30 := by omega
                                    refine T_sub (ls := [(1, .long (ct ck)), (0, .ref 530)]) ⟨rfl, rfl, trivial⟩ rfl rfl ?_
                                    have h5616 := (hF5314.1 532 (by first | decide | omega)).trans ((hf5307.1 532 (by first | decide | omega)).trans (h5294))
                                    refine r_lnW sc S5330 (X_ou (X_ou (X_ou (X_ou (X_ou (X_ou (X_ou (X_ou (X_ou (X_ou (X_ou (X_ou (X_ou o 1 0) 3 (o 1)) 4 b1) 5 0) 6 g1) 7 at1) 8 en1) 9 tk1) 10 nu1) 11 dg1) 28 rc) 29 kc) 30 wc) nm1 tx1 rN1 kN1 wR1 wL1 wK1 wM1 wH1 wS1 sO1 sN1 eP1 eH1 hK1 tb len n so pl ct E ck rc kc wc rn lo kn ab D W hM5376 h5616 hA533_ hA534_ hA537_ hA538_ hA539_ hA540_ hA541_ hA542_ hA543_ hA544_ hA545_ hA546_ hA547_ (show (o 1) = len from by first | assumption | omega) hl htx hX hT1 (show 0 = 0 from by omega) (show rc = rc from by omega) (show kc = kc from by omega) (show wc = wc from by omega) (show 0 ≤ b1 ∧ b1 ≤ 1 from by omega) ⟨by omega, (Classical.not_not.mp c5487)⟩ (by omega) (by omega) hB1r.1 hB1k.1 hct _ (fun S5618 h5619 => ?_)
                                    rcases h5619 with ⟨at5620, en5621, tk5622, nu5623, dg5624, nm5625, g5626, c5627, d5628, q5629, wR5630, wL5631, wK5632, wM5633, wH5634, wS5635, sO5636, sN5637, eP5638, eH5639, hK5640, hp5642, hp5643, hp5644, hp5645, hp5646, hp5647, hp5648, hp5649, hp5650, hp5651, hp5652, hp5653, hp5654, hp5655, hM5656, ha5657, ha5658, ha5659, ha5660, ha5661, ha5662, ha5663, ha5664, ha5665, ha5666, ha5667, hf5668⟩ | ⟨at5669, en5670, tk5671, nu5672, dg5673, nm5674, f5675, g5676, wc5677, wR5678, wL5679, wK5680, wM5681, wH5682, wS5683, sO5684, sN5685, eP5686, eH5687, hK5688, hp5690, hp5691, hp5692, hp5693, hp5694, hp5695, hp5696, hp5697, hp5698, hp5699, hp5700, hp5701, hp5702, hM5703, ha5704, ha5705, ha5706, ha5707, ha5708, ha5709, ha5710, ha5711, ha5712, ha5713, ha5714, hf5715⟩
                                    · skip
                                      have h5716 : S5618.1 530 = .inr (11, [.ref 531, .int (iI 0), .ref 532, .int (iI (o 1)), .int (iI b1), .int (iI 0), .int (iI g5626), .int (iI at5620), .int (iI en5621), .int (iI tk5622), .int (iI nu5623), .int (iI dg5624), .long nm5625, .ref 533, .ref 534, .ref 535, .ref 536, .ref 537, .ref 538, .ref 539, .ref 540, .ref 541, .ref 542, .ref 543, .ref 544, .ref 545, .ref 546, .ref 547, .int (iI rc), .int (iI kc), .int (iI (wc + 1)), .int (iI (o 31)), .int (iI (o 32)), .int (iI (o 33)), .ref 548, .ref 549, .ref 550, .ref 551, .int (iI (o 38)), .ref 552, .ref 553, .ref 554, .ref 555, .ref 556, .ref 557, .ref 558, .ref 559, .ref 560, .ref 561, .int (iI (o 49)), .ref 562, .ref 563, .ref 564, .ref 565, .ref 566, .ref 567, .ref 568, .ref 569, .int (iI (o 58)), .ref 570, .ref 571, .ref 572, .ref 573, .ref 574, .ref 575, .ref 576, .ref 577, .ref 578, .int (iI (o 68)), .int (iI (o 69)), .int (iI (o 70)), .ref 579]) := hM5656
                                      have hp5644 : R_w (30 * b1 + wc) d5628 q5629 wR5630 wL5631 wK5632 wM5633 wH5634 wS5635 sO5636 sN5637 eP5638 eH5639 hK5640 := hp5644
                                      have hp5645 : R_ob 1 (30 * b1 + wc) wR1 wR5630 := hp5645
                                      have hp5646 : R_ob 1 (30 * b1 + wc) wL1 wL5631 := hp5646
                                      have hp5647 : R_ob 1 (30 * b1 + wc) wK1 wK5632 := hp5647
                                      have hp5648 : R_ob 1 (30 * b1 + wc) wM1 wM5633 := hp5648
                                      have hp5649 : R_ob 1 (30 * b1 + wc) wH1 wH5634 := hp5649
                                      have hp5650 : R_ob 1 (30 * b1 + wc) wS1 wS5635 := hp5650
                                      have hp5651 : R_ob 30 (30 * b1 + wc) sO1 sO5636 := hp5651
                                      have hp5652 : R_ob 30 (30 * b1 + wc) sN1 sN5637 := hp5652
                                      have hp5653 : R_ob 8 (30 * b1 + wc) eP1 eP5638 := hp5653
                                      have hp5654 : R_ob 8 (30 * b1 + wc) eH1 eH5639 := hp5654
                                      have hp5655 : R_ob 4 (30 * b1 + wc) hK1 hK5640 := hp5655
                                      obtain ⟨⟨_, _⟩, ⟨_, _⟩, hk5717, ⟨_, _⟩, hk5717e, ⟨_, _⟩, ⟨_, _⟩⟩ := R_tk_f hX hp5642
                                      show X_T sc 162 (113, [(0, .ref 530)], [], S5618) _
                                      have h5719 := (hf5668.1 533 (by first | decide | omega)).trans (hA533_)
                                      have h5720 := (hf5668.1 534 (by first | decide | omega)).trans (hA534_)
                                      have h5721 := (hf5668.1 535 (by first | decide | omega)).trans (hA535_)
                                      have h5722 := (hf5668.1 536 (by first | decide | omega)).trans (hA536_)
                                      have hl5723 : sp_line n so ct (ck, rc, kc, wc, rn, lo, kn, ab, D, W) = some (c5627, rc, kc, wc + 1, rn, lo, kn, ab, X_ug D wc d5628, X_ug W wc q5629) := by
                                        show (if so ck = 3 ∧ ct ck = Int64.ofNat 1918987883 then _ else if so ck = 3 ∧ ct ck = Int64.ofNat 32766990153442674 then _ else if so ck = 3 ∧ ct ck = Int64.ofNat 1802071652 then _ else if so ck = 3 ∧ ct ck = Int64.ofNat 2003792484 then _ else none) = _
                                        rw [if_neg (fun z => absurd (((Classical.not_not.mp c5487)).symm.trans z.2) (by decide))]
                                        rw [if_neg (fun z => absurd (((Classical.not_not.mp c5487)).symm.trans z.2) (by decide))]
                                        rw [if_neg (fun z => absurd (((Classical.not_not.mp c5487)).symm.trans z.2) (by decide))]
                                        rw [if_pos ⟨by omega, (Classical.not_not.mp c5487)⟩]
                                        exact hp5643
                                      have hl5723o := sp_line_ok hct ⟨by omega, by omega⟩ hok hl5723
                                      have hl57234 := sp_line_h4 hct ⟨by omega, by omega⟩ hok h4k hl5723
                                      have hl5723g := sp_line_gt (show ck + 1 < n from hckn) hl5723
                                      simp only at hl5723g
                                      exact ih5311 S5618 (line + 1) (c5627, rc, kc, wc + 1, rn, lo, kn, ab, X_ug D wc d5628, X_ug W wc q5629) 0 g5626 at5620 en5621 tk5622 nu5623 dg5624 rc kc (wc + 1) nm5625 rN1 kN1 tg1 kU1 wR5630 wL5631 wK5632 wM5633 wH5634 wS5635 sO5636 sN5637 eP5638 eH5639 hK5640 h5716 h5719 h5720 h5721 h5722 ha5657 ha5658 ha5659 ha5660 ha5661 ha5662 ha5663 ha5664 ha5665 ha5666 ha5667 (hF5314.tr ((X_Fr.rf).tr (X_Fr.mono ⟨hf5668.1, hf5668.2⟩ (fun q hq => by first | exact hq | (rcases hq with rfl <;> decide) | (rcases hq with rfl | rfl <;> decide) | (rcases hq with rfl | rfl | rfl <;> decide) | (rcases hq with rfl | rfl | rfl | rfl <;> decide) | (rcases hq with rfl | rfl | rfl | rfl | rfl <;> decide) | (rcases hq with rfl | rfl | rfl | rfl | rfl | rfl <;> decide) | (rcases hq with rfl | rfl | rfl | rfl | rfl | rfl | rfl <;> decide) | omega)))) (by omega) (fun _ => ⟨hp5642, (by
                                            rw [← hR, show (2001 - line).toNat = (2001 - (line + 1)).toNat + 1 by omega]
                                            show _ = (if so ck = 0 then _ else _)
                                            rw [if_neg (by omega), hl5723]
                                            rfl), hl5723o.1, hl57234, (R_bk.adW hok hB1 h4k hp5644 hp5645 hp5646 hp5647 hp5648 hp5649 hp5650 hp5651 hp5652 hp5653 hp5654 hp5655), ⟨rfl, rfl, rfl⟩, (by show 0 ≤ line + 1 ∧ line + 1 ≤ c5627; omega)⟩) (fun z => absurd rfl z) (hO.frW hbb hok3w hOk hO4 hp5645 hp5646 hp5647 hp5648 hp5649 hp5650 hp5651 hp5652 hp5653 hp5654 hp5655) (by omega)
                                    · skip
                                      have h5718 : S5618.1 530 = .inr (11, [.ref 531, .int (iI 0), .ref 532, .int (iI (o 1)), .int (iI b1), .int (iI f5675), .int (iI g5676), .int (iI at5669), .int (iI en5670), .int (iI tk5671), .int (iI nu5672), .int (iI dg5673), .long nm5674, .ref 533, .ref 534, .ref 535, .ref 536, .ref 537, .ref 538, .ref 539, .ref 540, .ref 541, .ref 542, .ref 543, .ref 544, .ref 545, .ref 546, .ref 547, .int (iI rc), .int (iI kc), .int (iI wc5677), .int (iI (o 31)), .int (iI (o 32)), .int (iI (o 33)), .ref 548, .ref 549, .ref 550, .ref 551, .int (iI (o 38)), .ref 552, .ref 553, .ref 554, .ref 555, .ref 556, .ref 557, .ref 558, .ref 559, .ref 560, .ref 561, .int (iI (o 49)), .ref 562, .ref 563, .ref 564, .ref 565, .ref 566, .ref 567, .ref 568, .ref 569, .int (iI (o 58)), .ref 570, .ref 571, .ref 572, .ref 573, .ref 574, .ref 575, .ref 576, .ref 577, .ref 578, .int (iI (o 68)), .int (iI (o 69)), .int (iI (o 70)), .ref 579]) := hM5703
                                      have hp5692 : R_ob 1 (30 * b1 + wc) wR1 wR5678 := hp5692
                                      have hp5693 : R_ob 1 (30 * b1 + wc) wL1 wL5679 := hp5693
                                      have hp5694 : R_ob 1 (30 * b1 + wc) wK1 wK5680 := hp5694
                                      have hp5695 : R_ob 1 (30 * b1 + wc) wM1 wM5681 := hp5695
                                      have hp5696 : R_ob 1 (30 * b1 + wc) wH1 wH5682 := hp5696
                                      have hp5697 : R_ob 1 (30 * b1 + wc) wS1 wS5683 := hp5697
                                      have hp5698 : R_ob 30 (30 * b1 + wc) sO1 sO5684 := hp5698
                                      have hp5699 : R_ob 30 (30 * b1 + wc) sN1 sN5685 := hp5699
                                      have hp5700 : R_ob 8 (30 * b1 + wc) eP1 eP5686 := hp5700
                                      have hp5701 : R_ob 8 (30 * b1 + wc) eH1 eH5687 := hp5701
                                      have hp5702 : R_ob 4 (30 * b1 + wc) hK1 hK5688 := hp5702
                                      show X_T sc 162 (113, [(0, .ref 530)], [], S5618) _
                                      have h5724 := (hf5715.1 533 (by first | decide | omega)).trans (hA533_)
                                      have h5725 := (hf5715.1 534 (by first | decide | omega)).trans (hA534_)
                                      have h5726 := (hf5715.1 535 (by first | decide | omega)).trans (hA535_)
                                      have h5727 := (hf5715.1 536 (by first | decide | omega)).trans (hA536_)
                                      have hl5728 : sp_line n so ct (ck, rc, kc, wc, rn, lo, kn, ab, D, W) = none := by
                                        show (if so ck = 3 ∧ ct ck = Int64.ofNat 1918987883 then _ else if so ck = 3 ∧ ct ck = Int64.ofNat 32766990153442674 then _ else if so ck = 3 ∧ ct ck = Int64.ofNat 1802071652 then _ else if so ck = 3 ∧ ct ck = Int64.ofNat 2003792484 then _ else none) = _
                                        rw [if_neg (fun z => absurd (((Classical.not_not.mp c5487)).symm.trans z.2) (by decide))]
                                        rw [if_neg (fun z => absurd (((Classical.not_not.mp c5487)).symm.trans z.2) (by decide))]
                                        rw [if_neg (fun z => absurd (((Classical.not_not.mp c5487)).symm.trans z.2) (by decide))]
                                        rw [if_pos ⟨by omega, (Classical.not_not.mp c5487)⟩]
                                        exact hp5691
                                      exact ih5311 S5618 (line + 1) (ck, rc, kc, wc, rn, lo, kn, ab, D, W) f5675 g5676 at5669 en5670 tk5671 nu5672 dg5673 rc kc wc5677 nm5674 rN1 kN1 tg1 kU1 wR5678 wL5679 wK5680 wM5681 wH5682 wS5683 sO5684 sN5685 eP5686 eH5687 hK5688 h5718 h5724 h5725 h5726 h5727 ha5704 ha5705 ha5706 ha5707 ha5708 ha5709 ha5710 ha5711 ha5712 ha5713 ha5714 (hF5314.tr ((X_Fr.rf).tr (X_Fr.mono ⟨hf5715.1, hf5715.2⟩ (fun q hq => by first | exact hq | (rcases hq with rfl <;> decide) | (rcases hq with rfl | rfl <;> decide) | (rcases hq with rfl | rfl | rfl <;> decide) | (rcases hq with rfl | rfl | rfl | rfl <;> decide) | (rcases hq with rfl | rfl | rfl | rfl | rfl <;> decide) | (rcases hq with rfl | rfl | rfl | rfl | rfl | rfl <;> decide) | (rcases hq with rfl | rfl | rfl | rfl | rfl | rfl | rfl <;> decide) | omega)))) (by omega) (fun z => absurd z (by omega)) (fun _ => by
                                            rw [← hR, show (2001 - line).toNat = (2001 - (line + 1)).toNat + 1 by omega]
                                            show (if so ck = 0 then _ else _) = _
                                            rw [if_neg (by omega), hl5728]
                                            rfl) (hO.frW hbb hok3w hOk hO4 hp5692 hp5693 hp5694 hp5695 hp5696 hp5697 hp5698 hp5699 hp5700 hp5701 hp5702) (by omega)
                        · skip
                          have c5605 : ¬ (¬ wc = 30) := c5605
                          refine T_p xr_162_211 xn_162 (pc' := 212) (ls' := [(1, .long (ct ck)), (0, .ref 530)]) (st' := [.int (iI 1)]) rfl ?_
                          refine T_p xr_162_212 xn_162 (pc' := 216) (ls' := [(1, .long (ct ck)), (0, .ref 530)]) (st' := [.int (iI 1)]) rfl ?_
                          refine T_p xr_162_216 xn_162 (pc' := 217) (ls' := [(3, .int (iI 1)), (1, .long (ct ck)), (0, .ref 530)]) (st' := []) rfl ?_
                          refine T_p xr_162_217 xn_162 (pc' := 218) (ls' := [(3, .int (iI 1)), (1, .long (ct ck)), (0, .ref 530)]) (st' := [.long (ct ck)]) rfl ?_
                          refine T_p xr_162_218 xn_162 (pc' := 221) (ls' := [(3, .int (iI 1)), (1, .long (ct ck)), (0, .ref 530)]) (st' := [.long (Int64.ofNat 1918987883), .long (ct ck)]) rfl ?_
                          refine T_lc_eq xr_162_221 xr_162_222 (t := 249) (pc' := 225) rfl rfl (fun c5729 => ?_) (fun c5729 => ?_)
                          · skip
                            have c5729 : (ct ck) = (Int64.ofNat 1918987883) := c5729
                            exact absurd (show ct ck = Int64.ofNat 1918987883 from (by first | exact c5729 | exact Classical.not_not.mp c5729)) c5485
                          · skip
                            have c5729 : ¬ ((ct ck) = (Int64.ofNat 1918987883)) := c5729
                            refine T_p xr_162_225 xn_162 (pc' := 226) (ls' := [(3, .int (iI 1)), (1, .long (ct ck)), (0, .ref 530)]) (st' := [.long (ct ck)]) rfl ?_
                            refine T_p xr_162_226 xn_162 (pc' := 229) (ls' := [(3, .int (iI 1)), (1, .long (ct ck)), (0, .ref 530)]) (st' := [.long (Int64.ofNat 32766990153442674), .long (ct ck)]) rfl ?_
                            refine T_lc_eq xr_162_229 xr_162_230 (t := 249) (pc' := 233) rfl rfl (fun c5730 => ?_) (fun c5730 => ?_)
                            · skip
                              have c5730 : (ct ck) = (Int64.ofNat 32766990153442674) := c5730
                              exact absurd (((Classical.not_not.mp c5487)).symm.trans (show ct ck = Int64.ofNat 32766990153442674 from (by first | exact c5730 | exact Classical.not_not.mp c5730))) (by decide)
                            · skip
                              have c5730 : ¬ ((ct ck) = (Int64.ofNat 32766990153442674)) := c5730
                              refine T_p xr_162_233 xn_162 (pc' := 234) (ls' := [(3, .int (iI 1)), (1, .long (ct ck)), (0, .ref 530)]) (st' := [.long (ct ck)]) rfl ?_
                              refine T_p xr_162_234 xn_162 (pc' := 237) (ls' := [(3, .int (iI 1)), (1, .long (ct ck)), (0, .ref 530)]) (st' := [.long (Int64.ofNat 1802071652), .long (ct ck)]) rfl ?_
                              refine T_lc_eq xr_162_237 xr_162_238 (t := 249) (pc' := 241) rfl rfl (fun c5731 => ?_) (fun c5731 => ?_)
                              · skip
                                have c5731 : (ct ck) = (Int64.ofNat 1802071652) := c5731
                                exact absurd (show ct ck = Int64.ofNat 1802071652 from (by first | exact c5731 | exact Classical.not_not.mp c5731)) c5486
                              · skip
                                have c5731 : ¬ ((ct ck) = (Int64.ofNat 1802071652)) := c5731
                                refine T_p xr_162_241 xn_162 (pc' := 242) (ls' := [(3, .int (iI 1)), (1, .long (ct ck)), (0, .ref 530)]) (st' := [.long (ct ck)]) rfl ?_
                                refine T_p xr_162_242 xn_162 (pc' := 245) (ls' := [(3, .int (iI 1)), (1, .long (ct ck)), (0, .ref 530)]) (st' := [.long (Int64.ofNat 2003792484), .long (ct ck)]) rfl ?_
                                refine T_lc_ne xr_162_245 xr_162_246 (t := 253) (pc' := 249) rfl rfl (fun c5732 => ?_) (fun c5732 => ?_)
                                · skip
                                  have c5732 : ¬ (ct ck) = (Int64.ofNat 2003792484) := c5732
                                  exact absurd (Classical.not_not.mp c5487) c5732
                                · skip
                                  have c5732 : ¬ (¬ (ct ck) = (Int64.ofNat 2003792484)) := c5732
                                  refine T_p xr_162_249 xn_162 (pc' := 250) (ls' := [(3, .int (iI 1)), (1, .long (ct ck)), (0, .ref 530)]) (st' := [.int (iI 1)]) rfl ?_
                                  refine T_zif_eqf xr_162_250 (t := 257) (pc' := 253) rfl rfl (by decide) ?_
                                  refine T_p xr_162_253 xn_162 (pc' := 254) (ls' := [(3, .int (iI 1)), (1, .long (ct ck)), (0, .ref 530)]) (st' := [.ref 530]) rfl ?_
                                  refine T_cv (S := S5330) (q := 530) xr_162_254 xf_147.1 xf_147.2.1 xn_147 (as := []) (r := []) rfl hM5376 (Nat.le_of_ble_eq_true rfl) (Nat.le_of_ble_eq_true rfl) (pc' := 257) rfl (ls' := [(0, .ref 530)]) rfl ?_
                                  have h5733 := (hF5314.1 532 (by first | decide | omega)).trans ((hf5307.1 532 (by first | decide | omega)).trans (h5294))
                                  refine T_mono (r_wrong sc S5330 (X_ou (X_ou (X_ou (X_ou (X_ou (X_ou (X_ou (X_ou (X_ou (X_ou (X_ou (X_ou (X_ou o 1 0) 3 (o 1)) 4 b1) 5 0) 6 g1) 7 at1) 8 en1) 9 tk1) 10 nu1) 11 dg1) 28 rc) 29 kc) 30 wc) nm1 tx1 tb len n so pl ct E ck hM5376 h5733 (show (o 1) = len from by first | assumption | omega) hl htx hX hT1 (show 0 ≤ 0 ∧ 0 ≤ 5 from by omega)) (fun v5734 S5735 h5736 => ?_)
                                  rcases h5736 with ⟨f5737, g5738, hv5739, hp5740, hM5741, hf5742⟩
                                  rw [hv5739]
                                  have h5743 : S5735.1 530 = .inr (11, [.ref 531, .int (iI 0), .ref 532, .int (iI (o 1)), .int (iI b1), .int (iI f5737), .int (iI g5738), .int (iI at1), .int (iI en1), .int (iI tk1), .int (iI nu1), .int (iI dg1), .long nm1, .ref 533, .ref 534, .ref 535, .ref 536, .ref 537, .ref 538, .ref 539, .ref 540, .ref 541, .ref 542, .ref 543, .ref 544, .ref 545, .ref 546, .ref 547, .int (iI rc), .int (iI kc), .int (iI wc), .int (iI (o 31)), .int (iI (o 32)), .int (iI (o 33)), .ref 548, .ref 549, .ref 550, .ref 551, .int (iI (o 38)), .ref 552, .ref 553, .ref 554, .ref 555, .ref 556, .ref 557, .ref 558, .ref 559, .ref 560, .ref 561, .int (iI (o 49)), .ref 562, .ref 563, .ref 564, .ref 565, .ref 566, .ref 567, .ref 568, .ref 569, .int (iI (o 58)), .ref 570, .ref 571, .ref 572, .ref 573, .ref 574, .ref 575, .ref 576, .ref 577, .ref 578, .int (iI (o 68)), .int (iI (o 69)), .int (iI (o 70)), .ref 579]) := hM5741
                                  show X_T sc 162 (257, [(3, .int (iI 1)), (1, .long (ct ck)), (0, .ref 530)], [], S5735) _
                                  refine T_p xr_162_257 xn_162 (pc' := 258) (ls' := [(3, .int (iI 1)), (1, .long (ct ck)), (0, .ref 530)]) (st' := [.ref 530]) rfl ?_
                                  refine T_cv (S := S5735) (q := 530) xr_162_258 xf_140.1 xf_140.2.1 xn_140 (as := []) (r := []) rfl h5743 (Nat.le_of_ble_eq_true rfl) (Nat.le_of_ble_eq_true rfl) (pc' := 261) rfl (ls' := [(0, .ref 530)]) rfl ?_
                                  refine T_mono (r_isGood sc S5735 (X_ou (X_ou (X_ou (X_ou (X_ou (X_ou (X_ou (X_ou (X_ou (X_ou (X_ou (X_ou (X_ou o 1 0) 3 (o 1)) 4 b1) 5 f5737) 6 g5738) 7 at1) 8 en1) 9 tk1) 10 nu1) 11 dg1) 28 rc) 29 kc) 30 wc) nm1 h5743 (show 0 ≤ f5737 ∧ f5737 ≤ 5 from by omega)) (fun v5744 S5745 h5746 => ?_)
                                  rcases h5746 with ⟨hv5747, hf5748⟩
                                  rw [hv5747]
                                  rw [hf5748]
                                  show X_T sc 162 (261, [(3, .int (iI 1)), (1, .long (ct ck)), (0, .ref 530)], [.int (iI (bI (f5737 = 0)))], S5735) _
                                  refine T_bif_eq xr_162_261 (t := 268) (pc' := 264) rfl rfl (fun c5749 => ?_) (fun c5749 => ?_)
                                  · skip
                                    have c5749 : ¬ (f5737 = 0) := c5749
                                    refine T_p xr_162_268 xn_162 (pc' := 269) (ls' := [(3, .int (iI 1)), (1, .long (ct ck)), (0, .ref 530)]) (st' := [.ref 530]) rfl ?_
                                    refine T_cv (S := S5735) (q := 530) xr_162_269 xf_140.1 xf_140.2.1 xn_140 (as := []) (r := []) rfl h5743 (Nat.le_of_ble_eq_true rfl) (Nat.le_of_ble_eq_true rfl) (pc' := 272) rfl (ls' := [(0, .ref 530)]) rfl ?_
                                    refine T_mono (r_isGood sc S5735 (X_ou (X_ou (X_ou (X_ou (X_ou (X_ou (X_ou (X_ou (X_ou (X_ou (X_ou (X_ou (X_ou o 1 0) 3 (o 1)) 4 b1) 5 f5737) 6 g5738) 7 at1) 8 en1) 9 tk1) 10 nu1) 11 dg1) 28 rc) 29 kc) 30 wc) nm1 h5743 (show 0 ≤ f5737 ∧ f5737 ≤ 5 from by omega)) (fun v5750 S5751 h5752 => ?_)
                                    rcases h5752 with ⟨hv5753, hf5754⟩
                                    rw [hv5753]
                                    rw [hf5754]
                                    show X_T sc 162 (272, [(3, .int (iI 1)), (1, .long (ct ck)), (0, .ref 530)], [.int (iI (bI (f5737 = 0)))], S5735) _
                                    refine T_bif_ne xr_162_272 (t := 278) (pc' := 275) rfl rfl (fun c5755 => ?_) (fun c5755 => ?_)
                                    · skip
                                      have c5755 : (f5737 = 0) := c5755
                                      exact (show False by first | contradiction | omega).elim
                                    · skip
                                      have c5755 : ¬ (f5737 = 0) := c5755
                                      refine T_p xr_162_275 xn_162 (pc' := 113) (ls' := [(3, .int (iI 1)), (1, .long (ct ck)), (0, .ref 530)]) (st' := []) rfl ?_
                                      have h5756 := (hf5742.1 533 (by first | decide | omega)).trans (hA533_)
                                      have h5757 := (hf5742.1 534 (by first | decide | omega)).trans (hA534_)
                                      have h5758 := (hf5742.1 535 (by first | decide | omega)).trans (hA535_)
                                      have h5759 := (hf5742.1 536 (by first | decide | omega)).trans (hA536_)
                                      have h5760 := (hf5742.1 537 (by first | decide | omega)).trans (hA537_)
                                      have h5761 := (hf5742.1 538 (by first | decide | omega)).trans (hA538_)
                                      have h5762 := (hf5742.1 539 (by first | decide | omega)).trans (hA539_)
                                      have h5763 := (hf5742.1 540 (by first | decide | omega)).trans (hA540_)
                                      have h5764 := (hf5742.1 541 (by first | decide | omega)).trans (hA541_)
                                      have h5765 := (hf5742.1 542 (by first | decide | omega)).trans (hA542_)
                                      have h5766 := (hf5742.1 543 (by first | decide | omega)).trans (hA543_)
                                      have h5767 := (hf5742.1 544 (by first | decide | omega)).trans (hA544_)
                                      have h5768 := (hf5742.1 545 (by first | decide | omega)).trans (hA545_)
                                      have h5769 := (hf5742.1 546 (by first | decide | omega)).trans (hA546_)
                                      have h5770 := (hf5742.1 547 (by first | decide | omega)).trans (hA547_)
                                      have hl5771 : sp_line n so ct (ck, rc, kc, wc, rn, lo, kn, ab, D, W) = none := by
                                        show (if so ck = 3 ∧ ct ck = Int64.ofNat 1918987883 then _ else if so ck = 3 ∧ ct ck = Int64.ofNat 32766990153442674 then _ else if so ck = 3 ∧ ct ck = Int64.ofNat 1802071652 then _ else if so ck = 3 ∧ ct ck = Int64.ofNat 2003792484 then _ else none) = _
                                        rw [if_neg (fun z => absurd (((Classical.not_not.mp c5487)).symm.trans z.2) (by decide))]
                                        rw [if_neg (fun z => absurd (((Classical.not_not.mp c5487)).symm.trans z.2) (by decide))]
                                        rw [if_neg (fun z => absurd (((Classical.not_not.mp c5487)).symm.trans z.2) (by decide))]
                                        rw [if_pos ⟨by omega, (Classical.not_not.mp c5487)⟩]
                                        simp only [sp_word]
                                        rw [if_pos (by omega)]
                                      refine T_sub (ls := [(0, .ref 530)]) ⟨rfl, trivial⟩ rfl rfl ?_
                                      exact ih5311 S5735 (line + 1) (ck, rc, kc, wc, rn, lo, kn, ab, D, W) f5737 g5738 at1 en1 tk1 nu1 dg1 rc kc wc nm1 rN1 kN1 tg1 kU1 wR1 wL1 wK1 wM1 wH1 wS1 sO1 sN1 eP1 eH1 hK1 h5743 h5756 h5757 h5758 h5759 h5760 h5761 h5762 h5763 h5764 h5765 h5766 h5767 h5768 h5769 h5770 (hF5314.tr ((X_Fr.rf).tr (X_Fr.mono ⟨hf5742.1, hf5742.2⟩ (fun q hq => by first | exact hq | (rcases hq with rfl <;> decide) | (rcases hq with rfl | rfl <;> decide) | (rcases hq with rfl | rfl | rfl <;> decide) | (rcases hq with rfl | rfl | rfl | rfl <;> decide) | (rcases hq with rfl | rfl | rfl | rfl | rfl <;> decide) | (rcases hq with rfl | rfl | rfl | rfl | rfl | rfl <;> decide) | (rcases hq with rfl | rfl | rfl | rfl | rfl | rfl | rfl <;> decide) | omega)))) (by omega) (fun z => absurd z (by omega)) (fun _ => by
                                            rw [← hR, show (2001 - line).toNat = (2001 - (line + 1)).toNat + 1 by omega]
                                            show (if so ck = 0 then _ else _) = _
                                            rw [if_neg (by omega), hl5771]
                                            rfl) hO (by omega)
                                  · skip
                                    have c5749 : (f5737 = 0) := c5749
                                    exact (show False by first | contradiction | omega).elim
                    · skip
                      have c5486 : ¬ (¬ (ct ck) = (Int64.ofNat 1802071652)) := c5486
                      refine T_p xr_162_177 xn_162 (pc' := 178) (ls' := [(1, .long (ct ck)), (0, .ref 530)]) (st' := [.ref 530]) rfl ?_
                      refine T_get xr_162_178 hM5376 rfl (v := .int (iI kc)) rfl (pc' := 181) rfl ?_
                      refine T_p xr_162_181 xn_162 (pc' := 183) (ls' := [(1, .long (ct ck)), (0, .ref 530)]) (st' := [.int (iI 11), .int (iI kc)]) rfl ?_
                      refine T_zicmp_ne xr_162_183 (t := 190) (pc' := 186) rfl rfl (fun c5772 => ?_) (fun c5772 => ?_)
                      · skip
                        have c5772 : ¬ kc = 11 := c5772
                        refine T_p xr_162_190 xn_162 (pc' := 191) (ls' := [(1, .long (ct ck)), (0, .ref 530)]) (st' := [.int (iI 0)]) rfl ?_
                        refine T_p xr_162_191 xn_162 (pc' := 216) (ls' := [(1, .long (ct ck)), (0, .ref 530)]) (st' := [.int (iI 0)]) rfl ?_
                        refine T_p xr_162_216 xn_162 (pc' := 217) (ls' := [(3, .int (iI 0)), (1, .long (ct ck)), (0, .ref 530)]) (st' := []) rfl ?_
                        refine T_p xr_162_217 xn_162 (pc' := 218) (ls' := [(3, .int (iI 0)), (1, .long (ct ck)), (0, .ref 530)]) (st' := [.long (ct ck)]) rfl ?_
                        refine T_p xr_162_218 xn_162 (pc' := 221) (ls' := [(3, .int (iI 0)), (1, .long (ct ck)), (0, .ref 530)]) (st' := [.long (Int64.ofNat 1918987883), .long (ct ck)]) rfl ?_
                        refine T_lc_eq xr_162_221 xr_162_222 (t := 249) (pc' := 225) rfl rfl (fun c5773 => ?_) (fun c5773 => ?_)
                        · skip
                          have c5773 : (ct ck) = (Int64.ofNat 1918987883) := c5773
                          exact absurd (show ct ck = Int64.ofNat 1918987883 from (by first | exact c5773 | exact Classical.not_not.mp c5773)) c5485
                        · skip
                          have c5773 : ¬ ((ct ck) = (Int64.ofNat 1918987883)) := c5773
                          refine T_p xr_162_225 xn_162 (pc' := 226) (ls' := [(3, .int (iI 0)), (1, .long (ct ck)), (0, .ref 530)]) (st' := [.long (ct ck)]) rfl ?_
                          refine T_p xr_162_226 xn_162 (pc' := 229) (ls' := [(3, .int (iI 0)), (1, .long (ct ck)), (0, .ref 530)]) (st' := [.long (Int64.ofNat 32766990153442674), .long (ct ck)]) rfl ?_
                          refine T_lc_eq xr_162_229 xr_162_230 (t := 249) (pc' := 233) rfl rfl (fun c5774 => ?_) (fun c5774 => ?_)
                          · skip
                            have c5774 : (ct ck) = (Int64.ofNat 32766990153442674) := c5774
                            exact absurd (((Classical.not_not.mp c5486)).symm.trans (show ct ck = Int64.ofNat 32766990153442674 from (by first | exact c5774 | exact Classical.not_not.mp c5774))) (by decide)
                          · skip
                            have c5774 : ¬ ((ct ck) = (Int64.ofNat 32766990153442674)) := c5774
                            refine T_p xr_162_233 xn_162 (pc' := 234) (ls' := [(3, .int (iI 0)), (1, .long (ct ck)), (0, .ref 530)]) (st' := [.long (ct ck)]) rfl ?_
                            refine T_p xr_162_234 xn_162 (pc' := 237) (ls' := [(3, .int (iI 0)), (1, .long (ct ck)), (0, .ref 530)]) (st' := [.long (Int64.ofNat 1802071652), .long (ct ck)]) rfl ?_
                            refine T_lc_eq xr_162_237 xr_162_238 (t := 249) (pc' := 241) rfl rfl (fun c5775 => ?_) (fun c5775 => ?_)
                            · skip
                              have c5775 : (ct ck) = (Int64.ofNat 1802071652) := c5775
                              refine T_p xr_162_249 xn_162 (pc' := 250) (ls' := [(3, .int (iI 0)), (1, .long (ct ck)), (0, .ref 530)]) (st' := [.int (iI 0)]) rfl ?_
                              refine T_zif_eqt xr_162_250 (t := 257) rfl (by decide) ?_
                              refine T_p xr_162_257 xn_162 (pc' := 258) (ls' := [(3, .int (iI 0)), (1, .long (ct ck)), (0, .ref 530)]) (st' := [.ref 530]) rfl ?_
                              refine T_cv (S := S5330) (q := 530) xr_162_258 xf_140.1 xf_140.2.1 xn_140 (as := []) (r := []) rfl hM5376 (Nat.le_of_ble_eq_true rfl) (Nat.le_of_ble_eq_true rfl) (pc' := 261) rfl (ls' := [(0, .ref 530)]) rfl ?_
                              refine T_mono (r_isGood sc S5330 (X_ou (X_ou (X_ou (X_ou (X_ou (X_ou (X_ou (X_ou (X_ou (X_ou (X_ou (X_ou (X_ou o 1 0) 3 (o 1)) 4 b1) 5 0) 6 g1) 7 at1) 8 en1) 9 tk1) 10 nu1) 11 dg1) 28 rc) 29 kc) 30 wc) nm1 hM5376 (show 0 ≤ 0 ∧ 0 ≤ 5 from by omega)) (fun v5776 S5777 h5778 => ?_)
                              rcases h5778 with ⟨hv5779, hf5780⟩
                              rw [hv5779]
                              rw [hf5780]
                              show X_T sc 162 (261, [(3, .int (iI 0)), (1, .long (ct ck)), (0, .ref 530)], [.int (iI (bI ((0 : Int) = 0)))], S5330) _
                              refine T_bif_eq xr_162_261 (t := 268) (pc' := 264) rfl rfl (fun c5781 => ?_) (fun c5781 => ?_)
                              · skip
                                have c5781 : ¬ ((0 : Int) = 0) := c5781
                                exact (show False by first | contradiction | omega).elim
                              · skip
                                have c5781 : ((0 : Int) = 0) := c5781
                                have hckn : ck + 1 < n := by
                                  have z := hX.2.2.2.2
                                  by_cases hz : ck = n - 1
                                  · rw [← hz] at z; omega
                                  · omega
                                refine T_sub (ls := [(1, .long (ct ck)), (0, .ref 530)]) ⟨rfl, rfl, trivial⟩ rfl rfl ?_
                                have h5782 := (hF5314.1 532 (by first | decide | omega)).trans ((hf5307.1 532 (by first | decide | omega)).trans (h5294))
                                refine r_lnK sc S5330 (X_ou (X_ou (X_ou (X_ou (X_ou (X_ou (X_ou (X_ou (X_ou (X_ou (X_ou (X_ou (X_ou o 1 0) 3 (o 1)) 4 b1) 5 0) 6 g1) 7 at1) 8 en1) 9 tk1) 10 nu1) 11 dg1) 28 rc) 29 kc) 30 wc) nm1 tx1 kN1 kU1 tb len n so pl ct E ck rc kc wc rn lo kn ab D W hM5376 h5782 hA534_ hA536_ (show (o 1) = len from by first | assumption | omega) hl htx hX hT1 (show 0 = 0 from by omega) (show rc = rc from by omega) (show kc = kc from by omega) (show wc = wc from by omega) (show 0 ≤ b1 ∧ b1 ≤ 1 from by omega) ⟨by omega, (Classical.not_not.mp c5486)⟩ (by omega) hB1k _ (fun S5784 h5785 => ?_)
                                rcases h5785 with ⟨at5786, en5787, tk5788, nu5789, dg5790, nm5791, c5792, ab5793, kN5794, kU5795, hp5797, hp5798, hp5799, hp5800, hp5801, hM5802, ha5803, ha5804, hf5805⟩ | ⟨at5806, en5807, tk5808, nu5809, dg5810, nm5811, f5812, g5813, kc5814, kN5815, kU5816, hp5818, hp5819, hp5820, hp5821, hM5822, ha5823, ha5824, hf5825⟩
                                · skip
                                  have h5826 : S5784.1 530 = .inr (11, [.ref 531, .int (iI 0), .ref 532, .int (iI (o 1)), .int (iI b1), .int (iI 0), .int (iI g1), .int (iI at5786), .int (iI en5787), .int (iI tk5788), .int (iI nu5789), .int (iI dg5790), .long nm5791, .ref 533, .ref 534, .ref 535, .ref 536, .ref 537, .ref 538, .ref 539, .ref 540, .ref 541, .ref 542, .ref 543, .ref 544, .ref 545, .ref 546, .ref 547, .int (iI rc), .int (iI (kc + 1)), .int (iI wc), .int (iI (o 31)), .int (iI (o 32)), .int (iI (o 33)), .ref 548, .ref 549, .ref 550, .ref 551, .int (iI (o 38)), .ref 552, .ref 553, .ref 554, .ref 555, .ref 556, .ref 557, .ref 558, .ref 559, .ref 560, .ref 561, .int (iI (o 49)), .ref 562, .ref 563, .ref 564, .ref 565, .ref 566, .ref 567, .ref 568, .ref 569, .int (iI (o 58)), .ref 570, .ref 571, .ref 572, .ref 573, .ref 574, .ref 575, .ref 576, .ref 577, .ref 578, .int (iI (o 68)), .int (iI (o 69)), .int (iI (o 70)), .ref 579]) := hM5802
                                  have hp5799 : R_kd (b1) (kc + 1) (X_ug kn kc (ct (X_av n ck))) ab5793 kN5794 kU5795 := hp5799
                                  have hp5800 : R_ob 11 (b1) kN1 kN5794 := hp5800
                                  have hp5801 : R_ob 11 (b1) kU1 kU5795 := hp5801
                                  obtain ⟨⟨_, _⟩, ⟨_, _⟩, hk5827, ⟨_, _⟩, hk5827e, ⟨_, _⟩, ⟨_, _⟩⟩ := R_tk_f hX hp5797
                                  show X_T sc 162 (113, [(0, .ref 530)], [], S5784) _
                                  have h5829 := (hf5805.1 533 (by first | decide | omega)).trans (hA533_)
                                  have h5830 := (hf5805.1 535 (by first | decide | omega)).trans (hA535_)
                                  have h5831 := (hf5805.1 537 (by first | decide | omega)).trans (hA537_)
                                  have h5832 := (hf5805.1 538 (by first | decide | omega)).trans (hA538_)
                                  have h5833 := (hf5805.1 539 (by first | decide | omega)).trans (hA539_)
                                  have h5834 := (hf5805.1 540 (by first | decide | omega)).trans (hA540_)
                                  have h5835 := (hf5805.1 541 (by first | decide | omega)).trans (hA541_)
                                  have h5836 := (hf5805.1 542 (by first | decide | omega)).trans (hA542_)
                                  have h5837 := (hf5805.1 543 (by first | decide | omega)).trans (hA543_)
                                  have h5838 := (hf5805.1 544 (by first | decide | omega)).trans (hA544_)
                                  have h5839 := (hf5805.1 545 (by first | decide | omega)).trans (hA545_)
                                  have h5840 := (hf5805.1 546 (by first | decide | omega)).trans (hA546_)
                                  have h5841 := (hf5805.1 547 (by first | decide | omega)).trans (hA547_)
                                  have hl5842 : sp_line n so ct (ck, rc, kc, wc, rn, lo, kn, ab, D, W) = some (c5792, rc, kc + 1, wc, rn, lo, X_ug kn kc (ct (X_av n ck)), ab5793, D, W) := by
                                    show (if so ck = 3 ∧ ct ck = Int64.ofNat 1918987883 then _ else if so ck = 3 ∧ ct ck = Int64.ofNat 32766990153442674 then _ else if so ck = 3 ∧ ct ck = Int64.ofNat 1802071652 then _ else if so ck = 3 ∧ ct ck = Int64.ofNat 2003792484 then _ else none) = _
                                    rw [if_neg (fun z => absurd (((Classical.not_not.mp c5486)).symm.trans z.2) (by decide))]
                                    rw [if_neg (fun z => absurd (((Classical.not_not.mp c5486)).symm.trans z.2) (by decide))]
                                    rw [if_pos ⟨by omega, (Classical.not_not.mp c5486)⟩]
                                    exact hp5798
                                  have hl5842o := sp_line_ok hct ⟨by omega, by omega⟩ hok hl5842
                                  have hl58424 := sp_line_h4 hct ⟨by omega, by omega⟩ hok h4k hl5842
                                  have hl5842g := sp_line_gt (show ck + 1 < n from hckn) hl5842
                                  simp only at hl5842g
                                  exact ih5311 S5784 (line + 1) (c5792, rc, kc + 1, wc, rn, lo, X_ug kn kc (ct (X_av n ck)), ab5793, D, W) 0 g1 at5786 en5787 tk5788 nu5789 dg5790 rc (kc + 1) wc nm5791 rN1 kN5794 tg1 kU5795 wR1 wL1 wK1 wM1 wH1 wS1 sO1 sN1 eP1 eH1 hK1 h5826 h5829 ha5803 h5830 ha5804 h5831 h5832 h5833 h5834 h5835 h5836 h5837 h5838 h5839 h5840 h5841 (hF5314.tr ((X_Fr.rf).tr (X_Fr.mono ⟨hf5805.1, hf5805.2⟩ (fun q hq => by first | exact hq | (rcases hq with rfl <;> decide) | (rcases hq with rfl | rfl <;> decide) | (rcases hq with rfl | rfl | rfl <;> decide) | (rcases hq with rfl | rfl | rfl | rfl <;> decide) | (rcases hq with rfl | rfl | rfl | rfl | rfl <;> decide) | (rcases hq with rfl | rfl | rfl | rfl | rfl | rfl <;> decide) | (rcases hq with rfl | rfl | rfl | rfl | rfl | rfl | rfl <;> decide) | omega)))) (by omega) (fun _ => ⟨hp5797, (by
                                        rw [← hR, show (2001 - line).toNat = (2001 - (line + 1)).toNat + 1 by omega]
                                        show _ = (if so ck = 0 then _ else _)
                                        rw [if_neg (by omega), hl5842]
                                        rfl), hl5842o.1, hl58424, ⟨hB1r, hp5799, hB1w⟩, ⟨rfl, rfl, rfl⟩, (by show 0 ≤ line + 1 ∧ line + 1 ≤ c5792; omega)⟩) (fun z => absurd rfl z) (hO.frK hbb hOk hp5800 hp5801) (by omega)
                                · skip
                                  have h5828 : S5784.1 530 = .inr (11, [.ref 531, .int (iI 0), .ref 532, .int (iI (o 1)), .int (iI b1), .int (iI f5812), .int (iI g5813), .int (iI at5806), .int (iI en5807), .int (iI tk5808), .int (iI nu5809), .int (iI dg5810), .long nm5811, .ref 533, .ref 534, .ref 535, .ref 536, .ref 537, .ref 538, .ref 539, .ref 540, .ref 541, .ref 542, .ref 543, .ref 544, .ref 545, .ref 546, .ref 547, .int (iI rc), .int (iI kc5814), .int (iI wc), .int (iI (o 31)), .int (iI (o 32)), .int (iI (o 33)), .ref 548, .ref 549, .ref 550, .ref 551, .int (iI (o 38)), .ref 552, .ref 553, .ref 554, .ref 555, .ref 556, .ref 557, .ref 558, .ref 559, .ref 560, .ref 561, .int (iI (o 49)), .ref 562, .ref 563, .ref 564, .ref 565, .ref 566, .ref 567, .ref 568, .ref 569, .int (iI (o 58)), .ref 570, .ref 571, .ref 572, .ref 573, .ref 574, .ref 575, .ref 576, .ref 577, .ref 578, .int (iI (o 68)), .int (iI (o 69)), .int (iI (o 70)), .ref 579]) := hM5822
                                  have hp5820 : R_ob 11 (b1) kN1 kN5815 := hp5820
                                  have hp5821 : R_ob 11 (b1) kU1 kU5816 := hp5821
                                  show X_T sc 162 (113, [(0, .ref 530)], [], S5784) _
                                  have h5843 := (hf5825.1 533 (by first | decide | omega)).trans (hA533_)
                                  have h5844 := (hf5825.1 535 (by first | decide | omega)).trans (hA535_)
                                  have h5845 := (hf5825.1 537 (by first | decide | omega)).trans (hA537_)
                                  have h5846 := (hf5825.1 538 (by first | decide | omega)).trans (hA538_)
                                  have h5847 := (hf5825.1 539 (by first | decide | omega)).trans (hA539_)
                                  have h5848 := (hf5825.1 540 (by first | decide | omega)).trans (hA540_)
                                  have h5849 := (hf5825.1 541 (by first | decide | omega)).trans (hA541_)
                                  have h5850 := (hf5825.1 542 (by first | decide | omega)).trans (hA542_)
                                  have h5851 := (hf5825.1 543 (by first | decide | omega)).trans (hA543_)
                                  have h5852 := (hf5825.1 544 (by first | decide | omega)).trans (hA544_)
                                  have h5853 := (hf5825.1 545 (by first | decide | omega)).trans (hA545_)
                                  have h5854 := (hf5825.1 546 (by first | decide | omega)).trans (hA546_)
                                  have h5855 := (hf5825.1 547 (by first | decide | omega)).trans (hA547_)
                                  have hl5856 : sp_line n so ct (ck, rc, kc, wc, rn, lo, kn, ab, D, W) = none := by
                                    show (if so ck = 3 ∧ ct ck = Int64.ofNat 1918987883 then _ else if so ck = 3 ∧ ct ck = Int64.ofNat 32766990153442674 then _ else if so ck = 3 ∧ ct ck = Int64.ofNat 1802071652 then _ else if so ck = 3 ∧ ct ck = Int64.ofNat 2003792484 then _ else none) = _
                                    rw [if_neg (fun z => absurd (((Classical.not_not.mp c5486)).symm.trans z.2) (by decide))]
                                    rw [if_neg (fun z => absurd (((Classical.not_not.mp c5486)).symm.trans z.2) (by decide))]
                                    rw [if_pos ⟨by omega, (Classical.not_not.mp c5486)⟩]
                                    exact hp5819
                                  exact ih5311 S5784 (line + 1) (ck, rc, kc, wc, rn, lo, kn, ab, D, W) f5812 g5813 at5806 en5807 tk5808 nu5809 dg5810 rc kc5814 wc nm5811 rN1 kN5815 tg1 kU5816 wR1 wL1 wK1 wM1 wH1 wS1 sO1 sN1 eP1 eH1 hK1 h5828 h5843 ha5823 h5844 ha5824 h5845 h5846 h5847 h5848 h5849 h5850 h5851 h5852 h5853 h5854 h5855 (hF5314.tr ((X_Fr.rf).tr (X_Fr.mono ⟨hf5825.1, hf5825.2⟩ (fun q hq => by first | exact hq | (rcases hq with rfl <;> decide) | (rcases hq with rfl | rfl <;> decide) | (rcases hq with rfl | rfl | rfl <;> decide) | (rcases hq with rfl | rfl | rfl | rfl <;> decide) | (rcases hq with rfl | rfl | rfl | rfl | rfl <;> decide) | (rcases hq with rfl | rfl | rfl | rfl | rfl | rfl <;> decide) | (rcases hq with rfl | rfl | rfl | rfl | rfl | rfl | rfl <;> decide) | omega)))) (by omega) (fun z => absurd z (by omega)) (fun _ => by
                                        rw [← hR, show (2001 - line).toNat = (2001 - (line + 1)).toNat + 1 by omega]
                                        show (if so ck = 0 then _ else _) = _
                                        rw [if_neg (by omega), hl5856]
                                        rfl) (hO.frK hbb hOk hp5820 hp5821) (by omega)
                            · skip
                              have c5775 : ¬ ((ct ck) = (Int64.ofNat 1802071652)) := c5775
                              exact absurd (Classical.not_not.mp c5486) c5775
                      · skip
                        have c5772 : ¬ (¬ kc = 11) := c5772
                        refine T_p xr_162_186 xn_162 (pc' := 187) (ls' := [(1, .long (ct ck)), (0, .ref 530)]) (st' := [.int (iI 1)]) rfl ?_
                        refine T_p xr_162_187 xn_162 (pc' := 216) (ls' := [(1, .long (ct ck)), (0, .ref 530)]) (st' := [.int (iI 1)]) rfl ?_
                        refine T_p xr_162_216 xn_162 (pc' := 217) (ls' := [(3, .int (iI 1)), (1, .long (ct ck)), (0, .ref 530)]) (st' := []) rfl ?_
                        refine T_p xr_162_217 xn_162 (pc' := 218) (ls' := [(3, .int (iI 1)), (1, .long (ct ck)), (0, .ref 530)]) (st' := [.long (ct ck)]) rfl ?_
                        refine T_p xr_162_218 xn_162 (pc' := 221) (ls' := [(3, .int (iI 1)), (1, .long (ct ck)), (0, .ref 530)]) (st' := [.long (Int64.ofNat 1918987883), .long (ct ck)]) rfl ?_
                        refine T_lc_eq xr_162_221 xr_162_222 (t := 249) (pc' := 225) rfl rfl (fun c5857 => ?_) (fun c5857 => ?_)
                        · skip
                          have c5857 : (ct ck) = (Int64.ofNat 1918987883) := c5857
                          exact absurd (show ct ck = Int64.ofNat 1918987883 from (by first | exact c5857 | exact Classical.not_not.mp c5857)) c5485
                        · skip
                          have c5857 : ¬ ((ct ck) = (Int64.ofNat 1918987883)) := c5857
                          refine T_p xr_162_225 xn_162 (pc' := 226) (ls' := [(3, .int (iI 1)), (1, .long (ct ck)), (0, .ref 530)]) (st' := [.long (ct ck)]) rfl ?_
                          refine T_p xr_162_226 xn_162 (pc' := 229) (ls' := [(3, .int (iI 1)), (1, .long (ct ck)), (0, .ref 530)]) (st' := [.long (Int64.ofNat 32766990153442674), .long (ct ck)]) rfl ?_
                          refine T_lc_eq xr_162_229 xr_162_230 (t := 249) (pc' := 233) rfl rfl (fun c5858 => ?_) (fun c5858 => ?_)
                          · skip
                            have c5858 : (ct ck) = (Int64.ofNat 32766990153442674) := c5858
                            exact absurd (((Classical.not_not.mp c5486)).symm.trans (show ct ck = Int64.ofNat 32766990153442674 from (by first | exact c5858 | exact Classical.not_not.mp c5858))) (by decide)
                          · skip
                            have c5858 : ¬ ((ct ck) = (Int64.ofNat 32766990153442674)) := c5858
                            refine T_p xr_162_233 xn_162 (pc' := 234) (ls' := [(3, .int (iI 1)), (1, .long (ct ck)), (0, .ref 530)]) (st' := [.long (ct ck)]) rfl ?_
                            refine T_p xr_162_234 xn_162 (pc' := 237) (ls' := [(3, .int (iI 1)), (1, .long (ct ck)), (0, .ref 530)]) (st' := [.long (Int64.ofNat 1802071652), .long (ct ck)]) rfl ?_
                            refine T_lc_eq xr_162_237 xr_162_238 (t := 249) (pc' := 241) rfl rfl (fun c5859 => ?_) (fun c5859 => ?_)
                            · skip
                              have c5859 : (ct ck) = (Int64.ofNat 1802071652) := c5859
                              refine T_p xr_162_249 xn_162 (pc' := 250) (ls' := [(3, .int (iI 1)), (1, .long (ct ck)), (0, .ref 530)]) (st' := [.int (iI 1)]) rfl ?_
                              refine T_zif_eqf xr_162_250 (t := 257) (pc' := 253) rfl rfl (by decide) ?_
                              refine T_p xr_162_253 xn_162 (pc' := 254) (ls' := [(3, .int (iI 1)), (1, .long (ct ck)), (0, .ref 530)]) (st' := [.ref 530]) rfl ?_
                              refine T_cv (S := S5330) (q := 530) xr_162_254 xf_147.1 xf_147.2.1 xn_147 (as := []) (r := []) rfl hM5376 (Nat.le_of_ble_eq_true rfl) (Nat.le_of_ble_eq_true rfl) (pc' := 257) rfl (ls' := [(0, .ref 530)]) rfl ?_
                              have h5860 := (hF5314.1 532 (by first | decide | omega)).trans ((hf5307.1 532 (by first | decide | omega)).trans (h5294))
                              refine T_mono (r_wrong sc S5330 (X_ou (X_ou (X_ou (X_ou (X_ou (X_ou (X_ou (X_ou (X_ou (X_ou (X_ou (X_ou (X_ou o 1 0) 3 (o 1)) 4 b1) 5 0) 6 g1) 7 at1) 8 en1) 9 tk1) 10 nu1) 11 dg1) 28 rc) 29 kc) 30 wc) nm1 tx1 tb len n so pl ct E ck hM5376 h5860 (show (o 1) = len from by first | assumption | omega) hl htx hX hT1 (show 0 ≤ 0 ∧ 0 ≤ 5 from by omega)) (fun v5861 S5862 h5863 => ?_)
                              rcases h5863 with ⟨f5864, g5865, hv5866, hp5867, hM5868, hf5869⟩
                              rw [hv5866]
                              have h5870 : S5862.1 530 = .inr (11, [.ref 531, .int (iI 0), .ref 532, .int (iI (o 1)), .int (iI b1), .int (iI f5864), .int (iI g5865), .int (iI at1), .int (iI en1), .int (iI tk1), .int (iI nu1), .int (iI dg1), .long nm1, .ref 533, .ref 534, .ref 535, .ref 536, .ref 537, .ref 538, .ref 539, .ref 540, .ref 541, .ref 542, .ref 543, .ref 544, .ref 545, .ref 546, .ref 547, .int (iI rc), .int (iI kc), .int (iI wc), .int (iI (o 31)), .int (iI (o 32)), .int (iI (o 33)), .ref 548, .ref 549, .ref 550, .ref 551, .int (iI (o 38)), .ref 552, .ref 553, .ref 554, .ref 555, .ref 556, .ref 557, .ref 558, .ref 559, .ref 560, .ref 561, .int (iI (o 49)), .ref 562, .ref 563, .ref 564, .ref 565, .ref 566, .ref 567, .ref 568, .ref 569, .int (iI (o 58)), .ref 570, .ref 571, .ref 572, .ref 573, .ref 574, .ref 575, .ref 576, .ref 577, .ref 578, .int (iI (o 68)), .int (iI (o 69)), .int (iI (o 70)), .ref 579]) := hM5868
                              show X_T sc 162 (257, [(3, .int (iI 1)), (1, .long (ct ck)), (0, .ref 530)], [], S5862) _
                              refine T_p xr_162_257 xn_162 (pc' := 258) (ls' := [(3, .int (iI 1)), (1, .long (ct ck)), (0, .ref 530)]) (st' := [.ref 530]) rfl ?_
                              refine T_cv (S := S5862) (q := 530) xr_162_258 xf_140.1 xf_140.2.1 xn_140 (as := []) (r := []) rfl h5870 (Nat.le_of_ble_eq_true rfl) (Nat.le_of_ble_eq_true rfl) (pc' := 261) rfl (ls' := [(0, .ref 530)]) rfl ?_
                              refine T_mono (r_isGood sc S5862 (X_ou (X_ou (X_ou (X_ou (X_ou (X_ou (X_ou (X_ou (X_ou (X_ou (X_ou (X_ou (X_ou o 1 0) 3 (o 1)) 4 b1) 5 f5864) 6 g5865) 7 at1) 8 en1) 9 tk1) 10 nu1) 11 dg1) 28 rc) 29 kc) 30 wc) nm1 h5870 (show 0 ≤ f5864 ∧ f5864 ≤ 5 from by omega)) (fun v5871 S5872 h5873 => ?_)
                              rcases h5873 with ⟨hv5874, hf5875⟩
                              rw [hv5874]
                              rw [hf5875]
                              show X_T sc 162 (261, [(3, .int (iI 1)), (1, .long (ct ck)), (0, .ref 530)], [.int (iI (bI (f5864 = 0)))], S5862) _
                              refine T_bif_eq xr_162_261 (t := 268) (pc' := 264) rfl rfl (fun c5876 => ?_) (fun c5876 => ?_)
                              · skip
                                have c5876 : ¬ (f5864 = 0) := c5876
                                refine T_p xr_162_268 xn_162 (pc' := 269) (ls' := [(3, .int (iI 1)), (1, .long (ct ck)), (0, .ref 530)]) (st' := [.ref 530]) rfl ?_
                                refine T_cv (S := S5862) (q := 530) xr_162_269 xf_140.1 xf_140.2.1 xn_140 (as := []) (r := []) rfl h5870 (Nat.le_of_ble_eq_true rfl) (Nat.le_of_ble_eq_true rfl) (pc' := 272) rfl (ls' := [(0, .ref 530)]) rfl ?_
                                refine T_mono (r_isGood sc S5862 (X_ou (X_ou (X_ou (X_ou (X_ou (X_ou (X_ou (X_ou (X_ou (X_ou (X_ou (X_ou (X_ou o 1 0) 3 (o 1)) 4 b1) 5 f5864) 6 g5865) 7 at1) 8 en1) 9 tk1) 10 nu1) 11 dg1) 28 rc) 29 kc) 30 wc) nm1 h5870 (show 0 ≤ f5864 ∧ f5864 ≤ 5 from by omega)) (fun v5877 S5878 h5879 => ?_)
                                rcases h5879 with ⟨hv5880, hf5881⟩
                                rw [hv5880]
                                rw [hf5881]
                                show X_T sc 162 (272, [(3, .int (iI 1)), (1, .long (ct ck)), (0, .ref 530)], [.int (iI (bI (f5864 = 0)))], S5862) _
                                refine T_bif_ne xr_162_272 (t := 278) (pc' := 275) rfl rfl (fun c5882 => ?_) (fun c5882 => ?_)
                                · skip
                                  have c5882 : (f5864 = 0) := c5882
                                  exact (show False by first | contradiction | omega).elim
                                · skip
                                  have c5882 : ¬ (f5864 = 0) := c5882
                                  refine T_p xr_162_275 xn_162 (pc' := 113) (ls' := [(3, .int (iI 1)), (1, .long (ct ck)), (0, .ref 530)]) (st' := []) rfl ?_
                                  have h5883 := (hf5869.1 533 (by first | decide | omega)).trans (hA533_)
                                  have h5884 := (hf5869.1 534 (by first | decide | omega)).trans (hA534_)
                                  have h5885 := (hf5869.1 535 (by first | decide | omega)).trans (hA535_)
                                  have h5886 := (hf5869.1 536 (by first | decide | omega)).trans (hA536_)
                                  have h5887 := (hf5869.1 537 (by first | decide | omega)).trans (hA537_)
                                  have h5888 := (hf5869.1 538 (by first | decide | omega)).trans (hA538_)
                                  have h5889 := (hf5869.1 539 (by first | decide | omega)).trans (hA539_)
                                  have h5890 := (hf5869.1 540 (by first | decide | omega)).trans (hA540_)
                                  have h5891 := (hf5869.1 541 (by first | decide | omega)).trans (hA541_)
                                  have h5892 := (hf5869.1 542 (by first | decide | omega)).trans (hA542_)
                                  have h5893 := (hf5869.1 543 (by first | decide | omega)).trans (hA543_)
                                  have h5894 := (hf5869.1 544 (by first | decide | omega)).trans (hA544_)
                                  have h5895 := (hf5869.1 545 (by first | decide | omega)).trans (hA545_)
                                  have h5896 := (hf5869.1 546 (by first | decide | omega)).trans (hA546_)
                                  have h5897 := (hf5869.1 547 (by first | decide | omega)).trans (hA547_)
                                  have hl5898 : sp_line n so ct (ck, rc, kc, wc, rn, lo, kn, ab, D, W) = none := by
                                    show (if so ck = 3 ∧ ct ck = Int64.ofNat 1918987883 then _ else if so ck = 3 ∧ ct ck = Int64.ofNat 32766990153442674 then _ else if so ck = 3 ∧ ct ck = Int64.ofNat 1802071652 then _ else if so ck = 3 ∧ ct ck = Int64.ofNat 2003792484 then _ else none) = _
                                    rw [if_neg (fun z => absurd (((Classical.not_not.mp c5486)).symm.trans z.2) (by decide))]
                                    rw [if_neg (fun z => absurd (((Classical.not_not.mp c5486)).symm.trans z.2) (by decide))]
                                    rw [if_pos ⟨by omega, (Classical.not_not.mp c5486)⟩]
                                    simp only [sp_kind]
                                    rw [if_pos (by omega)]
                                  refine T_sub (ls := [(0, .ref 530)]) ⟨rfl, trivial⟩ rfl rfl ?_
                                  exact ih5311 S5862 (line + 1) (ck, rc, kc, wc, rn, lo, kn, ab, D, W) f5864 g5865 at1 en1 tk1 nu1 dg1 rc kc wc nm1 rN1 kN1 tg1 kU1 wR1 wL1 wK1 wM1 wH1 wS1 sO1 sN1 eP1 eH1 hK1 h5870 h5883 h5884 h5885 h5886 h5887 h5888 h5889 h5890 h5891 h5892 h5893 h5894 h5895 h5896 h5897 (hF5314.tr ((X_Fr.rf).tr (X_Fr.mono ⟨hf5869.1, hf5869.2⟩ (fun q hq => by first | exact hq | (rcases hq with rfl <;> decide) | (rcases hq with rfl | rfl <;> decide) | (rcases hq with rfl | rfl | rfl <;> decide) | (rcases hq with rfl | rfl | rfl | rfl <;> decide) | (rcases hq with rfl | rfl | rfl | rfl | rfl <;> decide) | (rcases hq with rfl | rfl | rfl | rfl | rfl | rfl <;> decide) | (rcases hq with rfl | rfl | rfl | rfl | rfl | rfl | rfl <;> decide) | omega)))) (by omega) (fun z => absurd z (by omega)) (fun _ => by
                                        rw [← hR, show (2001 - line).toNat = (2001 - (line + 1)).toNat + 1 by omega]
                                        show (if so ck = 0 then _ else _) = _
                                        rw [if_neg (by omega), hl5898]
                                        rfl) hO (by omega)
                              · skip
                                have c5876 : (f5864 = 0) := c5876
                                exact (show False by first | contradiction | omega).elim
                            · skip
                              have c5859 : ¬ ((ct ck) = (Int64.ofNat 1802071652)) := c5859
                              exact absurd (Classical.not_not.mp c5486) c5859
                  · skip
                    have c5485 : ¬ (¬ (ct ck) = (Int64.ofNat 1918987883)) := c5485
                    refine T_p xr_162_152 xn_162 (pc' := 153) (ls' := [(1, .long (ct ck)), (0, .ref 530)]) (st' := [.ref 530]) rfl ?_
                    refine T_get xr_162_153 hM5376 rfl (v := .int (iI rc)) rfl (pc' := 156) rfl ?_
                    refine T_p xr_162_156 xn_162 (pc' := 158) (ls' := [(1, .long (ct ck)), (0, .ref 530)]) (st' := [.int (iI 12), .int (iI rc)]) rfl ?_
                    refine T_zicmp_ne xr_162_158 (t := 165) (pc' := 161) rfl rfl (fun c5899 => ?_) (fun c5899 => ?_)
                    · skip
                      have c5899 : ¬ rc = 12 := c5899
                      refine T_p xr_162_165 xn_162 (pc' := 166) (ls' := [(1, .long (ct ck)), (0, .ref 530)]) (st' := [.int (iI 0)]) rfl ?_
                      refine T_p xr_162_166 xn_162 (pc' := 216) (ls' := [(1, .long (ct ck)), (0, .ref 530)]) (st' := [.int (iI 0)]) rfl ?_
                      refine T_p xr_162_216 xn_162 (pc' := 217) (ls' := [(3, .int (iI 0)), (1, .long (ct ck)), (0, .ref 530)]) (st' := []) rfl ?_
                      refine T_p xr_162_217 xn_162 (pc' := 218) (ls' := [(3, .int (iI 0)), (1, .long (ct ck)), (0, .ref 530)]) (st' := [.long (ct ck)]) rfl ?_
                      refine T_p xr_162_218 xn_162 (pc' := 221) (ls' := [(3, .int (iI 0)), (1, .long (ct ck)), (0, .ref 530)]) (st' := [.long (Int64.ofNat 1918987883), .long (ct ck)]) rfl ?_
                      refine T_lc_eq xr_162_221 xr_162_222 (t := 249) (pc' := 225) rfl rfl (fun c5900 => ?_) (fun c5900 => ?_)
                      · skip
                        have c5900 : (ct ck) = (Int64.ofNat 1918987883) := c5900
                        refine T_p xr_162_249 xn_162 (pc' := 250) (ls' := [(3, .int (iI 0)), (1, .long (ct ck)), (0, .ref 530)]) (st' := [.int (iI 0)]) rfl ?_
                        refine T_zif_eqt xr_162_250 (t := 257) rfl (by decide) ?_
                        refine T_p xr_162_257 xn_162 (pc' := 258) (ls' := [(3, .int (iI 0)), (1, .long (ct ck)), (0, .ref 530)]) (st' := [.ref 530]) rfl ?_
                        refine T_cv (S := S5330) (q := 530) xr_162_258 xf_140.1 xf_140.2.1 xn_140 (as := []) (r := []) rfl hM5376 (Nat.le_of_ble_eq_true rfl) (Nat.le_of_ble_eq_true rfl) (pc' := 261) rfl (ls' := [(0, .ref 530)]) rfl ?_
                        refine T_mono (r_isGood sc S5330 (X_ou (X_ou (X_ou (X_ou (X_ou (X_ou (X_ou (X_ou (X_ou (X_ou (X_ou (X_ou (X_ou o 1 0) 3 (o 1)) 4 b1) 5 0) 6 g1) 7 at1) 8 en1) 9 tk1) 10 nu1) 11 dg1) 28 rc) 29 kc) 30 wc) nm1 hM5376 (show 0 ≤ 0 ∧ 0 ≤ 5 from by omega)) (fun v5901 S5902 h5903 => ?_)
                        rcases h5903 with ⟨hv5904, hf5905⟩
                        rw [hv5904]
                        rw [hf5905]
                        show X_T sc 162 (261, [(3, .int (iI 0)), (1, .long (ct ck)), (0, .ref 530)], [.int (iI (bI ((0 : Int) = 0)))], S5330) _
                        refine T_bif_eq xr_162_261 (t := 268) (pc' := 264) rfl rfl (fun c5906 => ?_) (fun c5906 => ?_)
                        · skip
                          have c5906 : ¬ ((0 : Int) = 0) := c5906
                          exact (show False by first | contradiction | omega).elim
                        · skip
                          have c5906 : ((0 : Int) = 0) := c5906
                          have hckn : ck + 1 < n := by
                            have z := hX.2.2.2.2
                            by_cases hz : ck = n - 1
                            · rw [← hz] at z; omega
                            · omega
                          refine T_sub (ls := [(1, .long (ct ck)), (0, .ref 530)]) ⟨rfl, rfl, trivial⟩ rfl rfl ?_
                          have h5907 := (hF5314.1 532 (by first | decide | omega)).trans ((hf5307.1 532 (by first | decide | omega)).trans (h5294))
                          refine r_lnR sc S5330 (X_ou (X_ou (X_ou (X_ou (X_ou (X_ou (X_ou (X_ou (X_ou (X_ou (X_ou (X_ou (X_ou o 1 0) 3 (o 1)) 4 b1) 5 0) 6 g1) 7 at1) 8 en1) 9 tk1) 10 nu1) 11 dg1) 28 rc) 29 kc) 30 wc) nm1 tx1 rN1 tg1 tb len n so pl ct E ck rc kc wc rn lo kn ab D W hM5376 h5907 hA533_ hA535_ (show (o 1) = len from by first | assumption | omega) hl htx hX hT1 (show 0 = 0 from by omega) (show rc = rc from by omega) (show kc = kc from by omega) (show wc = wc from by omega) (show 0 ≤ b1 ∧ b1 ≤ 1 from by omega) ⟨by omega, (Classical.not_not.mp c5485)⟩ (by omega) hB1r _ (fun S5909 h5910 => ?_)
                          rcases h5910 with ⟨at5911, en5912, tk5913, nu5914, dg5915, nm5916, rN5917, tg5918, hp5920, hp5921, hp5922, hp5923, hM5924, ha5925, ha5926, hf5927⟩ | ⟨at5928, en5929, tk5930, nu5931, dg5932, nm5933, f5934, g5935, rc5936, rN5937, tg5938, hp5940, hp5941, hp5942, hM5943, ha5944, ha5945, hf5946⟩
                          · skip
                            have h5947 : S5909.1 530 = .inr (11, [.ref 531, .int (iI 0), .ref 532, .int (iI (o 1)), .int (iI b1), .int (iI 0), .int (iI g1), .int (iI at5911), .int (iI en5912), .int (iI tk5913), .int (iI nu5914), .int (iI dg5915), .long nm5916, .ref 533, .ref 534, .ref 535, .ref 536, .ref 537, .ref 538, .ref 539, .ref 540, .ref 541, .ref 542, .ref 543, .ref 544, .ref 545, .ref 546, .ref 547, .int (iI (rc + 1)), .int (iI kc), .int (iI wc), .int (iI (o 31)), .int (iI (o 32)), .int (iI (o 33)), .ref 548, .ref 549, .ref 550, .ref 551, .int (iI (o 38)), .ref 552, .ref 553, .ref 554, .ref 555, .ref 556, .ref 557, .ref 558, .ref 559, .ref 560, .ref 561, .int (iI (o 49)), .ref 562, .ref 563, .ref 564, .ref 565, .ref 566, .ref 567, .ref 568, .ref 569, .int (iI (o 58)), .ref 570, .ref 571, .ref 572, .ref 573, .ref 574, .ref 575, .ref 576, .ref 577, .ref 578, .int (iI (o 68)), .int (iI (o 69)), .int (iI (o 70)), .ref 579]) := hM5924
                            have hp5922 : R_rk (b1) (rc + 1) (X_ug rn rc (ct (X_av n ck))) (X_ug lo rc 0) rN5917 tg5918 := hp5922
                            have hp5923 : R_ob 12 (b1) rN1 rN5917 ∧ R_ob 144 (b1) tg1 tg5918 := hp5923
                            obtain ⟨⟨_, _⟩, ⟨_, _⟩, hk5948, ⟨_, _⟩, hk5948e, ⟨_, _⟩, ⟨_, _⟩⟩ := R_tk_f hX hp5920
                            show X_T sc 162 (113, [(0, .ref 530)], [], S5909) _
                            have h5950 := (hf5927.1 534 (by first | decide | omega)).trans (hA534_)
                            have h5951 := (hf5927.1 536 (by first | decide | omega)).trans (hA536_)
                            have h5952 := (hf5927.1 537 (by first | decide | omega)).trans (hA537_)
                            have h5953 := (hf5927.1 538 (by first | decide | omega)).trans (hA538_)
                            have h5954 := (hf5927.1 539 (by first | decide | omega)).trans (hA539_)
                            have h5955 := (hf5927.1 540 (by first | decide | omega)).trans (hA540_)
                            have h5956 := (hf5927.1 541 (by first | decide | omega)).trans (hA541_)
                            have h5957 := (hf5927.1 542 (by first | decide | omega)).trans (hA542_)
                            have h5958 := (hf5927.1 543 (by first | decide | omega)).trans (hA543_)
                            have h5959 := (hf5927.1 544 (by first | decide | omega)).trans (hA544_)
                            have h5960 := (hf5927.1 545 (by first | decide | omega)).trans (hA545_)
                            have h5961 := (hf5927.1 546 (by first | decide | omega)).trans (hA546_)
                            have h5962 := (hf5927.1 547 (by first | decide | omega)).trans (hA547_)
                            have hl5963 : sp_line n so ct (ck, rc, kc, wc, rn, lo, kn, ab, D, W) = some (X_av n (X_av n (X_av n ck)), rc + 1, kc, wc, X_ug rn rc (ct (X_av n ck)), X_ug lo rc 0, kn, ab, D, W) := by
                              show (if so ck = 3 ∧ ct ck = Int64.ofNat 1918987883 then _ else if so ck = 3 ∧ ct ck = Int64.ofNat 32766990153442674 then _ else if so ck = 3 ∧ ct ck = Int64.ofNat 1802071652 then _ else if so ck = 3 ∧ ct ck = Int64.ofNat 2003792484 then _ else none) = _
                              rw [if_pos ⟨by omega, (Classical.not_not.mp c5485)⟩]
                              exact hp5921
                            have hl5963o := sp_line_ok hct ⟨by omega, by omega⟩ hok hl5963
                            have hl59634 := sp_line_h4 hct ⟨by omega, by omega⟩ hok h4k hl5963
                            have hl5963g := sp_line_gt (show ck + 1 < n from hckn) hl5963
                            simp only at hl5963g
                            exact ih5311 S5909 (line + 1) (X_av n (X_av n (X_av n ck)), rc + 1, kc, wc, X_ug rn rc (ct (X_av n ck)), X_ug lo rc 0, kn, ab, D, W) 0 g1 at5911 en5912 tk5913 nu5914 dg5915 (rc + 1) kc wc nm5916 rN5917 kN1 tg5918 kU1 wR1 wL1 wK1 wM1 wH1 wS1 sO1 sN1 eP1 eH1 hK1 h5947 ha5925 h5950 ha5926 h5951 h5952 h5953 h5954 h5955 h5956 h5957 h5958 h5959 h5960 h5961 h5962 (hF5314.tr ((X_Fr.rf).tr (X_Fr.mono ⟨hf5927.1, hf5927.2⟩ (fun q hq => by first | exact hq | (rcases hq with rfl <;> decide) | (rcases hq with rfl | rfl <;> decide) | (rcases hq with rfl | rfl | rfl <;> decide) | (rcases hq with rfl | rfl | rfl | rfl <;> decide) | (rcases hq with rfl | rfl | rfl | rfl | rfl <;> decide) | (rcases hq with rfl | rfl | rfl | rfl | rfl | rfl <;> decide) | (rcases hq with rfl | rfl | rfl | rfl | rfl | rfl | rfl <;> decide) | omega)))) (by omega) (fun _ => ⟨hp5920, (by
                                  rw [← hR, show (2001 - line).toNat = (2001 - (line + 1)).toNat + 1 by omega]
                                  show _ = (if so ck = 0 then _ else _)
                                  rw [if_neg (by omega), hl5963]
                                  rfl), hl5963o.1, hl59634, ⟨hp5922, hB1k, hB1w⟩, ⟨rfl, rfl, rfl⟩, (by show 0 ≤ line + 1 ∧ line + 1 ≤ X_av n (X_av n (X_av n ck)); omega)⟩) (fun z => absurd rfl z) (hO.frR hbb hOk hp5923.1 hp5923.2) (by omega)
                          · skip
                            have h5949 : S5909.1 530 = .inr (11, [.ref 531, .int (iI 0), .ref 532, .int (iI (o 1)), .int (iI b1), .int (iI f5934), .int (iI g5935), .int (iI at5928), .int (iI en5929), .int (iI tk5930), .int (iI nu5931), .int (iI dg5932), .long nm5933, .ref 533, .ref 534, .ref 535, .ref 536, .ref 537, .ref 538, .ref 539, .ref 540, .ref 541, .ref 542, .ref 543, .ref 544, .ref 545, .ref 546, .ref 547, .int (iI rc5936), .int (iI kc), .int (iI wc), .int (iI (o 31)), .int (iI (o 32)), .int (iI (o 33)), .ref 548, .ref 549, .ref 550, .ref 551, .int (iI (o 38)), .ref 552, .ref 553, .ref 554, .ref 555, .ref 556, .ref 557, .ref 558, .ref 559, .ref 560, .ref 561, .int (iI (o 49)), .ref 562, .ref 563, .ref 564, .ref 565, .ref 566, .ref 567, .ref 568, .ref 569, .int (iI (o 58)), .ref 570, .ref 571, .ref 572, .ref 573, .ref 574, .ref 575, .ref 576, .ref 577, .ref 578, .int (iI (o 68)), .int (iI (o 69)), .int (iI (o 70)), .ref 579]) := hM5943
                            have hp5942 : R_ob 12 (b1) rN1 rN5937 ∧ R_ob 144 (b1) tg1 tg5938 := hp5942
                            show X_T sc 162 (113, [(0, .ref 530)], [], S5909) _
                            have h5964 := (hf5946.1 534 (by first | decide | omega)).trans (hA534_)
                            have h5965 := (hf5946.1 536 (by first | decide | omega)).trans (hA536_)
                            have h5966 := (hf5946.1 537 (by first | decide | omega)).trans (hA537_)
                            have h5967 := (hf5946.1 538 (by first | decide | omega)).trans (hA538_)
                            have h5968 := (hf5946.1 539 (by first | decide | omega)).trans (hA539_)
                            have h5969 := (hf5946.1 540 (by first | decide | omega)).trans (hA540_)
                            have h5970 := (hf5946.1 541 (by first | decide | omega)).trans (hA541_)
                            have h5971 := (hf5946.1 542 (by first | decide | omega)).trans (hA542_)
                            have h5972 := (hf5946.1 543 (by first | decide | omega)).trans (hA543_)
                            have h5973 := (hf5946.1 544 (by first | decide | omega)).trans (hA544_)
                            have h5974 := (hf5946.1 545 (by first | decide | omega)).trans (hA545_)
                            have h5975 := (hf5946.1 546 (by first | decide | omega)).trans (hA546_)
                            have h5976 := (hf5946.1 547 (by first | decide | omega)).trans (hA547_)
                            have hl5977 : sp_line n so ct (ck, rc, kc, wc, rn, lo, kn, ab, D, W) = none := by
                              show (if so ck = 3 ∧ ct ck = Int64.ofNat 1918987883 then _ else if so ck = 3 ∧ ct ck = Int64.ofNat 32766990153442674 then _ else if so ck = 3 ∧ ct ck = Int64.ofNat 1802071652 then _ else if so ck = 3 ∧ ct ck = Int64.ofNat 2003792484 then _ else none) = _
                              rw [if_pos ⟨by omega, (Classical.not_not.mp c5485)⟩]
                              exact hp5941
                            exact ih5311 S5909 (line + 1) (ck, rc, kc, wc, rn, lo, kn, ab, D, W) f5934 g5935 at5928 en5929 tk5930 nu5931 dg5932 rc5936 kc wc nm5933 rN5937 kN1 tg5938 kU1 wR1 wL1 wK1 wM1 wH1 wS1 sO1 sN1 eP1 eH1 hK1 h5949 ha5944 h5964 ha5945 h5965 h5966 h5967 h5968 h5969 h5970 h5971 h5972 h5973 h5974 h5975 h5976 (hF5314.tr ((X_Fr.rf).tr (X_Fr.mono ⟨hf5946.1, hf5946.2⟩ (fun q hq => by first | exact hq | (rcases hq with rfl <;> decide) | (rcases hq with rfl | rfl <;> decide) | (rcases hq with rfl | rfl | rfl <;> decide) | (rcases hq with rfl | rfl | rfl | rfl <;> decide) | (rcases hq with rfl | rfl | rfl | rfl | rfl <;> decide) | (rcases hq with rfl | rfl | rfl | rfl | rfl | rfl <;> decide) | (rcases hq with rfl | rfl | rfl | rfl | rfl | rfl | rfl <;> decide) | omega)))) (by omega) (fun z => absurd z (by omega)) (fun _ => by
                                  rw [← hR, show (2001 - line).toNat = (2001 - (line + 1)).toNat + 1 by omega]
                                  show (if so ck = 0 then _ else _) = _
                                  rw [if_neg (by omega), hl5977]
                                  rfl) (hO.frR hbb hOk hp5942.1 hp5942.2) (by omega)
                      · skip
                        have c5900 : ¬ ((ct ck) = (Int64.ofNat 1918987883)) := c5900
                        exact absurd (Classical.not_not.mp c5485) c5900
                    · skip
                      have c5899 : ¬ (¬ rc = 12) := c5899
                      refine T_p xr_162_161 xn_162 (pc' := 162) (ls' := [(1, .long (ct ck)), (0, .ref 530)]) (st' := [.int (iI 1)]) rfl ?_
                      refine T_p xr_162_162 xn_162 (pc' := 216) (ls' := [(1, .long (ct ck)), (0, .ref 530)]) (st' := [.int (iI 1)]) rfl ?_
                      refine T_p xr_162_216 xn_162 (pc' := 217) (ls' := [(3, .int (iI 1)), (1, .long (ct ck)), (0, .ref 530)]) (st' := []) rfl ?_
                      refine T_p xr_162_217 xn_162 (pc' := 218) (ls' := [(3, .int (iI 1)), (1, .long (ct ck)), (0, .ref 530)]) (st' := [.long (ct ck)]) rfl ?_
                      refine T_p xr_162_218 xn_162 (pc' := 221) (ls' := [(3, .int (iI 1)), (1, .long (ct ck)), (0, .ref 530)]) (st' := [.long (Int64.ofNat 1918987883), .long (ct ck)]) rfl ?_
                      refine T_lc_eq xr_162_221 xr_162_222 (t := 249) (pc' := 225) rfl rfl (fun c5978 => ?_) (fun c5978 => ?_)
                      · skip
                        have c5978 : (ct ck) = (Int64.ofNat 1918987883) := c5978
                        refine T_p xr_162_249 xn_162 (pc' := 250) (ls' := [(3, .int (iI 1)), (1, .long (ct ck)), (0, .ref 530)]) (st' := [.int (iI 1)]) rfl ?_
                        refine T_zif_eqf xr_162_250 (t := 257) (pc' := 253) rfl rfl (by decide) ?_
                        refine T_p xr_162_253 xn_162 (pc' := 254) (ls' := [(3, .int (iI 1)), (1, .long (ct ck)), (0, .ref 530)]) (st' := [.ref 530]) rfl ?_
                        refine T_cv (S := S5330) (q := 530) xr_162_254 xf_147.1 xf_147.2.1 xn_147 (as := []) (r := []) rfl hM5376 (Nat.le_of_ble_eq_true rfl) (Nat.le_of_ble_eq_true rfl) (pc' := 257) rfl (ls' := [(0, .ref 530)]) rfl ?_
                        have h5979 := (hF5314.1 532 (by first | decide | omega)).trans ((hf5307.1 532 (by first | decide | omega)).trans (h5294))
                        refine T_mono (r_wrong sc S5330 (X_ou (X_ou (X_ou (X_ou (X_ou (X_ou (X_ou (X_ou (X_ou (X_ou (X_ou (X_ou (X_ou o 1 0) 3 (o 1)) 4 b1) 5 0) 6 g1) 7 at1) 8 en1) 9 tk1) 10 nu1) 11 dg1) 28 rc) 29 kc) 30 wc) nm1 tx1 tb len n so pl ct E ck hM5376 h5979 (show (o 1) = len from by first | assumption | omega) hl htx hX hT1 (show 0 ≤ 0 ∧ 0 ≤ 5 from by omega)) (fun v5980 S5981 h5982 => ?_)
                        rcases h5982 with ⟨f5983, g5984, hv5985, hp5986, hM5987, hf5988⟩
                        rw [hv5985]
                        have h5989 : S5981.1 530 = .inr (11, [.ref 531, .int (iI 0), .ref 532, .int (iI (o 1)), .int (iI b1), .int (iI f5983), .int (iI g5984), .int (iI at1), .int (iI en1), .int (iI tk1), .int (iI nu1), .int (iI dg1), .long nm1, .ref 533, .ref 534, .ref 535, .ref 536, .ref 537, .ref 538, .ref 539, .ref 540, .ref 541, .ref 542, .ref 543, .ref 544, .ref 545, .ref 546, .ref 547, .int (iI rc), .int (iI kc), .int (iI wc), .int (iI (o 31)), .int (iI (o 32)), .int (iI (o 33)), .ref 548, .ref 549, .ref 550, .ref 551, .int (iI (o 38)), .ref 552, .ref 553, .ref 554, .ref 555, .ref 556, .ref 557, .ref 558, .ref 559, .ref 560, .ref 561, .int (iI (o 49)), .ref 562, .ref 563, .ref 564, .ref 565, .ref 566, .ref 567, .ref 568, .ref 569, .int (iI (o 58)), .ref 570, .ref 571, .ref 572, .ref 573, .ref 574, .ref 575, .ref 576, .ref 577, .ref 578, .int (iI (o 68)), .int (iI (o 69)), .int (iI (o 70)), .ref 579]) := hM5987
                        show X_T sc 162 (257, [(3, .int (iI 1)), (1, .long (ct ck)), (0, .ref 530)], [], S5981) _
                        refine T_p xr_162_257 xn_162 (pc' := 258) (ls' := [(3, .int (iI 1)), (1, .long (ct ck)), (0, .ref 530)]) (st' := [.ref 530]) rfl ?_
                        refine T_cv (S := S5981) (q := 530) xr_162_258 xf_140.1 xf_140.2.1 xn_140 (as := []) (r := []) rfl h5989 (Nat.le_of_ble_eq_true rfl) (Nat.le_of_ble_eq_true rfl) (pc' := 261) rfl (ls' := [(0, .ref 530)]) rfl ?_
                        refine T_mono (r_isGood sc S5981 (X_ou (X_ou (X_ou (X_ou (X_ou (X_ou (X_ou (X_ou (X_ou (X_ou (X_ou (X_ou (X_ou o 1 0) 3 (o 1)) 4 b1) 5 f5983) 6 g5984) 7 at1) 8 en1) 9 tk1) 10 nu1) 11 dg1) 28 rc) 29 kc) 30 wc) nm1 h5989 (show 0 ≤ f5983 ∧ f5983 ≤ 5 from by omega)) (fun v5990 S5991 h5992 => ?_)
                        rcases h5992 with ⟨hv5993, hf5994⟩
                        rw [hv5993]
                        rw [hf5994]
                        show X_T sc 162 (261, [(3, .int (iI 1)), (1, .long (ct ck)), (0, .ref 530)], [.int (iI (bI (f5983 = 0)))], S5981) _
                        refine T_bif_eq xr_162_261 (t := 268) (pc' := 264) rfl rfl (fun c5995 => ?_) (fun c5995 => ?_)
                        · skip
                          have c5995 : ¬ (f5983 = 0) := c5995
                          refine T_p xr_162_268 xn_162 (pc' := 269) (ls' := [(3, .int (iI 1)), (1, .long (ct ck)), (0, .ref 530)]) (st' := [.ref 530]) rfl ?_
                          refine T_cv (S := S5981) (q := 530) xr_162_269 xf_140.1 xf_140.2.1 xn_140 (as := []) (r := []) rfl h5989 (Nat.le_of_ble_eq_true rfl) (Nat.le_of_ble_eq_true rfl) (pc' := 272) rfl (ls' := [(0, .ref 530)]) rfl ?_
                          refine T_mono (r_isGood sc S5981 (X_ou (X_ou (X_ou (X_ou (X_ou (X_ou (X_ou (X_ou (X_ou (X_ou (X_ou (X_ou (X_ou o 1 0) 3 (o 1)) 4 b1) 5 f5983) 6 g5984) 7 at1) 8 en1) 9 tk1) 10 nu1) 11 dg1) 28 rc) 29 kc) 30 wc) nm1 h5989 (show 0 ≤ f5983 ∧ f5983 ≤ 5 from by omega)) (fun v5996 S5997 h5998 => ?_)
                          rcases h5998 with ⟨hv5999, hf6000⟩
                          rw [hv5999]
                          rw [hf6000]
                          show X_T sc 162 (272, [(3, .int (iI 1)), (1, .long (ct ck)), (0, .ref 530)], [.int (iI (bI (f5983 = 0)))], S5981) _
                          refine T_bif_ne xr_162_272 (t := 278) (pc' := 275) rfl rfl (fun c6001 => ?_) (fun c6001 => ?_)
                          · skip
                            have c6001 : (f5983 = 0) := c6001
                            exact (show False by first | contradiction | omega).elim
                          · skip
                            have c6001 : ¬ (f5983 = 0) := c6001
                            refine T_p xr_162_275 xn_162 (pc' := 113) (ls' := [(3, .int (iI 1)), (1, .long (ct ck)), (0, .ref 530)]) (st' := []) rfl ?_
                            have h6002 := (hf5988.1 533 (by first | decide | omega)).trans (hA533_)
                            have h6003 := (hf5988.1 534 (by first | decide | omega)).trans (hA534_)
                            have h6004 := (hf5988.1 535 (by first | decide | omega)).trans (hA535_)
                            have h6005 := (hf5988.1 536 (by first | decide | omega)).trans (hA536_)
                            have h6006 := (hf5988.1 537 (by first | decide | omega)).trans (hA537_)
                            have h6007 := (hf5988.1 538 (by first | decide | omega)).trans (hA538_)
                            have h6008 := (hf5988.1 539 (by first | decide | omega)).trans (hA539_)
                            have h6009 := (hf5988.1 540 (by first | decide | omega)).trans (hA540_)
                            have h6010 := (hf5988.1 541 (by first | decide | omega)).trans (hA541_)
                            have h6011 := (hf5988.1 542 (by first | decide | omega)).trans (hA542_)
                            have h6012 := (hf5988.1 543 (by first | decide | omega)).trans (hA543_)
                            have h6013 := (hf5988.1 544 (by first | decide | omega)).trans (hA544_)
                            have h6014 := (hf5988.1 545 (by first | decide | omega)).trans (hA545_)
                            have h6015 := (hf5988.1 546 (by first | decide | omega)).trans (hA546_)
                            have h6016 := (hf5988.1 547 (by first | decide | omega)).trans (hA547_)
                            have hl6017 : sp_line n so ct (ck, rc, kc, wc, rn, lo, kn, ab, D, W) = none := by
                              show (if so ck = 3 ∧ ct ck = Int64.ofNat 1918987883 then _ else if so ck = 3 ∧ ct ck = Int64.ofNat 32766990153442674 then _ else if so ck = 3 ∧ ct ck = Int64.ofNat 1802071652 then _ else if so ck = 3 ∧ ct ck = Int64.ofNat 2003792484 then _ else none) = _
                              rw [if_pos ⟨by omega, (Classical.not_not.mp c5485)⟩]
                              simp only [sp_rank]
                              rw [if_pos (by omega)]
                            refine T_sub (ls := [(0, .ref 530)]) ⟨rfl, trivial⟩ rfl rfl ?_
                            exact ih5311 S5981 (line + 1) (ck, rc, kc, wc, rn, lo, kn, ab, D, W) f5983 g5984 at1 en1 tk1 nu1 dg1 rc kc wc nm1 rN1 kN1 tg1 kU1 wR1 wL1 wK1 wM1 wH1 wS1 sO1 sN1 eP1 eH1 hK1 h5989 h6002 h6003 h6004 h6005 h6006 h6007 h6008 h6009 h6010 h6011 h6012 h6013 h6014 h6015 h6016 (hF5314.tr ((X_Fr.rf).tr (X_Fr.mono ⟨hf5988.1, hf5988.2⟩ (fun q hq => by first | exact hq | (rcases hq with rfl <;> decide) | (rcases hq with rfl | rfl <;> decide) | (rcases hq with rfl | rfl | rfl <;> decide) | (rcases hq with rfl | rfl | rfl | rfl <;> decide) | (rcases hq with rfl | rfl | rfl | rfl | rfl <;> decide) | (rcases hq with rfl | rfl | rfl | rfl | rfl | rfl <;> decide) | (rcases hq with rfl | rfl | rfl | rfl | rfl | rfl | rfl <;> decide) | omega)))) (by omega) (fun z => absurd z (by omega)) (fun _ => by
                                  rw [← hR, show (2001 - line).toNat = (2001 - (line + 1)).toNat + 1 by omega]
                                  show (if so ck = 0 then _ else _) = _
                                  rw [if_neg (by omega), hl6017]
                                  rfl) hO (by omega)
                        · skip
                          have c5995 : (f5983 = 0) := c5995
                          exact (show False by first | contradiction | omega).elim
                      · skip
                        have c5978 : ¬ ((ct ck) = (Int64.ofNat 1918987883)) := c5978
                        exact absurd (Classical.not_not.mp c5485) c5978
        have hB0 : R_bk b1 (0, 0, 1, 0, rn0, lo0, X_ug kn0 0 (Int64.ofNat 6384748), X_ug ab0 0 1, D0, W0) rN (X_ug kN (11 * b1) (Int64.ofNat 6384748)) tg (X_ug kU (11 * b1) (-1)) wR wL wK wM wH wS sO sN eP eH hK := ⟨⟨fun i h1 h2 => absurd (show i < 0 from h2) (by omega), fun i j h1 h2 => absurd (show i < 0 from h2) (by omega), fun i j h1 h2 => absurd (show i < 0 from h2) (by omega)⟩, ⟨fun i h1 h2 => by
            have h2 : i < 1 := h2
            obtain rfl : i = 0 := by omega
            show (X_ug kN (11 * b1) (Int64.ofNat 6384748)) (11 * b1 + 0) = X_ug kn0 0 (Int64.ofNat 6384748) 0
            rw [show 11 * b1 + 0 = 11 * b1 by omega, X_ug_s, X_ug_s], fun u h1 h2 => by
            show X_bt (X_ug ab0 0 1 0) u ↔ u = 0
            rw [X_ug_s]
            exact X_bt_1 u ⟨h1, h2⟩, X_ug_s _ _ _, fun k h1 h2 => absurd (show k < 1 from h2) (by omega)⟩, fun w h1 h2 => absurd (show w < 0 from h2) (by omega)⟩
        have hk0 : X_Kok (0, 0, 1, 0, rn0, lo0, X_ug kn0 0 (Int64.ofNat 6384748), X_ug ab0 0 1, D0, W0) := ⟨(show (0 : Int) ≤ 0 ∧ (0 : Int) ≤ 12 by omega), (show (1 : Int) ≤ 1 ∧ (1 : Int) ≤ 11 by omega), (show (0 : Int) ≤ 0 ∧ (0 : Int) ≤ 30 by omega), fun w h1 h2 => absurd (show w < 0 from h2) (by omega)⟩
        refine T_sub (ls := [(0, .ref 530)]) ⟨rfl, trivial⟩ rfl rfl ?_
        exact L5310 ((2002 : Int) + 1).toNat S5296 0 (0, 0, 1, 0, rn0, lo0, X_ug kn0 0 (Int64.ofNat 6384748), X_ug ab0 0 1, D0, W0) 0 (-1) at5298 en5299 tk5300 nu5301 dg5302 0 1 0 nm5303 rN (X_ug kN (11 * b1) (Int64.ofNat 6384748)) tg (X_ug kU (11 * b1) (-1)) wR wL wK wM wH wS sO sN eP eH hK h5308 h5315 h5316 h5317 h5318 h5319 h5320 h5321 h5322 h5323 h5324 h5325 h5326 h5327 h5328 h5329 ((X_Fr.rf)) (by omega) (fun _ => ⟨hp5305, rfl, hk0, fun w h1 h2 => absurd (show w < 0 from h2) (by omega), hB0, ⟨rfl, rfl, rfl⟩, (show (0 : Int) ≤ 0 ∧ (0 : Int) ≤ 0 by omega)⟩) (fun z => absurd rfl z) (hO.frK hbb hOk (R_ob.rf.up (by omega)) (R_ob.rf.up (by omega))) (by omega)
      · skip
        have c5257 : ¬ ((o 1) ≤ k) := c5257
        refine T_p xr_162_28 xn_162 (pc' := 29) (ls' := [(1, .int (iI k)), (0, .ref 530)]) (st' := [.ref 530]) rfl ?_
        refine T_get xr_162_29 h5256 rfl (v := .ref 532) rfl (pc' := 32) rfl ?_
        refine T_p xr_162_32 xn_162 (pc' := 33) (ls' := [(1, .int (iI k)), (0, .ref 530)]) (st' := [.int (iI k), .ref 532]) rfl ?_
        refine T_p xr_162_33 xn_162 (pc' := 34) (ls' := [(1, .int (iI k)), (0, .ref 530)]) (st' := [.ref 530, .int (iI k), .ref 532]) rfl ?_
        refine T_get xr_162_34 h5256 rfl (v := .ref 531) rfl (pc' := 37) rfl ?_
        refine T_p xr_162_37 xn_162 (pc' := 38) (ls' := [(1, .int (iI k)), (0, .ref 530)]) (st' := [.int (iI k), .ref 531, .int (iI k), .ref 532]) rfl ?_
        have h6018 := (hF5253.1 531 (by first | decide | omega)).trans ((n5247 531 (by decide)).trans ((n5243 531 (by decide)).trans ((n5239 531 (by decide)).trans (hA531))))
        refine T_zbald xr_162_38 h6018 (pc' := 39) rfl ?_
        refine T_zbast xr_162_39 htx1 (pc' := 40) rfl (fun S6019 h6020 n6021 e6022 => ?_)
        refine T_ziinc xr_162_40 xn_162 (a := k) (z := k + 1) rfl (Nat.le_of_ble_eq_true rfl) (by omega) (ls' := [(1, .int (iI (k + 1))), (0, .ref 530)]) rfl (pc' := 43) rfl ?_
        refine T_p xr_162_43 xn_162 (pc' := 20) (ls' := [(1, .int (iI (k + 1))), (0, .ref 530)]) (st' := []) rfl ?_
        exact ih5250 S6019 (k + 1) (X_ug tx1 k (X_by (tp k))) h6020 (hF5253.tr ((X_Fr.rf).tr (X_Fr.of n6021 e6022 (by first | decide | exact ⟨Nat.le_add_right _ _, Nat.add_le_add_left (by decide) _⟩ | omega)))) (by omega) (fun i h1 h2 => by
              by_cases hi : i = k
              · subst hi
                have hti := htp i (by omega) (by omega)
                rw [X_ug_s, hti.1]
                exact X_by_id hti.2
              · rw [X_ug_n _ _ hi]
                exact htx i h1 (by omega)) (by omega)
  exact L5249 (len + 1).toNat S5245 0 tx h5254 ((X_Fr.rf)) (by omega) (fun i h1 h2 => absurd h2 (by omega)) (by omega)
