theorem xr_162_0 : X_row 162 0 = some (0, (.aload_n 0, 1), (0, 0, 0)) := by decide +kernel
theorem xr_162_1 : X_row 162 1 = some (1, (.iconst 0, 1), (0, 0, 0)) := by decide +kernel
theorem xr_162_2 : X_row 162 2 = some (2, (.putfield 11, 3), (11, 5, 10)) := by decide +kernel
theorem xr_162_5 : X_row 162 5 = some (5, (.aload_n 0, 1), (0, 0, 0)) := by decide +kernel
theorem xr_162_6 : X_row 162 6 = some (6, (.iconst (-1), 1), (0, 0, 0)) := by decide +kernel
theorem xr_162_7 : X_row 162 7 = some (7, (.putfield 14, 3), (11, 6, 12)) := by decide +kernel
theorem xr_162_10 : X_row 162 10 = some (10, (.aload_n 0, 1), (0, 0, 0)) := by decide +kernel
theorem xr_162_11 : X_row 162 11 = some (11, (.aload_n 0, 1), (0, 0, 0)) := by decide +kernel
theorem xr_162_12 : X_row 162 12 = some (12, (.getfield 293, 3), (11, 1, 2)) := by decide +kernel
theorem xr_162_15 : X_row 162 15 = some (15, (.putfield 1, 3), (11, 3, 6)) := by decide +kernel
theorem xr_162_18 : X_row 162 18 = some (18, (.iconst 0, 1), (0, 0, 0)) := by decide +kernel
theorem xr_162_19 : X_row 162 19 = some (19, (.istore_n 1, 1), (0, 0, 0)) := by decide +kernel
theorem xr_162_20 : X_row 162 20 = some (20, (.iload_n 1, 1), (0, 0, 0)) := by decide +kernel
theorem xr_162_21 : X_row 162 21 = some (21, (.aload_n 0, 1), (0, 0, 0)) := by decide +kernel
theorem xr_162_22 : X_row 162 22 = some (22, (.getfield 1, 3), (11, 3, 6)) := by decide +kernel
theorem xr_162_25 : X_row 162 25 = some (25, (.if_icmp .ge 21, 3), (0, 0, 0)) := by decide +kernel
theorem xr_162_28 : X_row 162 28 = some (28, (.aload_n 0, 1), (0, 0, 0)) := by decide +kernel
theorem xr_162_29 : X_row 162 29 = some (29, (.getfield 7, 3), (11, 2, 4)) := by decide +kernel
theorem xr_162_32 : X_row 162 32 = some (32, (.iload_n 1, 1), (0, 0, 0)) := by decide +kernel
theorem xr_162_33 : X_row 162 33 = some (33, (.aload_n 0, 1), (0, 0, 0)) := by decide +kernel
theorem xr_162_34 : X_row 162 34 = some (34, (.getfield 188, 3), (11, 0, 0)) := by decide +kernel
theorem xr_162_37 : X_row 162 37 = some (37, (.iload_n 1, 1), (0, 0, 0)) := by decide +kernel
theorem xr_162_38 : X_row 162 38 = some (38, (.baload, 1), (0, 0, 0)) := by decide +kernel
theorem xr_162_39 : X_row 162 39 = some (39, (.bastore, 1), (0, 0, 0)) := by decide +kernel
theorem xr_162_40 : X_row 162 40 = some (40, (.iinc 1 1, 3), (0, 0, 0)) := by decide +kernel
theorem xr_162_43 : X_row 162 43 = some (43, (.goto (-23), 3), (0, 0, 0)) := by decide +kernel
theorem xr_162_46 : X_row 162 46 = some (46, (.aload_n 0, 1), (0, 0, 0)) := by decide +kernel
theorem xr_162_47 : X_row 162 47 = some (47, (.iconst 0, 1), (0, 0, 0)) := by decide +kernel
theorem xr_162_48 : X_row 162 48 = some (48, (.putfield 293, 3), (11, 1, 2)) := by decide +kernel
theorem xr_162_51 : X_row 162 51 = some (51, (.aload_n 0, 1), (0, 0, 0)) := by decide +kernel
theorem xr_162_52 : X_row 162 52 = some (52, (.iconst 0, 1), (0, 0, 0)) := by decide +kernel
theorem xr_162_53 : X_row 162 53 = some (53, (.putfield 17, 3), (11, 8, 16)) := by decide +kernel
theorem xr_162_56 : X_row 162 56 = some (56, (.aload_n 0, 1), (0, 0, 0)) := by decide +kernel
theorem xr_162_57 : X_row 162 57 = some (57, (.iconst 1, 1), (0, 0, 0)) := by decide +kernel
theorem xr_162_58 : X_row 162 58 = some (58, (.aload_n 0, 1), (0, 0, 0)) := by decide +kernel
theorem xr_162_59 : X_row 162 59 = some (59, (.getfield 91, 3), (11, 4, 8)) := by decide +kernel
theorem xr_162_62 : X_row 162 62 = some (62, (.isub, 1), (0, 0, 0)) := by decide +kernel
theorem xr_162_63 : X_row 162 63 = some (63, (.putfield 91, 3), (11, 4, 8)) := by decide +kernel
theorem xr_162_66 : X_row 162 66 = some (66, (.aload_n 0, 1), (0, 0, 0)) := by decide +kernel
theorem xr_162_67 : X_row 162 67 = some (67, (.iconst 0, 1), (0, 0, 0)) := by decide +kernel
theorem xr_162_68 : X_row 162 68 = some (68, (.putfield 84, 3), (11, 28, 56)) := by decide +kernel
theorem xr_162_71 : X_row 162 71 = some (71, (.aload_n 0, 1), (0, 0, 0)) := by decide +kernel
theorem xr_162_72 : X_row 162 72 = some (72, (.iconst 0, 1), (0, 0, 0)) := by decide +kernel
theorem xr_162_73 : X_row 162 73 = some (73, (.putfield 138, 3), (11, 30, 60)) := by decide +kernel
theorem xr_162_76 : X_row 162 76 = some (76, (.aload_n 0, 1), (0, 0, 0)) := by decide +kernel
theorem xr_162_77 : X_row 162 77 = some (77, (.iconst 1, 1), (0, 0, 0)) := by decide +kernel
theorem xr_162_78 : X_row 162 78 = some (78, (.putfield 94, 3), (11, 29, 58)) := by decide +kernel
theorem xr_162_81 : X_row 162 81 = some (81, (.aload_n 0, 1), (0, 0, 0)) := by decide +kernel
theorem xr_162_82 : X_row 162 82 = some (82, (.getfield 97, 3), (11, 14, 28)) := by decide +kernel
theorem xr_162_85 : X_row 162 85 = some (85, (.bipush 11, 2), (0, 0, 0)) := by decide +kernel
theorem xr_162_87 : X_row 162 87 = some (87, (.aload_n 0, 1), (0, 0, 0)) := by decide +kernel
theorem xr_162_88 : X_row 162 88 = some (88, (.getfield 91, 3), (11, 4, 8)) := by decide +kernel
theorem xr_162_91 : X_row 162 91 = some (91, (.imul, 1), (0, 0, 0)) := by decide +kernel
theorem xr_162_92 : X_row 162 92 = some (92, (.ldc2_w 291, 3), (6384748, 1044, 0)) := by decide +kernel
theorem xr_162_95 : X_row 162 95 = some (95, (.lastore, 1), (0, 0, 0)) := by decide +kernel
theorem xr_162_96 : X_row 162 96 = some (96, (.aload_n 0, 1), (0, 0, 0)) := by decide +kernel
theorem xr_162_97 : X_row 162 97 = some (97, (.getfield 134, 3), (11, 16, 32)) := by decide +kernel
theorem xr_162_100 : X_row 162 100 = some (100, (.bipush 11, 2), (0, 0, 0)) := by decide +kernel
theorem xr_162_102 : X_row 162 102 = some (102, (.aload_n 0, 1), (0, 0, 0)) := by decide +kernel
theorem xr_162_103 : X_row 162 103 = some (103, (.getfield 91, 3), (11, 4, 8)) := by decide +kernel
theorem xr_162_106 : X_row 162 106 = some (106, (.imul, 1), (0, 0, 0)) := by decide +kernel
theorem xr_162_107 : X_row 162 107 = some (107, (.iconst (-1), 1), (0, 0, 0)) := by decide +kernel
theorem xr_162_108 : X_row 162 108 = some (108, (.iastore, 1), (0, 0, 0)) := by decide +kernel
theorem xr_162_109 : X_row 162 109 = some (109, (.aload_n 0, 1), (0, 0, 0)) := by decide +kernel
theorem xr_162_110 : X_row 162 110 = some (110, (.invokevirtual 78, 3), (141, 0, 0)) := by decide +kernel
theorem xr_162_113 : X_row 162 113 = some (113, (.aload_n 0, 1), (0, 0, 0)) := by decide +kernel
theorem xr_162_114 : X_row 162 114 = some (114, (.invokevirtual 100, 3), (140, 14, 0)) := by decide +kernel
theorem xr_162_117 : X_row 162 117 = some (117, (.ifCond .eq 213, 3), (0, 0, 0)) := by decide +kernel
theorem xr_162_120 : X_row 162 120 = some (120, (.aload_n 0, 1), (0, 0, 0)) := by decide +kernel
theorem xr_162_121 : X_row 162 121 = some (121, (.getfield 27, 3), (11, 9, 18)) := by decide +kernel
theorem xr_162_124 : X_row 162 124 = some (124, (.ifCond .eq 206, 3), (0, 0, 0)) := by decide +kernel
theorem xr_162_127 : X_row 162 127 = some (127, (.aload_n 0, 1), (0, 0, 0)) := by decide +kernel
theorem xr_162_128 : X_row 162 128 = some (128, (.getfield 27, 3), (11, 9, 18)) := by decide +kernel
theorem xr_162_131 : X_row 162 131 = some (131, (.iconst 3, 1), (0, 0, 0)) := by decide +kernel
theorem xr_162_132 : X_row 162 132 = some (132, (.if_icmp .ne 10, 3), (0, 0, 0)) := by decide +kernel
theorem xr_162_135 : X_row 162 135 = some (135, (.aload_n 0, 1), (0, 0, 0)) := by decide +kernel
theorem xr_162_136 : X_row 162 136 = some (136, (.getfield 41, 3), (11, 12, 24)) := by decide +kernel
theorem xr_162_139 : X_row 162 139 = some (139, (.goto 4, 3), (0, 0, 0)) := by decide +kernel
theorem xr_162_142 : X_row 162 142 = some (142, (.lconst 0, 1), (0, 0, 0)) := by decide +kernel
theorem xr_162_143 : X_row 162 143 = some (143, (.lstore_n 1, 1), (0, 0, 0)) := by decide +kernel
theorem xr_162_144 : X_row 162 144 = some (144, (.lload_n 1, 1), (0, 0, 0)) := by decide +kernel
theorem xr_162_145 : X_row 162 145 = some (145, (.ldc2_w 45, 3), (1918987883, 1285, 0)) := by decide +kernel
theorem xr_162_148 : X_row 162 148 = some (148, (.lcmp, 1), (0, 0, 0)) := by decide +kernel
theorem xr_162_149 : X_row 162 149 = some (149, (.ifCond .ne 20, 3), (0, 0, 0)) := by decide +kernel
theorem xr_162_152 : X_row 162 152 = some (152, (.aload_n 0, 1), (0, 0, 0)) := by decide +kernel
theorem xr_162_153 : X_row 162 153 = some (153, (.getfield 84, 3), (11, 28, 56)) := by decide +kernel
theorem xr_162_156 : X_row 162 156 = some (156, (.bipush 12, 2), (0, 0, 0)) := by decide +kernel
theorem xr_162_158 : X_row 162 158 = some (158, (.if_icmp .ne 7, 3), (0, 0, 0)) := by decide +kernel
theorem xr_162_161 : X_row 162 161 = some (161, (.iconst 1, 1), (0, 0, 0)) := by decide +kernel
theorem xr_162_162 : X_row 162 162 = some (162, (.goto 54, 3), (0, 0, 0)) := by decide +kernel
theorem xr_162_165 : X_row 162 165 = some (165, (.iconst 0, 1), (0, 0, 0)) := by decide +kernel
theorem xr_162_166 : X_row 162 166 = some (166, (.goto 50, 3), (0, 0, 0)) := by decide +kernel
theorem xr_162_169 : X_row 162 169 = some (169, (.lload_n 1, 1), (0, 0, 0)) := by decide +kernel
theorem xr_162_170 : X_row 162 170 = some (170, (.ldc2_w 49, 3), (1802071652, 1287, 0)) := by decide +kernel
theorem xr_162_173 : X_row 162 173 = some (173, (.lcmp, 1), (0, 0, 0)) := by decide +kernel
theorem xr_162_174 : X_row 162 174 = some (174, (.ifCond .ne 20, 3), (0, 0, 0)) := by decide +kernel
theorem xr_162_177 : X_row 162 177 = some (177, (.aload_n 0, 1), (0, 0, 0)) := by decide +kernel
theorem xr_162_178 : X_row 162 178 = some (178, (.getfield 94, 3), (11, 29, 58)) := by decide +kernel
theorem xr_162_181 : X_row 162 181 = some (181, (.bipush 11, 2), (0, 0, 0)) := by decide +kernel
theorem xr_162_183 : X_row 162 183 = some (183, (.if_icmp .ne 7, 3), (0, 0, 0)) := by decide +kernel
theorem xr_162_186 : X_row 162 186 = some (186, (.iconst 1, 1), (0, 0, 0)) := by decide +kernel
theorem xr_162_187 : X_row 162 187 = some (187, (.goto 29, 3), (0, 0, 0)) := by decide +kernel
theorem xr_162_190 : X_row 162 190 = some (190, (.iconst 0, 1), (0, 0, 0)) := by decide +kernel
theorem xr_162_191 : X_row 162 191 = some (191, (.goto 25, 3), (0, 0, 0)) := by decide +kernel
theorem xr_162_194 : X_row 162 194 = some (194, (.lload_n 1, 1), (0, 0, 0)) := by decide +kernel
theorem xr_162_195 : X_row 162 195 = some (195, (.ldc2_w 53, 3), (2003792484, 1289, 0)) := by decide +kernel
theorem xr_162_198 : X_row 162 198 = some (198, (.lcmp, 1), (0, 0, 0)) := by decide +kernel
theorem xr_162_199 : X_row 162 199 = some (199, (.ifCond .ne 16, 3), (0, 0, 0)) := by decide +kernel
theorem xr_162_202 : X_row 162 202 = some (202, (.aload_n 0, 1), (0, 0, 0)) := by decide +kernel
theorem xr_162_203 : X_row 162 203 = some (203, (.getfield 138, 3), (11, 30, 60)) := by decide +kernel
theorem xr_162_206 : X_row 162 206 = some (206, (.bipush 30, 2), (0, 0, 0)) := by decide +kernel
theorem xr_162_208 : X_row 162 208 = some (208, (.if_icmp .ne 7, 3), (0, 0, 0)) := by decide +kernel
theorem xr_162_211 : X_row 162 211 = some (211, (.iconst 1, 1), (0, 0, 0)) := by decide +kernel
theorem xr_162_212 : X_row 162 212 = some (212, (.goto 4, 3), (0, 0, 0)) := by decide +kernel
theorem xr_162_215 : X_row 162 215 = some (215, (.iconst 0, 1), (0, 0, 0)) := by decide +kernel
theorem xr_162_216 : X_row 162 216 = some (216, (.istore_n 3, 1), (0, 0, 0)) := by decide +kernel
theorem xr_162_217 : X_row 162 217 = some (217, (.lload_n 1, 1), (0, 0, 0)) := by decide +kernel
theorem xr_162_218 : X_row 162 218 = some (218, (.ldc2_w 45, 3), (1918987883, 1285, 0)) := by decide +kernel
theorem xr_162_221 : X_row 162 221 = some (221, (.lcmp, 1), (0, 0, 0)) := by decide +kernel
theorem xr_162_222 : X_row 162 222 = some (222, (.ifCond .eq 27, 3), (0, 0, 0)) := by decide +kernel
theorem xr_162_225 : X_row 162 225 = some (225, (.lload_n 1, 1), (0, 0, 0)) := by decide +kernel
theorem xr_162_226 : X_row 162 226 = some (226, (.ldc2_w 47, 3), (32766990153442674, 1286, 0)) := by decide +kernel
theorem xr_162_229 : X_row 162 229 = some (229, (.lcmp, 1), (0, 0, 0)) := by decide +kernel
theorem xr_162_230 : X_row 162 230 = some (230, (.ifCond .eq 19, 3), (0, 0, 0)) := by decide +kernel
theorem xr_162_233 : X_row 162 233 = some (233, (.lload_n 1, 1), (0, 0, 0)) := by decide +kernel
theorem xr_162_234 : X_row 162 234 = some (234, (.ldc2_w 49, 3), (1802071652, 1287, 0)) := by decide +kernel
theorem xr_162_237 : X_row 162 237 = some (237, (.lcmp, 1), (0, 0, 0)) := by decide +kernel
theorem xr_162_238 : X_row 162 238 = some (238, (.ifCond .eq 11, 3), (0, 0, 0)) := by decide +kernel
theorem xr_162_241 : X_row 162 241 = some (241, (.lload_n 1, 1), (0, 0, 0)) := by decide +kernel
theorem xr_162_242 : X_row 162 242 = some (242, (.ldc2_w 53, 3), (2003792484, 1289, 0)) := by decide +kernel
theorem xr_162_245 : X_row 162 245 = some (245, (.lcmp, 1), (0, 0, 0)) := by decide +kernel
theorem xr_162_246 : X_row 162 246 = some (246, (.ifCond .ne 7, 3), (0, 0, 0)) := by decide +kernel
theorem xr_162_249 : X_row 162 249 = some (249, (.iload_n 3, 1), (0, 0, 0)) := by decide +kernel
theorem xr_162_250 : X_row 162 250 = some (250, (.ifCond .eq 7, 3), (0, 0, 0)) := by decide +kernel
theorem xr_162_253 : X_row 162 253 = some (253, (.aload_n 0, 1), (0, 0, 0)) := by decide +kernel
theorem xr_162_254 : X_row 162 254 = some (254, (.invokevirtual 81, 3), (147, 16, 0)) := by decide +kernel
theorem xr_162_257 : X_row 162 257 = some (257, (.aload_n 0, 1), (0, 0, 0)) := by decide +kernel
theorem xr_162_258 : X_row 162 258 = some (258, (.invokevirtual 100, 3), (140, 14, 0)) := by decide +kernel
theorem xr_162_261 : X_row 162 261 = some (261, (.ifCond .eq 7, 3), (0, 0, 0)) := by decide +kernel
theorem xr_162_264 : X_row 162 264 = some (264, (.aload_n 0, 1), (0, 0, 0)) := by decide +kernel
theorem xr_162_265 : X_row 162 265 = some (265, (.invokevirtual 78, 3), (141, 0, 0)) := by decide +kernel
theorem xr_162_268 : X_row 162 268 = some (268, (.aload_n 0, 1), (0, 0, 0)) := by decide +kernel
theorem xr_162_269 : X_row 162 269 = some (269, (.invokevirtual 100, 3), (140, 14, 0)) := by decide +kernel
theorem xr_162_272 : X_row 162 272 = some (272, (.ifCond .ne 6, 3), (0, 0, 0)) := by decide +kernel
theorem xr_162_275 : X_row 162 275 = some (275, (.goto (-162), 3), (0, 0, 0)) := by decide +kernel
theorem xr_162_278 : X_row 162 278 = some (278, (.lload_n 1, 1), (0, 0, 0)) := by decide +kernel
theorem xr_162_279 : X_row 162 279 = some (279, (.ldc2_w 45, 3), (1918987883, 1285, 0)) := by decide +kernel
theorem xr_162_282 : X_row 162 282 = some (282, (.lcmp, 1), (0, 0, 0)) := by decide +kernel
theorem xr_162_283 : X_row 162 283 = some (283, (.ifCond .ne 10, 3), (0, 0, 0)) := by decide +kernel
theorem xr_162_286 : X_row 162 286 = some (286, (.aload_n 0, 1), (0, 0, 0)) := by decide +kernel
theorem xr_162_287 : X_row 162 287 = some (287, (.invokevirtual 296, 3), (153, 20, 0)) := by decide +kernel
theorem xr_162_290 : X_row 162 290 = some (290, (.goto 37, 3), (0, 0, 0)) := by decide +kernel
theorem xr_162_293 : X_row 162 293 = some (293, (.lload_n 1, 1), (0, 0, 0)) := by decide +kernel
theorem xr_162_294 : X_row 162 294 = some (294, (.ldc2_w 47, 3), (32766990153442674, 1286, 0)) := by decide +kernel
theorem xr_162_297 : X_row 162 297 = some (297, (.lcmp, 1), (0, 0, 0)) := by decide +kernel
theorem xr_162_298 : X_row 162 298 = some (298, (.ifCond .ne 10, 3), (0, 0, 0)) := by decide +kernel
theorem xr_162_301 : X_row 162 301 = some (301, (.aload_n 0, 1), (0, 0, 0)) := by decide +kernel
theorem xr_162_302 : X_row 162 302 = some (302, (.invokevirtual 299, 3), (155, 28, 0)) := by decide +kernel
theorem xr_162_305 : X_row 162 305 = some (305, (.goto 22, 3), (0, 0, 0)) := by decide +kernel
theorem xr_162_308 : X_row 162 308 = some (308, (.lload_n 1, 1), (0, 0, 0)) := by decide +kernel
theorem xr_162_309 : X_row 162 309 = some (309, (.ldc2_w 49, 3), (1802071652, 1287, 0)) := by decide +kernel
theorem xr_162_312 : X_row 162 312 = some (312, (.lcmp, 1), (0, 0, 0)) := by decide +kernel
theorem xr_162_313 : X_row 162 313 = some (313, (.ifCond .ne 10, 3), (0, 0, 0)) := by decide +kernel
theorem xr_162_316 : X_row 162 316 = some (316, (.aload_n 0, 1), (0, 0, 0)) := by decide +kernel
theorem xr_162_317 : X_row 162 317 = some (317, (.invokevirtual 302, 3), (156, 34, 0)) := by decide +kernel
theorem xr_162_320 : X_row 162 320 = some (320, (.goto 7, 3), (0, 0, 0)) := by decide +kernel
theorem xr_162_323 : X_row 162 323 = some (323, (.aload_n 0, 1), (0, 0, 0)) := by decide +kernel
theorem xr_162_324 : X_row 162 324 = some (324, (.invokevirtual 305, 3), (157, 42, 0)) := by decide +kernel
theorem xr_162_327 : X_row 162 327 = some (327, (.goto (-214), 3), (0, 0, 0)) := by decide +kernel
theorem xr_162_330 : X_row 162 330 = some (330, (.aload_n 0, 1), (0, 0, 0)) := by decide +kernel
theorem xr_162_331 : X_row 162 331 = some (331, (.invokevirtual 100, 3), (140, 14, 0)) := by decide +kernel
theorem xr_162_334 : X_row 162 334 = some (334, (.ifCond .ne 39, 3), (0, 0, 0)) := by decide +kernel
theorem xr_162_337 : X_row 162 337 = some (337, (.aload_n 0, 1), (0, 0, 0)) := by decide +kernel
theorem xr_162_338 : X_row 162 338 = some (338, (.iconst 1, 1), (0, 0, 0)) := by decide +kernel
theorem xr_162_339 : X_row 162 339 = some (339, (.aload_n 0, 1), (0, 0, 0)) := by decide +kernel
theorem xr_162_340 : X_row 162 340 = some (340, (.getfield 91, 3), (11, 4, 8)) := by decide +kernel
theorem xr_162_343 : X_row 162 343 = some (343, (.isub, 1), (0, 0, 0)) := by decide +kernel
theorem xr_162_344 : X_row 162 344 = some (344, (.putfield 91, 3), (11, 4, 8)) := by decide +kernel
theorem xr_162_347 : X_row 162 347 = some (347, (.aload_n 0, 1), (0, 0, 0)) := by decide +kernel
theorem xr_162_348 : X_row 162 348 = some (348, (.aload_n 0, 1), (0, 0, 0)) := by decide +kernel
theorem xr_162_349 : X_row 162 349 = some (349, (.getfield 308, 3), (11, 31, 62)) := by decide +kernel
theorem xr_162_352 : X_row 162 352 = some (352, (.putfield 84, 3), (11, 28, 56)) := by decide +kernel
theorem xr_162_355 : X_row 162 355 = some (355, (.aload_n 0, 1), (0, 0, 0)) := by decide +kernel
theorem xr_162_356 : X_row 162 356 = some (356, (.aload_n 0, 1), (0, 0, 0)) := by decide +kernel
theorem xr_162_357 : X_row 162 357 = some (357, (.getfield 191, 3), (11, 32, 64)) := by decide +kernel
theorem xr_162_360 : X_row 162 360 = some (360, (.putfield 94, 3), (11, 29, 58)) := by decide +kernel
theorem xr_162_363 : X_row 162 363 = some (363, (.aload_n 0, 1), (0, 0, 0)) := by decide +kernel
theorem xr_162_364 : X_row 162 364 = some (364, (.aload_n 0, 1), (0, 0, 0)) := by decide +kernel
theorem xr_162_365 : X_row 162 365 = some (365, (.getfield 311, 3), (11, 33, 66)) := by decide +kernel
theorem xr_162_368 : X_row 162 368 = some (368, (.putfield 138, 3), (11, 30, 60)) := by decide +kernel
theorem xr_162_371 : X_row 162 371 = some (371, (.iconst (-1), 1), (0, 0, 0)) := by decide +kernel
theorem xr_162_372 : X_row 162 372 = some (372, (.ireturn, 1), (0, 0, 0)) := by decide +kernel
theorem xr_162_373 : X_row 162 373 = some (373, (.aload_n 0, 1), (0, 0, 0)) := by decide +kernel
theorem xr_162_374 : X_row 162 374 = some (374, (.aload_n 0, 1), (0, 0, 0)) := by decide +kernel
theorem xr_162_375 : X_row 162 375 = some (375, (.getfield 84, 3), (11, 28, 56)) := by decide +kernel
theorem xr_162_378 : X_row 162 378 = some (378, (.putfield 308, 3), (11, 31, 62)) := by decide +kernel
theorem xr_162_381 : X_row 162 381 = some (381, (.aload_n 0, 1), (0, 0, 0)) := by decide +kernel
theorem xr_162_382 : X_row 162 382 = some (382, (.aload_n 0, 1), (0, 0, 0)) := by decide +kernel
theorem xr_162_383 : X_row 162 383 = some (383, (.getfield 94, 3), (11, 29, 58)) := by decide +kernel
theorem xr_162_386 : X_row 162 386 = some (386, (.putfield 191, 3), (11, 32, 64)) := by decide +kernel
theorem xr_162_389 : X_row 162 389 = some (389, (.aload_n 0, 1), (0, 0, 0)) := by decide +kernel
theorem xr_162_390 : X_row 162 390 = some (390, (.aload_n 0, 1), (0, 0, 0)) := by decide +kernel
theorem xr_162_391 : X_row 162 391 = some (391, (.getfield 138, 3), (11, 30, 60)) := by decide +kernel
theorem xr_162_394 : X_row 162 394 = some (394, (.putfield 311, 3), (11, 33, 66)) := by decide +kernel
theorem xr_162_397 : X_row 162 397 = some (397, (.aload_n 0, 1), (0, 0, 0)) := by decide +kernel
theorem xr_162_398 : X_row 162 398 = some (398, (.iconst 0, 1), (0, 0, 0)) := by decide +kernel
theorem xr_162_399 : X_row 162 399 = some (399, (.putfield 314, 3), (11, 38, 76)) := by decide +kernel
theorem xr_162_402 : X_row 162 402 = some (402, (.aload_n 0, 1), (0, 0, 0)) := by decide +kernel
theorem xr_162_403 : X_row 162 403 = some (403, (.iconst 0, 1), (0, 0, 0)) := by decide +kernel
theorem xr_162_404 : X_row 162 404 = some (404, (.putfield 317, 3), (11, 49, 98)) := by decide +kernel
theorem xr_162_407 : X_row 162 407 = some (407, (.aload_n 0, 1), (0, 0, 0)) := by decide +kernel
theorem xr_162_408 : X_row 162 408 = some (408, (.iconst 0, 1), (0, 0, 0)) := by decide +kernel
theorem xr_162_409 : X_row 162 409 = some (409, (.putfield 320, 3), (11, 68, 136)) := by decide +kernel
theorem xr_162_412 : X_row 162 412 = some (412, (.iconst 0, 1), (0, 0, 0)) := by decide +kernel
theorem xr_162_413 : X_row 162 413 = some (413, (.istore_n 1, 1), (0, 0, 0)) := by decide +kernel
theorem xr_162_414 : X_row 162 414 = some (414, (.iload_n 1, 1), (0, 0, 0)) := by decide +kernel
theorem xr_162_415 : X_row 162 415 = some (415, (.bipush 30, 2), (0, 0, 0)) := by decide +kernel
theorem xr_162_417 : X_row 162 417 = some (417, (.if_icmp .ge 16, 3), (0, 0, 0)) := by decide +kernel
theorem xr_162_420 : X_row 162 420 = some (420, (.aload_n 0, 1), (0, 0, 0)) := by decide +kernel
theorem xr_162_421 : X_row 162 421 = some (421, (.getfield 273, 3), (11, 63, 126)) := by decide +kernel
theorem xr_162_424 : X_row 162 424 = some (424, (.iload_n 1, 1), (0, 0, 0)) := by decide +kernel
theorem xr_162_425 : X_row 162 425 = some (425, (.iconst 0, 1), (0, 0, 0)) := by decide +kernel
theorem xr_162_426 : X_row 162 426 = some (426, (.bastore, 1), (0, 0, 0)) := by decide +kernel
theorem xr_162_427 : X_row 162 427 = some (427, (.iinc 1 1, 3), (0, 0, 0)) := by decide +kernel
theorem xr_162_430 : X_row 162 430 = some (430, (.goto (-16), 3), (0, 0, 0)) := by decide +kernel
theorem xr_162_433 : X_row 162 433 = some (433, (.aload_n 0, 1), (0, 0, 0)) := by decide +kernel
theorem xr_162_434 : X_row 162 434 = some (434, (.getfield 138, 3), (11, 30, 60)) := by decide +kernel
theorem xr_162_437 : X_row 162 437 = some (437, (.ireturn, 1), (0, 0, 0)) := by decide +kernel
theorem xn_162 : X_nL 162 = 4 := by decide +kernel
theorem xf_162 : X_na 162 = 0 ∧ X_ci 162 = 11 ∧ X_rt 162 = (some .int) := by decide +kernel
theorem X_av_le {n c : Int} : c ≤ X_av n c := by
  unfold X_av
  split <;> omega
theorem sp_el_le {n : Int} {so : Int → Int} {ct : Int → Int64} {kn : Int → Int64} {kc : Int} : ∀ (k : Nat) (c : Int) (d : Nat → Int → Int) (q : Int → Int64) (r : Int × (Nat → Int → Int) × (Int → Int64)), sp_el n so ct kn kc k c d q = some r → c ≤ r.1 := by
  intro k
  induction k with
  | zero => intro c d q r h; cases h
  | succ k ih =>
    intro c d q r h
    have h1 := X_av_le (n := n) (c := c)
    have h2 := X_av_le (n := n) (c := X_av n c)
    unfold sp_el at h
    repeat' split at h
    all_goals first
      | (cases h; done)
      | (cases h; exact Int.le_refl _)
      | (have := ih _ _ _ _ h; omega)
theorem sp_stF_le {n c s v pile : Int} {d : Nat → Int → Int} {r : Int × (Nat → Int → Int) × Int} (h : sp_stF n c s v d pile = some r) : c ≤ r.1 := by
  unfold sp_stF at h
  repeat' split at h
  all_goals first
    | (cases h; done)
    | (cases h; exact X_av_le)
theorem sp_step_le {n : Int} {so : Int → Int} {ct : Int → Int64} {c : Int} {d : Nat → Int → Int} {pile : Int} {r : Int × (Nat → Int → Int) × Int} (h : sp_step n so ct c d pile = some r) : c ≤ r.1 := by
  have h1 := X_av_le (n := n) (c := c)
  unfold sp_step at h
  repeat' split at h
  all_goals first
    | (cases h; done)
    | (have := sp_stF_le h; omega)
theorem sp_sl_le {n : Int} {so : Int → Int} {ct : Int → Int64} : ∀ (k : Nat) (c : Int) (d : Nat → Int → Int) (p : Int) (r : Int × (Nat → Int → Int) × Int), sp_sl n so ct k c d p = some r → c ≤ r.1 := by
  intro k
  induction k with
  | zero => intro c d p r h; cases h; exact Int.le_refl _
  | succ k ih =>
    intro c d p r h
    unfold sp_sl at h
    split at h
    · cases h; exact Int.le_refl _
    · cases hs : sp_step n so ct c d p with
      | none => rw [hs] at h; cases h
      | some z =>
        rw [hs] at h
        have := ih _ _ _ _ h
        have := sp_step_le hs
        omega
theorem sp_steps_le {n : Int} {so : Int → Int} {ct : Int → Int64} {c : Int} {d : Nat → Int → Int} {r : Int × (Nat → Int → Int)} (h : sp_steps n so ct c d = some r) : c ≤ r.1 := by
  unfold sp_steps at h
  cases hs : sp_sl n so ct 30 (X_av n c) (X_wu d 5 (fun _ => 0)) 0 with
  | none => rw [hs] at h; cases h
  | some z =>
    rw [hs] at h
    have h : (if so z.1 = 59 then (if z.2.2 = 1 then some (X_av n z.1, z.2.1) else none) else none) = some r := h
    have h1 := sp_sl_le _ _ _ _ _ hs
    have h2 := X_av_le (n := n) (c := c)
    have h3 := X_av_le (n := n) (c := z.1)
    repeat' split at h
    all_goals first
      | (cases h; done)
      | (cases h; show c ≤ X_av n z.1; omega)
theorem sp_we_le {n : Int} {so : Int → Int} {ct : Int → Int64} {c : Int} {d : Nat → Int → Int} {q : Int → Int64} {r : Int × (Nat → Int → Int) × (Int → Int64)} (h : sp_we n so ct c d q = some r) : c ≤ r.1 := by
  have h1 := X_av_le (n := n) (c := c)
  have key : ∀ z, (sp_steps n so ct c d).bind (fun r => some (r.1, r.2, q)) = some z → c ≤ z.1 := by
    intro z hz
    cases hs : sp_steps n so ct c d with
    | none => rw [hs] at hz; cases hz
    | some y =>
      rw [hs] at hz
      cases hz
      exact sp_steps_le hs
  unfold sp_we at h
  repeat' split at h
  all_goals first
    | (cases h; done)
    | exact key _ h
    | (cases h; exact h1)
theorem sp_wb_le {n : Int} {so : Int → Int} {ct : Int → Int64} {kn : Int → Int64} {kc c : Int} {d : Nat → Int → Int} {q : Int → Int64} {r : Int × (Nat → Int → Int) × (Int → Int64)} (h : sp_wb n so ct kn kc c d q = some r) : c ≤ r.1 := by
  unfold sp_wb at h
  split at h
  · cases hs : sp_el n so ct kn kc 9 (X_av n c) d q with
    | none => rw [hs] at h; cases h
    | some z =>
      rw [hs] at h
      have h1 := sp_we_le (show sp_we n so ct z.1 z.2.1 z.2.2 = some r from h)
      have h2 := sp_el_le _ _ _ _ _ hs
      have h3 := X_av_le (n := n) (c := c)
      omega
  · cases h
theorem sp_wk_le {n : Int} {so : Int → Int} {ct : Int → Int64} {kn : Int → Int64} {kc c : Int} {d : Nat → Int → Int} {q : Int → Int64} {r : Int × (Nat → Int → Int) × (Int → Int64)} (h : sp_wk n so ct kn kc c d q = some r) : c ≤ r.1 := by
  have h3 := X_av_le (n := n) (c := c)
  unfold sp_wk at h
  repeat' split at h
  all_goals first
    | (cases h; done)
    | (have := sp_wb_le h; omega)
theorem X_lnC_le {n : Int} {so : Int → Int} {ct : Int → Int64} {c : Int} : c ≤ X_lnC n so ct c := by
  unfold X_lnC
  split
  · exact X_av_le
  · exact Int.le_refl _
theorem sp_line_gt {n : Int} {so : Int → Int} {ct : Int → Int64} {K K' : X_Kp} (hc : K.1 + 1 < n) (h : sp_line n so ct K = some K') : K.1 + 1 ≤ K'.1 := by
  have e : X_av n K.1 = K.1 + 1 := by unfold X_av; rw [if_pos hc]
  obtain ⟨c, rc, kc, wc, rn, lo, kn, ab, D, W⟩ := K
  simp only at e hc ⊢
  have a1 := X_av_le (n := n) (c := X_av n c)
  have a2 := X_av_le (n := n) (c := X_av n (X_av n c))
  have a3 := X_av_le (n := n) (c := X_av n (X_av n (X_av n c)))
  have a4 := X_av_le (n := n) (c := X_av n (X_av n (X_av n (X_av n c))))
  unfold sp_line at h
  split at h
  · simp only [sp_rank] at h
    repeat' split at h
    all_goals first | (cases h; done) | (cases h; show c + 1 ≤ X_av n (X_av n (X_av n c)); omega)
  · split at h
    · simp only [sp_tight] at h
      repeat' split at h
      all_goals first | (cases h; done) | (cases h; show c + 1 ≤ X_av n (X_av n (X_av n (X_av n c))); omega)
    · split at h
      · simp only [sp_kind] at h
        repeat' split at h
        all_goals first
          | (cases h; done)
          | (cases h; show c + 1 ≤ X_av n (X_av n (X_av n (X_av n (X_av n c)))); omega)
          | (cases h; show c + 1 ≤ X_av n (X_av n (X_av n c)); omega)
      · split at h
        · simp only [sp_word] at h
          split at h
          · cases h
          · split at h
            · split at h
              · cases h
              · cases hs : sp_wk n so ct kn kc (X_lnC n so ct (X_av n (X_av n c))) (X_wu (X_clr (D wc) (X_ix rn rc (ct (X_av n c)))) 1 (fun _ => X_lnV so ct (X_av n (X_av n c)) 0)) (W wc) with
                | none => rw [hs] at h; cases h
                | some z =>
                  rw [hs] at h
                  cases h
                  have b1 := sp_wk_le hs
                  have b2 := X_lnC_le (n := n) (so := so) (ct := ct) (c := X_av n (X_av n c))
                  show c + 1 ≤ z.1
                  omega
            · cases h
        · cases h
/-- a bank of the reference holds what K tells -/
def R_bk (b : Int) (K : X_Kp) (rN kN : Int → Int64) (tg kU wR wL wK wM wH wS sO sN : Int → Int) (eP : Int → Int64) (eH hK : Int → Int) : Prop :=
  R_rk b K.2.1 K.2.2.2.2.1 K.2.2.2.2.2.1 rN tg ∧ R_kd b K.2.2.1 K.2.2.2.2.2.2.1 K.2.2.2.2.2.2.2.1 kN kU ∧ ∀ w, 0 ≤ w → w < K.2.2.2.1 → R_w (30 * b + w) (K.2.2.2.2.2.2.2.2.1 w) (K.2.2.2.2.2.2.2.2.2 w) wR wL wK wM wH wS sO sN eP eH hK
theorem X_Kok.wd {K : X_Kp} (h : X_Kok K) : ∀ w, 0 ≤ w → w < K.2.2.2.1 → K.2.2.2.2.2.2.2.2.1 w 3 0 ≤ 8 ∧ K.2.2.2.2.2.2.2.2.1 w 4 0 ≤ 8 ∧ K.2.2.2.2.2.2.2.2.1 w 5 0 ≤ 30 := fun w h1 h2 => by
  obtain ⟨a1, a2, -, -, -, -, a3⟩ := h.2.2.2 w h1 h2
  have a4 := a1.le
  have a5 := a1.1
  refine ⟨a5.2, by omega, ?_⟩
  rcases a3 with a3 | a3
  · omega
  · exact a3.2.1
section X_RBK
variable {b b' : Int} {K : X_Kp} {rN kN rN' kN' : Int → Int64} {tg kU wR wL wK wM wH wS sO sN tg' kU' wR' wL' wK' wM' wH' wS' sO' sN' : Int → Int} {eP eP' : Int → Int64} {eH hK eH' hK' : Int → Int}
theorem R_bk.frR (hb : 0 ≤ b ∧ b ≤ 1 ∧ 0 ≤ b' ∧ b' ≤ 1 ∧ ¬ b = b') (hK0 : X_Kok K) (h : R_bk b K rN kN tg kU wR wL wK wM wH wS sO sN eP eH hK) (h1 : R_ob 12 b' rN rN') (h2 : R_ob 144 b' tg tg') : R_bk b K rN' kN tg' kU wR wL wK wM wH wS sO sN eP eH hK := by
  obtain ⟨⟨a1, a2, a3⟩, a4, a5⟩ := h
  have hr := hK0.1
  exact ⟨⟨fun i g1 g2 => by rw [h1 _ (by omega)]; exact a1 i g1 g2, fun i j g1 g2 g3 g4 => by rw [h2 _ (by omega)]; exact a2 i j g1 g2 g3 g4, a3⟩, a4, a5⟩
theorem R_bk.frK (hb : 0 ≤ b ∧ b ≤ 1 ∧ 0 ≤ b' ∧ b' ≤ 1 ∧ ¬ b = b') (hK0 : X_Kok K) (h : R_bk b K rN kN tg kU wR wL wK wM wH wS sO sN eP eH hK) (h1 : R_ob 11 b' kN kN') (h2 : R_ob 11 b' kU kU') : R_bk b K rN kN' tg kU' wR wL wK wM wH wS sO sN eP eH hK := by
  obtain ⟨a1, ⟨c1, c2, c3, c4⟩, a5⟩ := h
  have hr := hK0.2.1
  refine ⟨a1, ⟨fun i g1 g2 => by rw [h1 _ (by omega)]; exact c1 i g1 g2, c2, by rw [h2 _ (by omega)]; exact c3, fun k g1 g2 => ?_⟩, a5⟩
  rw [h2 _ (by omega)]
  exact c4 k g1 g2
theorem R_bk.frW {w0 : Int} (hb : 0 ≤ b ∧ b ≤ 1 ∧ 0 ≤ b' ∧ b' ≤ 1 ∧ ¬ b = b') (hw0 : 0 ≤ w0 ∧ w0 < 30) (hK0 : X_Kok K) (h : R_bk b K rN kN tg kU wR wL wK wM wH wS sO sN eP eH hK) (h4 : ∀ w, 0 ≤ w → w < K.2.2.2.1 → K.2.2.2.2.2.2.2.2.1 w 4 0 ≤ 4)
    (o1 : R_ob 1 (30 * b' + w0) wR wR') (o2 : R_ob 1 (30 * b' + w0) wL wL') (o3 : R_ob 1 (30 * b' + w0) wK wK') (o4 : R_ob 1 (30 * b' + w0) wM wM') (o5 : R_ob 1 (30 * b' + w0) wH wH') (o6 : R_ob 1 (30 * b' + w0) wS wS') (o7 : R_ob 30 (30 * b' + w0) sO sO') (o8 : R_ob 30 (30 * b' + w0) sN sN') (o9 : R_ob 8 (30 * b' + w0) eP eP') (o10 : R_ob 8 (30 * b' + w0) eH eH') (o11 : R_ob 4 (30 * b' + w0) hK hK') : R_bk b K rN kN tg kU wR' wL' wK' wM' wH' wS' sO' sN' eP' eH' hK' := by
  have hw := hK0.2.2.1
  exact ⟨h.1, h.2.1, fun w g1 g2 => R_w.fr (y := 30 * b' + w0) (by omega) ⟨(hK0.wd w g1 g2).1, h4 w g1 g2, (hK0.wd w g1 g2).2.2⟩ (h.2.2 w g1 g2) o1 o2 o3 o4 o5 o6 o7 o8 o9 o10 o11⟩
theorem R_bk.adW {c c2 rc kc wc : Int} {rn : Int → Int64} {lo : Int → Int} {kn : Int → Int64} {ab : Int → Int} {D : Int → Nat → Int → Int} {W : Int → Int → Int64} {d2 : Nat → Int → Int} {q2 : Int → Int64} (hK0 : X_Kok (c, rc, kc, wc, rn, lo, kn, ab, D, W)) (h : R_bk b (c, rc, kc, wc, rn, lo, kn, ab, D, W) rN kN tg kU wR wL wK wM wH wS sO sN eP eH hK) (h4 : ∀ w, 0 ≤ w → w < wc → D w 4 0 ≤ 4)
    (hn : R_w (30 * b + wc) d2 q2 wR' wL' wK' wM' wH' wS' sO' sN' eP' eH' hK')
    (o1 : R_ob 1 (30 * b + wc) wR wR') (o2 : R_ob 1 (30 * b + wc) wL wL') (o3 : R_ob 1 (30 * b + wc) wK wK') (o4 : R_ob 1 (30 * b + wc) wM wM') (o5 : R_ob 1 (30 * b + wc) wH wH') (o6 : R_ob 1 (30 * b + wc) wS wS') (o7 : R_ob 30 (30 * b + wc) sO sO') (o8 : R_ob 30 (30 * b + wc) sN sN') (o9 : R_ob 8 (30 * b + wc) eP eP') (o10 : R_ob 8 (30 * b + wc) eH eH') (o11 : R_ob 4 (30 * b + wc) hK hK') : R_bk b (c2, rc, kc, wc + 1, rn, lo, kn, ab, X_ug D wc d2, X_ug W wc q2) rN kN tg kU wR' wL' wK' wM' wH' wS' sO' sN' eP' eH' hK' := by
  refine ⟨h.1, h.2.1, fun w g1 g2 => ?_⟩
  have g2 : w < wc + 1 := g2
  show R_w (30 * b + w) (X_ug D wc d2 w) (X_ug W wc q2 w) _ _ _ _ _ _ _ _ _ _ _
  by_cases hw : w = wc
  · subst hw
    rw [X_ug_s, X_ug_s]
    exact hn
  · rw [X_ug_n _ _ hw, X_ug_n _ _ hw]
    have g3 : w < wc := by omega
    exact R_w.fr (y := 30 * b + wc) (by omega) ⟨(hK0.wd w g1 g3).1, h4 w g1 g3, (hK0.wd w g1 g3).2.2⟩ (h.2.2 w g1 g3) o1 o2 o3 o4 o5 o6 o7 o8 o9 o10 o11
end X_RBK
theorem X_by_id {x : Int} (h : -128 ≤ x ∧ x ≤ 127) : X_by x = x := by
  have key : ∀ k : Fin 256, X_by (((k : Nat) : Int) - 128) = ((k : Nat) : Int) - 128 := by decide +kernel
  have := key ⟨(x + 128).toNat, by omega⟩
  simp only at this
  rw [show (((x + 128).toNat : Nat) : Int) - 128 = x by omega] at this
  exact this
theorem sp_el_h4 {n : Int} {so : Int → Int} {ct : Int → Int64} {kn : Int → Int64} {kc : Int} : ∀ (k : Nat) (c : Int) (d : Nat → Int → Int) (q : Int → Int64) (r : Int × (Nat → Int → Int) × (Int → Int64)), sp_el n so ct kn kc k c d q = some r → d 4 0 ≤ 4 → r.2.1 4 0 ≤ 4 := by
  intro k
  induction k with
  | zero => intro c d q r h; cases h
  | succ k ih =>
    intro c d q r h h4
    have kH : ∀ z, d 4 0 < 4 → X_aH d z 4 0 ≤ 4 := fun z hz => by show d 4 0 + 1 ≤ 4; omega
    unfold sp_el at h
    split at h
    · cases h; exact h4
    · split at h
      · cases h; exact h4
      · split at h
        · exact ih _ _ _ _ h h4
        · split at h
          · rename_i h6
            split at h
            · split at h
              · cases h
              · exact ih _ _ _ _ h (kH _ h6.2.2.1)
            · exact ih _ _ _ _ h (kH _ h6.2.2.1)
          · cases h
theorem sp_wb_h4 {n : Int} {so : Int → Int} {ct : Int → Int64} {kn : Int → Int64} {kc c : Int} {d : Nat → Int → Int} {q : Int → Int64} {r : Int × (Nat → Int → Int) × (Int → Int64)} (hkc : 1 ≤ kc) (hct : ∀ i, 0 ≤ i → i < n → so i = 6 → ¬ ct i = 0) (hcr : 0 ≤ c ∧ c < n) (h3 : d 3 0 = 0) (h4 : d 4 0 = 0) (h : sp_wb n so ct kn kc c d q = some r) : r.2.1 4 0 ≤ 4 := by
  unfold sp_wb at h
  split at h
  · cases hs : sp_el n so ct kn kc 9 (X_av n c) d q with
    | none => rw [hs] at h; cases h
    | some z =>
      rw [hs] at h
      have h : sp_we n so ct z.1 z.2.1 z.2.2 = some r := h
      obtain ⟨-, -, -, b3⟩ := sp_el_ok hkc hct _ _ _ _ _ (X_av_r hcr) hs (X_eok_0 h3 h4)
      obtain ⟨-, -, e3, -, -⟩ := sp_we_ok b3 h
      rw [e3 4 (by decide) (by decide) (by decide)]
      exact sp_el_h4 _ _ _ _ _ hs (by omega)
  · cases h
theorem sp_wk_h4 {n : Int} {so : Int → Int} {ct : Int → Int64} {kn : Int → Int64} {kc c : Int} {d : Nat → Int → Int} {q : Int → Int64} {r : Int × (Nat → Int → Int) × (Int → Int64)} (hkc : 1 ≤ kc) (hct : ∀ i, 0 ≤ i → i < n → so i = 6 → ¬ ct i = 0) (hcr : 0 ≤ c ∧ c < n) (h3 : d 3 0 = 0) (h4 : d 4 0 = 0) (h : sp_wk n so ct kn kc c d q = some r) : r.2.1 4 0 ≤ 4 := by
  unfold sp_wk at h
  split at h
  · split at h
    · cases h
    · exact sp_wb_h4 (d := X_wu d 2 (fun _ => X_ix kn kc (ct c))) hkc hct (X_av_r hcr) h3 h4 h
  · exact sp_wb_h4 (d := X_wu d 2 (fun _ => 0)) hkc hct hcr h3 h4 h
def X_K4 (K : X_Kp) : Prop := ∀ w, 0 ≤ w → w < K.2.2.2.1 → K.2.2.2.2.2.2.2.2.1 w 4 0 ≤ 4
theorem sp_line_h4 {n : Int} {so : Int → Int} {ct : Int → Int64} {K K' : X_Kp} (hct : ∀ i, 0 ≤ i → i < n → so i = 6 → ¬ ct i = 0) (hcr : 0 ≤ K.1 ∧ K.1 < n) (hK : X_Kok K) (h4 : X_K4 K) (h : sp_line n so ct K = some K') : X_K4 K' := by
  obtain ⟨c, rc, kc, wc, rn, lo, kn, ab, D, W⟩ := K
  have hkc := hK.2.1.1
  simp only at hkc hcr
  unfold sp_line at h
  split at h
  · simp only [sp_rank] at h
    repeat' split at h
    all_goals first | (cases h; done) | (cases h; exact h4)
  · split at h
    · simp only [sp_tight] at h
      repeat' split at h
      all_goals first | (cases h; done) | (cases h; exact h4)
    · split at h
      · simp only [sp_kind] at h
        repeat' split at h
        all_goals first | (cases h; done) | (cases h; exact h4)
      · split at h
        · simp only [sp_word] at h
          split at h
          · cases h
          · split at h
            · split at h
              · cases h
              · cases hs : sp_wk n so ct kn kc (X_lnC n so ct (X_av n (X_av n c))) (X_wu (X_clr (D wc) (X_ix rn rc (ct (X_av n c)))) 1 (fun _ => X_lnV so ct (X_av n (X_av n c)) 0)) (W wc) with
                | none => rw [hs] at h; cases h
                | some z =>
                  rw [hs] at h
                  cases h
                  intro w g1 g2
                  have g2 : w < wc + 1 := g2
                  show X_ug D wc z.2.1 w 4 0 ≤ 4
                  by_cases hw : w = wc
                  · subst hw
                    rw [X_ug_s]
                    exact sp_wk_h4 hkc hct (X_lnC_r (X_av_r (X_av_r hcr))) rfl rfl hs
                  · rw [X_ug_n _ _ hw]
                    exact h4 w g1 (show w < wc by omega)
            · cases h
        · cases h
theorem sp_lines_at {n : Int} {so : Int → Int} {ct : Int → Int64} {m : Nat} {K : X_Kp} (hm : 0 < m) : sp_lines n so ct m K = if so K.1 = 0 then some K else (sp_line n so ct K).bind (sp_lines n so ct (m - 1)) := by
  cases m with
  | zero => omega
  | succ m => rfl

set_option maxHeartbeats 16000000 in
theorem r_book (sc : X_Sc) (S : X_S) (o : Nat → Int) (nm : Int64) (tp : Int → Int) (tx : Int → Int) (ib : Int → Int) (rN : Int → Int64) (kN : Int → Int64) (tg : Int → Int) (kU : Int → Int) (wR : Int → Int) (wL : Int → Int) (wK : Int → Int) (wM : Int → Int) (wH : Int → Int) (wS : Int → Int) (sO : Int → Int) (sN : Int → Int) (eP : Int → Int64) (eH : Int → Int) (hK : Int → Int) (tb : Int → Int) (len : Int) (n : Int) (so : Int → Int) (pl : Int → Int) (ct : Int → Int64) (E : Int → Int) (rn0 : Int → Int64) (lo0 : Int → Int) (kn0 : Int → Int64) (ab0 : Int → Int) (D0 : Int → Nat → Int → Int) (W0 : Int → Int → Int64) (KO : X_Kp) (hM : M_o S o nm) (hA531 : S.1 531 = .inl (.byte, 2020, .inl fun k : Nat => iI (tp (k : Int)))) (hA532 : S.1 532 = .inl (.byte, 2000, .inl fun k : Nat => iI (tx (k : Int)))) (hA574 : S.1 574 = .inl (.boolean, 30, .inl fun k : Nat => iI (ib (k : Int)))) (hA533 : S.1 533 = .inl (.long, 24, .inr (.inl fun k : Nat => rN (k : Int)))) (hA534 : S.1 534 = .inl (.long, 22, .inr (.inl fun k : Nat => kN (k : Int)))) (hA535 : S.1 535 = .inl (.boolean, 288, .inl fun k : Nat => iI (tg (k : Int)))) (hA536 : S.1 536 = .inl (.int, 22, .inl fun k : Nat => iI (kU (k : Int)))) (hA537 : S.1 537 = .inl (.int, 60, .inl fun k : Nat => iI (wR (k : Int)))) (hA538 : S.1 538 = .inl (.int, 60, .inl fun k : Nat => iI (wL (k : Int)))) (hA539 : S.1 539 = .inl (.int, 60, .inl fun k : Nat => iI (wK (k : Int)))) (hA540 : S.1 540 = .inl (.int, 60, .inl fun k : Nat => iI (wM (k : Int)))) (hA541 : S.1 541 = .inl (.int, 60, .inl fun k : Nat => iI (wH (k : Int)))) (hA542 : S.1 542 = .inl (.int, 60, .inl fun k : Nat => iI (wS (k : Int)))) (hA543 : S.1 543 = .inl (.int, 1800, .inl fun k : Nat => iI (sO (k : Int)))) (hA544 : S.1 544 = .inl (.int, 1800, .inl fun k : Nat => iI (sN (k : Int)))) (hA545 : S.1 545 = .inl (.long, 480, .inr (.inl fun k : Nat => eP (k : Int)))) (hA546 : S.1 546 = .inl (.int, 480, .inl fun k : Nat => iI (eH (k : Int)))) (hA547 : S.1 547 = .inl (.int, 240, .inl fun k : Nat => iI (hK (k : Int)))) (hlen0 : o 1 = len) (hl : 0 ≤ len ∧ len ≤ 2000) (htp : ∀ k, 0 ≤ k → k < len → tp k = tb k ∧ -128 ≤ tb k ∧ tb k ≤ 127) (hX : X_TxE tb len n so pl ct E) (hct : ∀ i, 0 ≤ i → i < n → so i = 6 → ¬ ct i = 0) (hnd : (0 ≤ o 10 ∧ o 10 ≤ 999999999) ∧ 0 ≤ o 11 ∧ o 11 ≤ 2000) (hb : 0 ≤ o 4 ∧ o 4 ≤ 1) (hOk : X_Kok KO) (hO4 : X_K4 KO) (hO : R_bk (o 4) KO rN kN tg kU wR wL wK wM wH wS sO sN eP eH hK) : X_T sc 162 (0, [(0, .ref 530)], [], S) (fun v S' => (∃ (at1 : Int) (en1 : Int) (tk1 : Int) (nu1 : Int) (dg1 : Int) (nm1 : Int64) (g1 : Int) (K2 : X_Kp) (rN1 : Int → Int64) (kN1 : Int → Int64) (tg1 : Int → Int) (kU1 : Int → Int) (wR1 : Int → Int) (wL1 : Int → Int) (wK1 : Int → Int) (wM1 : Int → Int) (wH1 : Int → Int) (wS1 : Int → Int) (sO1 : Int → Int) (sN1 : Int → Int) (eP1 : Int → Int64) (eH1 : Int → Int) (hK1 : Int → Int) (tx1 : Int → Int) (ib1 : Int → Int), v = some (.int (iI K2.2.2.2.1)) ∧ sp_lines n so ct 2001 (0, 0, 1, 0, rn0, lo0, X_ug kn0 0 (Int64.ofNat 6384748), X_ug ab0 0 1, D0, W0) = some K2 ∧ X_Kok K2 ∧ X_K4 K2 ∧ R_bk (1 - o 4) K2 rN1 kN1 tg1 kU1 wR1 wL1 wK1 wM1 wH1 wS1 sO1 sN1 eP1 eH1 hK1 ∧ (∀ k, 0 ≤ k → k < 30 → ib1 k = 0) ∧ ((0 ≤ nu1 ∧ nu1 ≤ 999999999) ∧ 0 ≤ dg1 ∧ dg1 ≤ 2000) ∧ M_o S' (X_ou (X_ou (X_ou (X_ou (X_ou (X_ou (X_ou (X_ou (X_ou (X_ou (X_ou (X_ou (X_ou (X_ou (X_ou (X_ou (X_ou (X_ou (X_ou o 1 0) 3 (o 1)) 4 (1 - o 4)) 5 0) 6 g1) 7 at1) 8 en1) 9 tk1) 10 nu1) 11 dg1) 28 K2.2.1) 29 K2.2.2.1) 30 K2.2.2.2.1) 31 K2.2.1) 32 K2.2.2.1) 33 K2.2.2.2.1) 38 0) 49 0) 68 0) nm1 ∧ S'.1 533 = .inl (.long, 24, .inr (.inl fun k : Nat => rN1 (k : Int))) ∧ S'.1 534 = .inl (.long, 22, .inr (.inl fun k : Nat => kN1 (k : Int))) ∧ S'.1 535 = .inl (.boolean, 288, .inl fun k : Nat => iI (tg1 (k : Int))) ∧ S'.1 536 = .inl (.int, 22, .inl fun k : Nat => iI (kU1 (k : Int))) ∧ S'.1 537 = .inl (.int, 60, .inl fun k : Nat => iI (wR1 (k : Int))) ∧ S'.1 538 = .inl (.int, 60, .inl fun k : Nat => iI (wL1 (k : Int))) ∧ S'.1 539 = .inl (.int, 60, .inl fun k : Nat => iI (wK1 (k : Int))) ∧ S'.1 540 = .inl (.int, 60, .inl fun k : Nat => iI (wM1 (k : Int))) ∧ S'.1 541 = .inl (.int, 60, .inl fun k : Nat => iI (wH1 (k : Int))) ∧ S'.1 542 = .inl (.int, 60, .inl fun k : Nat => iI (wS1 (k : Int))) ∧ S'.1 543 = .inl (.int, 1800, .inl fun k : Nat => iI (sO1 (k : Int))) ∧ S'.1 544 = .inl (.int, 1800, .inl fun k : Nat => iI (sN1 (k : Int))) ∧ S'.1 545 = .inl (.long, 480, .inr (.inl fun k : Nat => eP1 (k : Int))) ∧ S'.1 546 = .inl (.int, 480, .inl fun k : Nat => iI (eH1 (k : Int))) ∧ S'.1 547 = .inl (.int, 240, .inl fun k : Nat => iI (hK1 (k : Int))) ∧ S'.1 532 = .inl (.byte, 2000, .inl fun k : Nat => iI (tx1 (k : Int))) ∧ S'.1 574 = .inl (.boolean, 30, .inl fun k : Nat => iI (ib1 (k : Int))) ∧ (X_Fr (fun q => q = 530 ∨ q = 533 ∨ q = 534 ∨ q = 535 ∨ q = 536 ∨ q = 537 ∨ q = 538 ∨ q = 539 ∨ q = 540 ∨ q = 541 ∨ q = 542 ∨ q = 543 ∨ q = 544 ∨ q = 545 ∨ q = 546 ∨ q = 547 ∨ q = 532 ∨ q = 574) S S')) ∨ (∃ (at1 : Int) (en1 : Int) (tk1 : Int) (nu1 : Int) (dg1 : Int) (nm1 : Int64) (f1 : Int) (g1 : Int) (rN1 : Int → Int64) (kN1 : Int → Int64) (tg1 : Int → Int) (kU1 : Int → Int) (wR1 : Int → Int) (wL1 : Int → Int) (wK1 : Int → Int) (wM1 : Int → Int) (wH1 : Int → Int) (wS1 : Int → Int) (sO1 : Int → Int) (sN1 : Int → Int) (eP1 : Int → Int64) (eH1 : Int → Int) (hK1 : Int → Int) (tx1 : Int → Int), v = some (.int (iI (-1))) ∧ sp_lines n so ct 2001 (0, 0, 1, 0, rn0, lo0, X_ug kn0 0 (Int64.ofNat 6384748), X_ug ab0 0 1, D0, W0) = none ∧ R_bk (o 4) KO rN1 kN1 tg1 kU1 wR1 wL1 wK1 wM1 wH1 wS1 sO1 sN1 eP1 eH1 hK1 ∧ ((0 ≤ nu1 ∧ nu1 ≤ 999999999) ∧ 0 ≤ dg1 ∧ dg1 ≤ 2000) ∧ M_o S' (X_ou (X_ou (X_ou (X_ou (X_ou (X_ou (X_ou (X_ou (X_ou (X_ou (X_ou (X_ou o 1 0) 3 (o 1)) 5 f1) 6 g1) 7 at1) 8 en1) 9 tk1) 10 nu1) 11 dg1) 28 (o 31)) 29 (o 32)) 30 (o 33)) nm1 ∧ S'.1 533 = .inl (.long, 24, .inr (.inl fun k : Nat => rN1 (k : Int))) ∧ S'.1 534 = .inl (.long, 22, .inr (.inl fun k : Nat => kN1 (k : Int))) ∧ S'.1 535 = .inl (.boolean, 288, .inl fun k : Nat => iI (tg1 (k : Int))) ∧ S'.1 536 = .inl (.int, 22, .inl fun k : Nat => iI (kU1 (k : Int))) ∧ S'.1 537 = .inl (.int, 60, .inl fun k : Nat => iI (wR1 (k : Int))) ∧ S'.1 538 = .inl (.int, 60, .inl fun k : Nat => iI (wL1 (k : Int))) ∧ S'.1 539 = .inl (.int, 60, .inl fun k : Nat => iI (wK1 (k : Int))) ∧ S'.1 540 = .inl (.int, 60, .inl fun k : Nat => iI (wM1 (k : Int))) ∧ S'.1 541 = .inl (.int, 60, .inl fun k : Nat => iI (wH1 (k : Int))) ∧ S'.1 542 = .inl (.int, 60, .inl fun k : Nat => iI (wS1 (k : Int))) ∧ S'.1 543 = .inl (.int, 1800, .inl fun k : Nat => iI (sO1 (k : Int))) ∧ S'.1 544 = .inl (.int, 1800, .inl fun k : Nat => iI (sN1 (k : Int))) ∧ S'.1 545 = .inl (.long, 480, .inr (.inl fun k : Nat => eP1 (k : Int))) ∧ S'.1 546 = .inl (.int, 480, .inl fun k : Nat => iI (eH1 (k : Int))) ∧ S'.1 547 = .inl (.int, 240, .inl fun k : Nat => iI (hK1 (k : Int))) ∧ S'.1 532 = .inl (.byte, 2000, .inl fun k : Nat => iI (tx1 (k : Int))) ∧ (X_Fr (fun q => q = 530 ∨ q = 533 ∨ q = 534 ∨ q = 535 ∨ q = 536 ∨ q = 537 ∨ q = 538 ∨ q = 539 ∨ q = 540 ∨ q = 541 ∨ q = 542 ∨ q = 543 ∨ q = 544 ∨ q = 545 ∨ q = 546 ∨ q = 547 ∨ q = 532) S S'))) := by
  refine X_QI (fun Q hQ => ?_)
  refine T_p xr_162_0 xn_162 (pc' := 1) (ls' := [(0, .ref 530)]) (st' := [.ref 530]) rfl ?_
  refine T_p xr_162_1 xn_162 (pc' := 2) (ls' := [(0, .ref 530)]) (st' := [.int (iI 0), .ref 530]) rfl ?_
  refine T_put xr_162_2 hM rfl (Nat.le_of_ble_eq_true rfl) rfl (fs' := [.ref 531, .int (iI (o 1)), .ref 532, .int (iI (o 3)), .int (iI (o 4)), .int (iI 0), .int (iI (o 6)), .int (iI (o 7)), .int (iI (o 8)), .int (iI (o 9)), .int (iI (o 10)), .int (iI (o 11)), .long nm, .ref 533, .ref 534, .ref 535, .ref 536, .ref 537, .ref 538, .ref 539, .ref 540, .ref 541, .ref 542, .ref 543, .ref 544, .ref 545, .ref 546, .ref 547, .int (iI (o 28)), .int (iI (o 29)), .int (iI (o 30)), .int (iI (o 31)), .int (iI (o 32)), .int (iI (o 33)), .ref 548, .ref 549, .ref 550, .ref 551, .int (iI (o 38)), .ref 552, .ref 553, .ref 554, .ref 555, .ref 556, .ref 557, .ref 558, .ref 559, .ref 560, .ref 561, .int (iI (o 49)), .ref 562, .ref 563, .ref 564, .ref 565, .ref 566, .ref 567, .ref 568, .ref 569, .int (iI (o 58)), .ref 570, .ref 571, .ref 572, .ref 573, .ref 574, .ref 575, .ref 576, .ref 577, .ref 578, .int (iI (o 68)), .int (iI (o 69)), .int (iI (o 70)), .ref 579]) rfl (pc' := 5) rfl (fun S4894 h4895 n4896 e4897 => ?_)
  refine T_p xr_162_5 xn_162 (pc' := 6) (ls' := [(0, .ref 530)]) (st' := [.ref 530]) rfl ?_
  refine T_p xr_162_6 xn_162 (pc' := 7) (ls' := [(0, .ref 530)]) (st' := [.int (iI (-1)), .ref 530]) rfl ?_
  refine T_put xr_162_7 h4895 rfl (Nat.le_of_ble_eq_true rfl) rfl (fs' := [.ref 531, .int (iI (o 1)), .ref 532, .int (iI (o 3)), .int (iI (o 4)), .int (iI 0), .int (iI (-1)), .int (iI (o 7)), .int (iI (o 8)), .int (iI (o 9)), .int (iI (o 10)), .int (iI (o 11)), .long nm, .ref 533, .ref 534, .ref 535, .ref 536, .ref 537, .ref 538, .ref 539, .ref 540, .ref 541, .ref 542, .ref 543, .ref 544, .ref 545, .ref 546, .ref 547, .int (iI (o 28)), .int (iI (o 29)), .int (iI (o 30)), .int (iI (o 31)), .int (iI (o 32)), .int (iI (o 33)), .ref 548, .ref 549, .ref 550, .ref 551, .int (iI (o 38)), .ref 552, .ref 553, .ref 554, .ref 555, .ref 556, .ref 557, .ref 558, .ref 559, .ref 560, .ref 561, .int (iI (o 49)), .ref 562, .ref 563, .ref 564, .ref 565, .ref 566, .ref 567, .ref 568, .ref 569, .int (iI (o 58)), .ref 570, .ref 571, .ref 572, .ref 573, .ref 574, .ref 575, .ref 576, .ref 577, .ref 578, .int (iI (o 68)), .int (iI (o 69)), .int (iI (o 70)), .ref 579]) rfl (pc' := 10) rfl (fun S4898 h4899 n4900 e4901 => ?_)
  refine T_p xr_162_10 xn_162 (pc' := 11) (ls' := [(0, .ref 530)]) (st' := [.ref 530]) rfl ?_
  refine T_p xr_162_11 xn_162 (pc' := 12) (ls' := [(0, .ref 530)]) (st' := [.ref 530, .ref 530]) rfl ?_
  refine T_get xr_162_12 h4899 rfl (v := .int (iI (o 1))) rfl (pc' := 15) rfl ?_
  refine T_put xr_162_15 h4899 rfl (Nat.le_of_ble_eq_true rfl) rfl (fs' := [.ref 531, .int (iI (o 1)), .ref 532, .int (iI (o 1)), .int (iI (o 4)), .int (iI 0), .int (iI (-1)), .int (iI (o 7)), .int (iI (o 8)), .int (iI (o 9)), .int (iI (o 10)), .int (iI (o 11)), .long nm, .ref 533, .ref 534, .ref 535, .ref 536, .ref 537, .ref 538, .ref 539, .ref 540, .ref 541, .ref 542, .ref 543, .ref 544, .ref 545, .ref 546, .ref 547, .int (iI (o 28)), .int (iI (o 29)), .int (iI (o 30)), .int (iI (o 31)), .int (iI (o 32)), .int (iI (o 33)), .ref 548, .ref 549, .ref 550, .ref 551, .int (iI (o 38)), .ref 552, .ref 553, .ref 554, .ref 555, .ref 556, .ref 557, .ref 558, .ref 559, .ref 560, .ref 561, .int (iI (o 49)), .ref 562, .ref 563, .ref 564, .ref 565, .ref 566, .ref 567, .ref 568, .ref 569, .int (iI (o 58)), .ref 570, .ref 571, .ref 572, .ref 573, .ref 574, .ref 575, .ref 576, .ref 577, .ref 578, .int (iI (o 68)), .int (iI (o 69)), .int (iI (o 70)), .ref 579]) rfl (pc' := 18) rfl (fun S4902 h4903 n4904 e4905 => ?_)
  refine T_p xr_162_18 xn_162 (pc' := 19) (ls' := [(0, .ref 530)]) (st' := [.int (iI 0)]) rfl ?_
  refine T_p xr_162_19 xn_162 (pc' := 20) (ls' := [(1, .int (iI 0)), (0, .ref 530)]) (st' := []) rfl ?_
  have h4911 := (n4904 532 (by decide)).trans ((n4900 532 (by decide)).trans ((n4896 532 (by decide)).trans (hA532)))
  have L4906 : ∀ (m4908 : Nat) (S4912 : X_S) (k : Int) (tx1 : Int → Int) (htx1 : S4912.1 532 = .inl (.byte, 2000, .inl fun k : Nat => iI (tx1 (k : Int)))) (hF4910 : X_Fr (fun q => q = 532) S4902 S4912) (hk : 0 ≤ k ∧ k ≤ len) (htx : ∀ i, 0 ≤ i → i < k → tx1 i = tb i) (hm4909 : len - k < m4908), X_T sc 162 (20, [(1, .int (iI k)), (0, .ref 530)], [], S4912) Q := by
    intro m4908
    induction m4908 with
    | zero =>
      intro S4912 k tx1 htx1 hF4910 hk htx hm4909
      exact (show False by omega).elim
    | succ m4908 ih4907 =>
      intro S4912 k tx1 htx1 hF4910 hk htx hm4909
      refine T_p xr_162_20 xn_162 (pc' := 21) (ls' := [(1, .int (iI k)), (0, .ref 530)]) (st' := [.int (iI k)]) rfl ?_
      refine T_p xr_162_21 xn_162 (pc' := 22) (ls' := [(1, .int (iI k)), (0, .ref 530)]) (st' := [.ref 530, .int (iI k)]) rfl ?_
      have h4913 := (hF4910.1 530 (by omega)).trans (h4903)
      refine T_get xr_162_22 h4913 rfl (v := .int (iI (o 1))) rfl (pc' := 25) rfl ?_
      refine T_zicmp_ge xr_162_25 (t := 46) (pc' := 28) rfl rfl (fun c4914 => ?_) (fun c4914 => ?_)
      · skip
        have c4914 : (o 1) ≤ k := c4914
        refine T_p xr_162_46 xn_162 (pc' := 47) (ls' := [(1, .int (iI k)), (0, .ref 530)]) (st' := [.ref 530]) rfl ?_
        refine T_p xr_162_47 xn_162 (pc' := 48) (ls' := [(1, .int (iI k)), (0, .ref 530)]) (st' := [.int (iI 0), .ref 530]) rfl ?_
        refine T_put xr_162_48 h4913 rfl (Nat.le_of_ble_eq_true rfl) rfl (fs' := [.ref 531, .int (iI 0), .ref 532, .int (iI (o 1)), .int (iI (o 4)), .int (iI 0), .int (iI (-1)), .int (iI (o 7)), .int (iI (o 8)), .int (iI (o 9)), .int (iI (o 10)), .int (iI (o 11)), .long nm, .ref 533, .ref 534, .ref 535, .ref 536, .ref 537, .ref 538, .ref 539, .ref 540, .ref 541, .ref 542, .ref 543, .ref 544, .ref 545, .ref 546, .ref 547, .int (iI (o 28)), .int (iI (o 29)), .int (iI (o 30)), .int (iI (o 31)), .int (iI (o 32)), .int (iI (o 33)), .ref 548, .ref 549, .ref 550, .ref 551, .int (iI (o 38)), .ref 552, .ref 553, .ref 554, .ref 555, .ref 556, .ref 557, .ref 558, .ref 559, .ref 560, .ref 561, .int (iI (o 49)), .ref 562, .ref 563, .ref 564, .ref 565, .ref 566, .ref 567, .ref 568, .ref 569, .int (iI (o 58)), .ref 570, .ref 571, .ref 572, .ref 573, .ref 574, .ref 575, .ref 576, .ref 577, .ref 578, .int (iI (o 68)), .int (iI (o 69)), .int (iI (o 70)), .ref 579]) rfl (pc' := 51) rfl (fun S4915 h4916 n4917 e4918 => ?_)
        refine T_p xr_162_51 xn_162 (pc' := 52) (ls' := [(1, .int (iI k)), (0, .ref 530)]) (st' := [.ref 530]) rfl ?_
        refine T_p xr_162_52 xn_162 (pc' := 53) (ls' := [(1, .int (iI k)), (0, .ref 530)]) (st' := [.int (iI 0), .ref 530]) rfl ?_
        refine T_put xr_162_53 h4916 rfl (Nat.le_of_ble_eq_true rfl) rfl (fs' := [.ref 531, .int (iI 0), .ref 532, .int (iI (o 1)), .int (iI (o 4)), .int (iI 0), .int (iI (-1)), .int (iI (o 7)), .int (iI 0), .int (iI (o 9)), .int (iI (o 10)), .int (iI (o 11)), .long nm, .ref 533, .ref 534, .ref 535, .ref 536, .ref 537, .ref 538, .ref 539, .ref 540, .ref 541, .ref 542, .ref 543, .ref 544, .ref 545, .ref 546, .ref 547, .int (iI (o 28)), .int (iI (o 29)), .int (iI (o 30)), .int (iI (o 31)), .int (iI (o 32)), .int (iI (o 33)), .ref 548, .ref 549, .ref 550, .ref 551, .int (iI (o 38)), .ref 552, .ref 553, .ref 554, .ref 555, .ref 556, .ref 557, .ref 558, .ref 559, .ref 560, .ref 561, .int (iI (o 49)), .ref 562, .ref 563, .ref 564, .ref 565, .ref 566, .ref 567, .ref 568, .ref 569, .int (iI (o 58)), .ref 570, .ref 571, .ref 572, .ref 573, .ref 574, .ref 575, .ref 576, .ref 577, .ref 578, .int (iI (o 68)), .int (iI (o 69)), .int (iI (o 70)), .ref 579]) rfl (pc' := 56) rfl (fun S4919 h4920 n4921 e4922 => ?_)
        refine T_p xr_162_56 xn_162 (pc' := 57) (ls' := [(1, .int (iI k)), (0, .ref 530)]) (st' := [.ref 530]) rfl ?_
        refine T_p xr_162_57 xn_162 (pc' := 58) (ls' := [(1, .int (iI k)), (0, .ref 530)]) (st' := [.int (iI 1), .ref 530]) rfl ?_
        refine T_p xr_162_58 xn_162 (pc' := 59) (ls' := [(1, .int (iI k)), (0, .ref 530)]) (st' := [.ref 530, .int (iI 1), .ref 530]) rfl ?_
        refine T_get xr_162_59 h4920 rfl (v := .int (iI (o 4))) rfl (pc' := 62) rfl ?_
        refine T_zisub xr_162_62 (z := 1 - (o 4)) rfl (pc' := 63) rfl ?_
        obtain ⟨b1, hb1⟩ : ∃ z : Int, z = 1 - o 4 := ⟨_, rfl⟩
        have hbb : 0 ≤ o 4 ∧ o 4 ≤ 1 ∧ 0 ≤ b1 ∧ b1 ≤ 1 ∧ ¬ o 4 = b1 := by omega
        refine T_ie (y := iI b1) (by rw [hb1]) ?_
        refine T_put xr_162_63 h4920 rfl (Nat.le_of_ble_eq_true rfl) rfl (fs' := [.ref 531, .int (iI 0), .ref 532, .int (iI (o 1)), .int (iI b1), .int (iI 0), .int (iI (-1)), .int (iI (o 7)), .int (iI 0), .int (iI (o 9)), .int (iI (o 10)), .int (iI (o 11)), .long nm, .ref 533, .ref 534, .ref 535, .ref 536, .ref 537, .ref 538, .ref 539, .ref 540, .ref 541, .ref 542, .ref 543, .ref 544, .ref 545, .ref 546, .ref 547, .int (iI (o 28)), .int (iI (o 29)), .int (iI (o 30)), .int (iI (o 31)), .int (iI (o 32)), .int (iI (o 33)), .ref 548, .ref 549, .ref 550, .ref 551, .int (iI (o 38)), .ref 552, .ref 553, .ref 554, .ref 555, .ref 556, .ref 557, .ref 558, .ref 559, .ref 560, .ref 561, .int (iI (o 49)), .ref 562, .ref 563, .ref 564, .ref 565, .ref 566, .ref 567, .ref 568, .ref 569, .int (iI (o 58)), .ref 570, .ref 571, .ref 572, .ref 573, .ref 574, .ref 575, .ref 576, .ref 577, .ref 578, .int (iI (o 68)), .int (iI (o 69)), .int (iI (o 70)), .ref 579]) rfl (pc' := 66) rfl (fun S4923 h4924 n4925 e4926 => ?_)
        refine T_p xr_162_66 xn_162 (pc' := 67) (ls' := [(1, .int (iI k)), (0, .ref 530)]) (st' := [.ref 530]) rfl ?_
        refine T_p xr_162_67 xn_162 (pc' := 68) (ls' := [(1, .int (iI k)), (0, .ref 530)]) (st' := [.int (iI 0), .ref 530]) rfl ?_
        refine T_put xr_162_68 h4924 rfl (Nat.le_of_ble_eq_true rfl) rfl (fs' := [.ref 531, .int (iI 0), .ref 532, .int (iI (o 1)), .int (iI b1), .int (iI 0), .int (iI (-1)), .int (iI (o 7)), .int (iI 0), .int (iI (o 9)), .int (iI (o 10)), .int (iI (o 11)), .long nm, .ref 533, .ref 534, .ref 535, .ref 536, .ref 537, .ref 538, .ref 539, .ref 540, .ref 541, .ref 542, .ref 543, .ref 544, .ref 545, .ref 546, .ref 547, .int (iI 0), .int (iI (o 29)), .int (iI (o 30)), .int (iI (o 31)), .int (iI (o 32)), .int (iI (o 33)), .ref 548, .ref 549, .ref 550, .ref 551, .int (iI (o 38)), .ref 552, .ref 553, .ref 554, .ref 555, .ref 556, .ref 557, .ref 558, .ref 559, .ref 560, .ref 561, .int (iI (o 49)), .ref 562, .ref 563, .ref 564, .ref 565, .ref 566, .ref 567, .ref 568, .ref 569, .int (iI (o 58)), .ref 570, .ref 571, .ref 572, .ref 573, .ref 574, .ref 575, .ref 576, .ref 577, .ref 578, .int (iI (o 68)), .int (iI (o 69)), .int (iI (o 70)), .ref 579]) rfl (pc' := 71) rfl (fun S4927 h4928 n4929 e4930 => ?_)
        refine T_p xr_162_71 xn_162 (pc' := 72) (ls' := [(1, .int (iI k)), (0, .ref 530)]) (st' := [.ref 530]) rfl ?_
        refine T_p xr_162_72 xn_162 (pc' := 73) (ls' := [(1, .int (iI k)), (0, .ref 530)]) (st' := [.int (iI 0), .ref 530]) rfl ?_
        refine T_put xr_162_73 h4928 rfl (Nat.le_of_ble_eq_true rfl) rfl (fs' := [.ref 531, .int (iI 0), .ref 532, .int (iI (o 1)), .int (iI b1), .int (iI 0), .int (iI (-1)), .int (iI (o 7)), .int (iI 0), .int (iI (o 9)), .int (iI (o 10)), .int (iI (o 11)), .long nm, .ref 533, .ref 534, .ref 535, .ref 536, .ref 537, .ref 538, .ref 539, .ref 540, .ref 541, .ref 542, .ref 543, .ref 544, .ref 545, .ref 546, .ref 547, .int (iI 0), .int (iI (o 29)), .int (iI 0), .int (iI (o 31)), .int (iI (o 32)), .int (iI (o 33)), .ref 548, .ref 549, .ref 550, .ref 551, .int (iI (o 38)), .ref 552, .ref 553, .ref 554, .ref 555, .ref 556, .ref 557, .ref 558, .ref 559, .ref 560, .ref 561, .int (iI (o 49)), .ref 562, .ref 563, .ref 564, .ref 565, .ref 566, .ref 567, .ref 568, .ref 569, .int (iI (o 58)), .ref 570, .ref 571, .ref 572, .ref 573, .ref 574, .ref 575, .ref 576, .ref 577, .ref 578, .int (iI (o 68)), .int (iI (o 69)), .int (iI (o 70)), .ref 579]) rfl (pc' := 76) rfl (fun S4931 h4932 n4933 e4934 => ?_)
        refine T_p xr_162_76 xn_162 (pc' := 77) (ls' := [(1, .int (iI k)), (0, .ref 530)]) (st' := [.ref 530]) rfl ?_
        refine T_p xr_162_77 xn_162 (pc' := 78) (ls' := [(1, .int (iI k)), (0, .ref 530)]) (st' := [.int (iI 1), .ref 530]) rfl ?_
        refine T_put xr_162_78 h4932 rfl (Nat.le_of_ble_eq_true rfl) rfl (fs' := [.ref 531, .int (iI 0), .ref 532, .int (iI (o 1)), .int (iI b1), .int (iI 0), .int (iI (-1)), .int (iI (o 7)), .int (iI 0), .int (iI (o 9)), .int (iI (o 10)), .int (iI (o 11)), .long nm, .ref 533, .ref 534, .ref 535, .ref 536, .ref 537, .ref 538, .ref 539, .ref 540, .ref 541, .ref 542, .ref 543, .ref 544, .ref 545, .ref 546, .ref 547, .int (iI 0), .int (iI 1), .int (iI 0), .int (iI (o 31)), .int (iI (o 32)), .int (iI (o 33)), .ref 548, .ref 549, .ref 550, .ref 551, .int (iI (o 38)), .ref 552, .ref 553, .ref 554, .ref 555, .ref 556, .ref 557, .ref 558, .ref 559, .ref 560, .ref 561, .int (iI (o 49)), .ref 562, .ref 563, .ref 564, .ref 565, .ref 566, .ref 567, .ref 568, .ref 569, .int (iI (o 58)), .ref 570, .ref 571, .ref 572, .ref 573, .ref 574, .ref 575, .ref 576, .ref 577, .ref 578, .int (iI (o 68)), .int (iI (o 69)), .int (iI (o 70)), .ref 579]) rfl (pc' := 81) rfl (fun S4935 h4936 n4937 e4938 => ?_)
        refine T_p xr_162_81 xn_162 (pc' := 82) (ls' := [(1, .int (iI k)), (0, .ref 530)]) (st' := [.ref 530]) rfl ?_
        refine T_get xr_162_82 h4936 rfl (v := .ref 534) rfl (pc' := 85) rfl ?_
        refine T_p xr_162_85 xn_162 (pc' := 87) (ls' := [(1, .int (iI k)), (0, .ref 530)]) (st' := [.int (iI 11), .ref 534]) rfl ?_
        refine T_p xr_162_87 xn_162 (pc' := 88) (ls' := [(1, .int (iI k)), (0, .ref 530)]) (st' := [.ref 530, .int (iI 11), .ref 534]) rfl ?_
        refine T_get xr_162_88 h4936 rfl (v := .int (iI b1)) rfl (pc' := 91) rfl ?_
        refine T_zimul xr_162_91 (z := 11 * b1) rfl (pc' := 92) rfl ?_
        refine T_p xr_162_92 xn_162 (pc' := 95) (ls' := [(1, .int (iI k)), (0, .ref 530)]) (st' := [.long (Int64.ofNat 6384748), .int (iI (11 * b1)), .ref 534]) rfl ?_
        have h4939 := (n4937 534 (by decide)).trans ((n4933 534 (by decide)).trans ((n4929 534 (by decide)).trans ((n4925 534 (by decide)).trans ((n4921 534 (by decide)).trans ((n4917 534 (by decide)).trans ((hF4910.1 534 (by omega)).trans ((n4904 534 (by decide)).trans ((n4900 534 (by decide)).trans ((n4896 534 (by decide)).trans (hA534))))))))))
        refine T_zlast xr_162_95 h4939 (pc' := 96) rfl (fun S4940 h4941 n4942 e4943 => ?_)
        refine T_p xr_162_96 xn_162 (pc' := 97) (ls' := [(1, .int (iI k)), (0, .ref 530)]) (st' := [.ref 530]) rfl ?_
        have h4944 := (n4942 530 (by decide)).trans (h4936)
        refine T_get xr_162_97 h4944 rfl (v := .ref 536) rfl (pc' := 100) rfl ?_
        refine T_p xr_162_100 xn_162 (pc' := 102) (ls' := [(1, .int (iI k)), (0, .ref 530)]) (st' := [.int (iI 11), .ref 536]) rfl ?_
        refine T_p xr_162_102 xn_162 (pc' := 103) (ls' := [(1, .int (iI k)), (0, .ref 530)]) (st' := [.ref 530, .int (iI 11), .ref 536]) rfl ?_
        refine T_get xr_162_103 h4944 rfl (v := .int (iI b1)) rfl (pc' := 106) rfl ?_
        refine T_zimul xr_162_106 (z := 11 * b1) rfl (pc' := 107) rfl ?_
        refine T_p xr_162_107 xn_162 (pc' := 108) (ls' := [(1, .int (iI k)), (0, .ref 530)]) (st' := [.int (iI (-1)), .int (iI (11 * b1)), .ref 536]) rfl ?_
        have h4945 := (n4942 536 (by decide)).trans ((n4937 536 (by decide)).trans ((n4933 536 (by decide)).trans ((n4929 536 (by decide)).trans ((n4925 536 (by decide)).trans ((n4921 536 (by decide)).trans ((n4917 536 (by decide)).trans ((hF4910.1 536 (by omega)).trans ((n4904 536 (by decide)).trans ((n4900 536 (by decide)).trans ((n4896 536 (by decide)).trans (hA536)))))))))))
        refine T_ziast xr_162_108 h4945 (pc' := 109) rfl (fun S4946 h4947 n4948 e4949 => ?_)
        refine T_p xr_162_109 xn_162 (pc' := 110) (ls' := [(1, .int (iI k)), (0, .ref 530)]) (st' := [.ref 530]) rfl ?_
        have h4950 := (n4948 530 (by decide)).trans (h4944)
        refine T_cv (S := S4946) (q := 530) xr_162_110 xf_141.1 xf_141.2.1 xn_141 (as := []) (r := []) rfl h4950 (Nat.le_of_ble_eq_true rfl) (Nat.le_of_ble_eq_true rfl) (pc' := 113) rfl (ls' := [(0, .ref 530)]) rfl ?_
        have h4951 := (n4948 532 (by decide)).trans ((n4942 532 (by decide)).trans ((n4937 532 (by decide)).trans ((n4933 532 (by decide)).trans ((n4929 532 (by decide)).trans ((n4925 532 (by decide)).trans ((n4921 532 (by decide)).trans ((n4917 532 (by decide)).trans (htx1))))))))
        refine T_mono (r_nx0 sc S4946 (X_ou (X_ou (X_ou (X_ou (X_ou (X_ou (X_ou (X_ou (X_ou o 1 0) 3 (o 1)) 4 b1) 5 0) 6 (-1)) 8 0) 28 0) 29 1) 30 0) nm tx1 tb len n so pl ct E h4950 h4951 (show (o 1) = len from by first | assumption | omega) hl htx hX (show 0 = 0 from by omega) (show (0 ≤ (o 10) ∧ (o 10) ≤ 999999999) ∧ 0 ≤ (o 11) ∧ (o 11) ≤ 2000 from by omega)) (fun v4952 S4953 h4954 => ?_)
        rcases h4954 with ⟨at4955, en4956, tk4957, nu4958, dg4959, nm4960, hv4961, hp4962, hM4963, hf4964⟩
        rw [hv4961]
        have h4965 : S4953.1 530 = .inr (11, [.ref 531, .int (iI 0), .ref 532, .int (iI (o 1)), .int (iI b1), .int (iI 0), .int (iI (-1)), .int (iI at4955), .int (iI en4956), .int (iI tk4957), .int (iI nu4958), .int (iI dg4959), .long nm4960, .ref 533, .ref 534, .ref 535, .ref 536, .ref 537, .ref 538, .ref 539, .ref 540, .ref 541, .ref 542, .ref 543, .ref 544, .ref 545, .ref 546, .ref 547, .int (iI 0), .int (iI 1), .int (iI 0), .int (iI (o 31)), .int (iI (o 32)), .int (iI (o 33)), .ref 548, .ref 549, .ref 550, .ref 551, .int (iI (o 38)), .ref 552, .ref 553, .ref 554, .ref 555, .ref 556, .ref 557, .ref 558, .ref 559, .ref 560, .ref 561, .int (iI (o 49)), .ref 562, .ref 563, .ref 564, .ref 565, .ref 566, .ref 567, .ref 568, .ref 569, .int (iI (o 58)), .ref 570, .ref 571, .ref 572, .ref 573, .ref 574, .ref 575, .ref 576, .ref 577, .ref 578, .int (iI (o 68)), .int (iI (o 69)), .int (iI (o 70)), .ref 579]) := hM4963
        obtain ⟨⟨_, _⟩, ⟨_, _⟩, hk4966, ⟨_, _⟩, hk4966e, ⟨_, _⟩, ⟨_, _⟩⟩ := R_tk_f hX hp4962
        show X_T sc 162 (113, [(1, .int (iI k)), (0, .ref 530)], [], S4953) _
        have h4972 := (hf4964.1 533 (by omega)).trans ((n4948 533 (by decide)).trans ((n4942 533 (by decide)).trans ((n4937 533 (by decide)).trans ((n4933 533 (by decide)).trans ((n4929 533 (by decide)).trans ((n4925 533 (by decide)).trans ((n4921 533 (by decide)).trans ((n4917 533 (by decide)).trans ((hF4910.1 533 (by omega)).trans ((n4904 533 (by decide)).trans ((n4900 533 (by decide)).trans ((n4896 533 (by decide)).trans (hA533)))))))))))))
        have h4973 := (hf4964.1 534 (by omega)).trans ((n4948 534 (by decide)).trans (h4941))
        have h4974 := (hf4964.1 535 (by omega)).trans ((n4948 535 (by decide)).trans ((n4942 535 (by decide)).trans ((n4937 535 (by decide)).trans ((n4933 535 (by decide)).trans ((n4929 535 (by decide)).trans ((n4925 535 (by decide)).trans ((n4921 535 (by decide)).trans ((n4917 535 (by decide)).trans ((hF4910.1 535 (by omega)).trans ((n4904 535 (by decide)).trans ((n4900 535 (by decide)).trans ((n4896 535 (by decide)).trans (hA535)))))))))))))
        have h4975 := (hf4964.1 536 (by omega)).trans (h4947)
        have h4976 := (hf4964.1 537 (by omega)).trans ((n4948 537 (by decide)).trans ((n4942 537 (by decide)).trans ((n4937 537 (by decide)).trans ((n4933 537 (by decide)).trans ((n4929 537 (by decide)).trans ((n4925 537 (by decide)).trans ((n4921 537 (by decide)).trans ((n4917 537 (by decide)).trans ((hF4910.1 537 (by omega)).trans ((n4904 537 (by decide)).trans ((n4900 537 (by decide)).trans ((n4896 537 (by decide)).trans (hA537)))))))))))))
        have h4977 := (hf4964.1 538 (by omega)).trans ((n4948 538 (by decide)).trans ((n4942 538 (by decide)).trans ((n4937 538 (by decide)).trans ((n4933 538 (by decide)).trans ((n4929 538 (by decide)).trans ((n4925 538 (by decide)).trans ((n4921 538 (by decide)).trans ((n4917 538 (by decide)).trans ((hF4910.1 538 (by omega)).trans ((n4904 538 (by decide)).trans ((n4900 538 (by decide)).trans ((n4896 538 (by decide)).trans (hA538)))))))))))))
        have h4978 := (hf4964.1 539 (by omega)).trans ((n4948 539 (by decide)).trans ((n4942 539 (by decide)).trans ((n4937 539 (by decide)).trans ((n4933 539 (by decide)).trans ((n4929 539 (by decide)).trans ((n4925 539 (by decide)).trans ((n4921 539 (by decide)).trans ((n4917 539 (by decide)).trans ((hF4910.1 539 (by omega)).trans ((n4904 539 (by decide)).trans ((n4900 539 (by decide)).trans ((n4896 539 (by decide)).trans (hA539)))))))))))))
        have h4979 := (hf4964.1 540 (by omega)).trans ((n4948 540 (by decide)).trans ((n4942 540 (by decide)).trans ((n4937 540 (by decide)).trans ((n4933 540 (by decide)).trans ((n4929 540 (by decide)).trans ((n4925 540 (by decide)).trans ((n4921 540 (by decide)).trans ((n4917 540 (by decide)).trans ((hF4910.1 540 (by omega)).trans ((n4904 540 (by decide)).trans ((n4900 540 (by decide)).trans ((n4896 540 (by decide)).trans (hA540)))))))))))))
        have h4980 := (hf4964.1 541 (by omega)).trans ((n4948 541 (by decide)).trans ((n4942 541 (by decide)).trans ((n4937 541 (by decide)).trans ((n4933 541 (by decide)).trans ((n4929 541 (by decide)).trans ((n4925 541 (by decide)).trans ((n4921 541 (by decide)).trans ((n4917 541 (by decide)).trans ((hF4910.1 541 (by omega)).trans ((n4904 541 (by decide)).trans ((n4900 541 (by decide)).trans ((n4896 541 (by decide)).trans (hA541)))))))))))))
        have h4981 := (hf4964.1 542 (by omega)).trans ((n4948 542 (by decide)).trans ((n4942 542 (by decide)).trans ((n4937 542 (by decide)).trans ((n4933 542 (by decide)).trans ((n4929 542 (by decide)).trans ((n4925 542 (by decide)).trans ((n4921 542 (by decide)).trans ((n4917 542 (by decide)).trans ((hF4910.1 542 (by omega)).trans ((n4904 542 (by decide)).trans ((n4900 542 (by decide)).trans ((n4896 542 (by decide)).trans (hA542)))))))))))))
        have h4982 := (hf4964.1 543 (by omega)).trans ((n4948 543 (by decide)).trans ((n4942 543 (by decide)).trans ((n4937 543 (by decide)).trans ((n4933 543 (by decide)).trans ((n4929 543 (by decide)).trans ((n4925 543 (by decide)).trans ((n4921 543 (by decide)).trans ((n4917 543 (by decide)).trans ((hF4910.1 543 (by omega)).trans ((n4904 543 (by decide)).trans ((n4900 543 (by decide)).trans ((n4896 543 (by decide)).trans (hA543)))))))))))))
        have h4983 := (hf4964.1 544 (by omega)).trans ((n4948 544 (by decide)).trans ((n4942 544 (by decide)).trans ((n4937 544 (by decide)).trans ((n4933 544 (by decide)).trans ((n4929 544 (by decide)).trans ((n4925 544 (by decide)).trans ((n4921 544 (by decide)).trans ((n4917 544 (by decide)).trans ((hF4910.1 544 (by omega)).trans ((n4904 544 (by decide)).trans ((n4900 544 (by decide)).trans ((n4896 544 (by decide)).trans (hA544)))))))))))))
        have h4984 := (hf4964.1 545 (by omega)).trans ((n4948 545 (by decide)).trans ((n4942 545 (by decide)).trans ((n4937 545 (by decide)).trans ((n4933 545 (by decide)).trans ((n4929 545 (by decide)).trans ((n4925 545 (by decide)).trans ((n4921 545 (by decide)).trans ((n4917 545 (by decide)).trans ((hF4910.1 545 (by omega)).trans ((n4904 545 (by decide)).trans ((n4900 545 (by decide)).trans ((n4896 545 (by decide)).trans (hA545)))))))))))))
        have h4985 := (hf4964.1 546 (by omega)).trans ((n4948 546 (by decide)).trans ((n4942 546 (by decide)).trans ((n4937 546 (by decide)).trans ((n4933 546 (by decide)).trans ((n4929 546 (by decide)).trans ((n4925 546 (by decide)).trans ((n4921 546 (by decide)).trans ((n4917 546 (by decide)).trans ((hF4910.1 546 (by omega)).trans ((n4904 546 (by decide)).trans ((n4900 546 (by decide)).trans ((n4896 546 (by decide)).trans (hA546)))))))))))))
        have h4986 := (hf4964.1 547 (by omega)).trans ((n4948 547 (by decide)).trans ((n4942 547 (by decide)).trans ((n4937 547 (by decide)).trans ((n4933 547 (by decide)).trans ((n4929 547 (by decide)).trans ((n4925 547 (by decide)).trans ((n4921 547 (by decide)).trans ((n4917 547 (by decide)).trans ((hF4910.1 547 (by omega)).trans ((n4904 547 (by decide)).trans ((n4900 547 (by decide)).trans ((n4896 547 (by decide)).trans (hA547)))))))))))))
        have L4967 : ∀ (m4969 : Nat) (S4987 : X_S) (line : Int) (K1 : X_Kp) (f1 : Int) (g1 : Int) (at1 : Int) (en1 : Int) (tk1 : Int) (nu1 : Int) (dg1 : Int) (rc1 : Int) (kc1 : Int) (wc1 : Int) (nm1 : Int64) (rN1 : Int → Int64) (kN1 : Int → Int64) (tg1 : Int → Int) (kU1 : Int → Int) (wR1 : Int → Int) (wL1 : Int → Int) (wK1 : Int → Int) (wM1 : Int → Int) (wH1 : Int → Int) (wS1 : Int → Int) (sO1 : Int → Int) (sN1 : Int → Int) (eP1 : Int → Int64) (eH1 : Int → Int) (hK1 : Int → Int) (hM1 : S4987.1 530 = .inr (11, [.ref 531, .int (iI 0), .ref 532, .int (iI (o 1)), .int (iI b1), .int (iI f1), .int (iI g1), .int (iI at1), .int (iI en1), .int (iI tk1), .int (iI nu1), .int (iI dg1), .long nm1, .ref 533, .ref 534, .ref 535, .ref 536, .ref 537, .ref 538, .ref 539, .ref 540, .ref 541, .ref 542, .ref 543, .ref 544, .ref 545, .ref 546, .ref 547, .int (iI rc1), .int (iI kc1), .int (iI wc1), .int (iI (o 31)), .int (iI (o 32)), .int (iI (o 33)), .ref 548, .ref 549, .ref 550, .ref 551, .int (iI (o 38)), .ref 552, .ref 553, .ref 554, .ref 555, .ref 556, .ref 557, .ref 558, .ref 559, .ref 560, .ref 561, .int (iI (o 49)), .ref 562, .ref 563, .ref 564, .ref 565, .ref 566, .ref 567, .ref 568, .ref 569, .int (iI (o 58)), .ref 570, .ref 571, .ref 572, .ref 573, .ref 574, .ref 575, .ref 576, .ref 577, .ref 578, .int (iI (o 68)), .int (iI (o 69)), .int (iI (o 70)), .ref 579])) (hA533_ : S4987.1 533 = .inl (.long, 24, .inr (.inl fun k : Nat => rN1 (k : Int)))) (hA534_ : S4987.1 534 = .inl (.long, 22, .inr (.inl fun k : Nat => kN1 (k : Int)))) (hA535_ : S4987.1 535 = .inl (.boolean, 288, .inl fun k : Nat => iI (tg1 (k : Int)))) (hA536_ : S4987.1 536 = .inl (.int, 22, .inl fun k : Nat => iI (kU1 (k : Int)))) (hA537_ : S4987.1 537 = .inl (.int, 60, .inl fun k : Nat => iI (wR1 (k : Int)))) (hA538_ : S4987.1 538 = .inl (.int, 60, .inl fun k : Nat => iI (wL1 (k : Int)))) (hA539_ : S4987.1 539 = .inl (.int, 60, .inl fun k : Nat => iI (wK1 (k : Int)))) (hA540_ : S4987.1 540 = .inl (.int, 60, .inl fun k : Nat => iI (wM1 (k : Int)))) (hA541_ : S4987.1 541 = .inl (.int, 60, .inl fun k : Nat => iI (wH1 (k : Int)))) (hA542_ : S4987.1 542 = .inl (.int, 60, .inl fun k : Nat => iI (wS1 (k : Int)))) (hA543_ : S4987.1 543 = .inl (.int, 1800, .inl fun k : Nat => iI (sO1 (k : Int)))) (hA544_ : S4987.1 544 = .inl (.int, 1800, .inl fun k : Nat => iI (sN1 (k : Int)))) (hA545_ : S4987.1 545 = .inl (.long, 480, .inr (.inl fun k : Nat => eP1 (k : Int)))) (hA546_ : S4987.1 546 = .inl (.int, 480, .inl fun k : Nat => iI (eH1 (k : Int)))) (hA547_ : S4987.1 547 = .inl (.int, 240, .inl fun k : Nat => iI (hK1 (k : Int)))) (hF4971 : X_Fr (fun q => q = 530 ∨ (533 ≤ q ∧ q ≤ 547)) S4953 S4987) (hf1 : 0 ≤ f1 ∧ f1 ≤ 5) (hgd : f1 = 0 → R_tk n so pl ct E K1.1 at1 en1 tk1 nu1 dg1 nm1 ∧ sp_lines n so ct (2001 - line).toNat K1 = sp_lines n so ct 2001 (0, 0, 1, 0, rn0, lo0, X_ug kn0 0 (Int64.ofNat 6384748), X_ug ab0 0 1, D0, W0) ∧ X_Kok K1 ∧ X_K4 K1 ∧ R_bk b1 K1 rN1 kN1 tg1 kU1 wR1 wL1 wK1 wM1 wH1 wS1 sO1 sN1 eP1 eH1 hK1 ∧ (rc1 = K1.2.1 ∧ kc1 = K1.2.2.1 ∧ wc1 = K1.2.2.2.1) ∧ (0 ≤ line ∧ line ≤ K1.1)) (hbd : ¬ f1 = 0 → sp_lines n so ct 2001 (0, 0, 1, 0, rn0, lo0, X_ug kn0 0 (Int64.ofNat 6384748), X_ug ab0 0 1, D0, W0) = none) (hO : R_bk (o 4) KO rN1 kN1 tg1 kU1 wR1 wL1 wK1 wM1 wH1 wS1 sO1 sN1 eP1 eH1 hK1) (hm4970 : (if f1 = 0 then ((2002 - line).toNat : Int) else 0) < m4969), X_T sc 162 (113, [(0, .ref 530)], [], S4987) Q := by
          intro m4969
          induction m4969 with
          | zero =>
            intro S4987 line K1 f1 g1 at1 en1 tk1 nu1 dg1 rc1 kc1 wc1 nm1 rN1 kN1 tg1 kU1 wR1 wL1 wK1 wM1 wH1 wS1 sO1 sN1 eP1 eH1 hK1 hM1 hA533_ hA534_ hA535_ hA536_ hA537_ hA538_ hA539_ hA540_ hA541_ hA542_ hA543_ hA544_ hA545_ hA546_ hA547_ hF4971 hf1 hgd hbd hO hm4970
            exact (show False by omega).elim
          | succ m4969 ih4968 =>
            intro S4987 line K1 f1 g1 at1 en1 tk1 nu1 dg1 rc1 kc1 wc1 nm1 rN1 kN1 tg1 kU1 wR1 wL1 wK1 wM1 wH1 wS1 sO1 sN1 eP1 eH1 hK1 hM1 hA533_ hA534_ hA535_ hA536_ hA537_ hA538_ hA539_ hA540_ hA541_ hA542_ hA543_ hA544_ hA545_ hA546_ hA547_ hF4971 hf1 hgd hbd hO hm4970
            refine T_p xr_162_113 xn_162 (pc' := 114) (ls' := [(0, .ref 530)]) (st' := [.ref 530]) rfl ?_
            refine T_cv (S := S4987) (q := 530) xr_162_114 xf_140.1 xf_140.2.1 xn_140 (as := []) (r := []) rfl hM1 (Nat.le_of_ble_eq_true rfl) (Nat.le_of_ble_eq_true rfl) (pc' := 117) rfl (ls' := [(0, .ref 530)]) rfl ?_
            refine T_mono (r_isGood sc S4987 (X_ou (X_ou (X_ou (X_ou (X_ou (X_ou (X_ou (X_ou (X_ou (X_ou (X_ou (X_ou (X_ou o 1 0) 3 (o 1)) 4 b1) 5 f1) 6 g1) 7 at1) 8 en1) 9 tk1) 10 nu1) 11 dg1) 28 rc1) 29 kc1) 30 wc1) nm1 hM1 (show 0 ≤ f1 ∧ f1 ≤ 5 from by omega)) (fun v4988 S4989 h4990 => ?_)
            rcases h4990 with ⟨hv4991, hf4992⟩
            rw [hv4991]
            rw [hf4992]
            show X_T sc 162 (117, [(0, .ref 530)], [.int (iI (bI (f1 = 0)))], S4987) _
            refine T_bif_eq xr_162_117 (t := 330) (pc' := 120) rfl rfl (fun c4993 => ?_) (fun c4993 => ?_)
            · skip
              have c4993 : ¬ (f1 = 0) := c4993
              refine T_p xr_162_330 xn_162 (pc' := 331) (ls' := [(0, .ref 530)]) (st' := [.ref 530]) rfl ?_
              refine T_cv (S := S4987) (q := 530) xr_162_331 xf_140.1 xf_140.2.1 xn_140 (as := []) (r := []) rfl hM1 (Nat.le_of_ble_eq_true rfl) (Nat.le_of_ble_eq_true rfl) (pc' := 334) rfl (ls' := [(0, .ref 530)]) rfl ?_
              refine T_mono (r_isGood sc S4987 (X_ou (X_ou (X_ou (X_ou (X_ou (X_ou (X_ou (X_ou (X_ou (X_ou (X_ou (X_ou (X_ou o 1 0) 3 (o 1)) 4 b1) 5 f1) 6 g1) 7 at1) 8 en1) 9 tk1) 10 nu1) 11 dg1) 28 rc1) 29 kc1) 30 wc1) nm1 hM1 (show 0 ≤ f1 ∧ f1 ≤ 5 from by omega)) (fun v4994 S4995 h4996 => ?_)
              rcases h4996 with ⟨hv4997, hf4998⟩
              rw [hv4997]
              rw [hf4998]
              show X_T sc 162 (334, [(0, .ref 530)], [.int (iI (bI (f1 = 0)))], S4987) _
              refine T_bif_ne xr_162_334 (t := 373) (pc' := 337) rfl rfl (fun c4999 => ?_) (fun c4999 => ?_)
              · skip
                have c4999 : (f1 = 0) := c4999
                exact (show False by first | contradiction | omega).elim
              · skip
                have c4999 : ¬ (f1 = 0) := c4999
                refine T_p xr_162_337 xn_162 (pc' := 338) (ls' := [(0, .ref 530)]) (st' := [.ref 530]) rfl ?_
                refine T_p xr_162_338 xn_162 (pc' := 339) (ls' := [(0, .ref 530)]) (st' := [.int (iI 1), .ref 530]) rfl ?_
                refine T_p xr_162_339 xn_162 (pc' := 340) (ls' := [(0, .ref 530)]) (st' := [.ref 530, .int (iI 1), .ref 530]) rfl ?_
                refine T_get xr_162_340 hM1 rfl (v := .int (iI b1)) rfl (pc' := 343) rfl ?_
                refine T_zisub xr_162_343 (z := 1 - b1) rfl (pc' := 344) rfl ?_
                refine T_ie (y := iI (o 4)) (by congr 1; omega) ?_
                refine T_put xr_162_344 hM1 rfl (Nat.le_of_ble_eq_true rfl) rfl (fs' := [.ref 531, .int (iI 0), .ref 532, .int (iI (o 1)), .int (iI (o 4)), .int (iI f1), .int (iI g1), .int (iI at1), .int (iI en1), .int (iI tk1), .int (iI nu1), .int (iI dg1), .long nm1, .ref 533, .ref 534, .ref 535, .ref 536, .ref 537, .ref 538, .ref 539, .ref 540, .ref 541, .ref 542, .ref 543, .ref 544, .ref 545, .ref 546, .ref 547, .int (iI rc1), .int (iI kc1), .int (iI wc1), .int (iI (o 31)), .int (iI (o 32)), .int (iI (o 33)), .ref 548, .ref 549, .ref 550, .ref 551, .int (iI (o 38)), .ref 552, .ref 553, .ref 554, .ref 555, .ref 556, .ref 557, .ref 558, .ref 559, .ref 560, .ref 561, .int (iI (o 49)), .ref 562, .ref 563, .ref 564, .ref 565, .ref 566, .ref 567, .ref 568, .ref 569, .int (iI (o 58)), .ref 570, .ref 571, .ref 572, .ref 573, .ref 574, .ref 575, .ref 576, .ref 577, .ref 578, .int (iI (o 68)), .int (iI (o 69)), .int (iI (o 70)), .ref 579]) rfl (pc' := 347) rfl (fun S5000 h5001 n5002 e5003 => ?_)
                refine T_p xr_162_347 xn_162 (pc' := 348) (ls' := [(0, .ref 530)]) (st' := [.ref 530]) rfl ?_
                refine T_p xr_162_348 xn_162 (pc' := 349) (ls' := [(0, .ref 530)]) (st' := [.ref 530, .ref 530]) rfl ?_
                refine T_get xr_162_349 h5001 rfl (v := .int (iI (o 31))) rfl (pc' := 352) rfl ?_
                refine T_put xr_162_352 h5001 rfl (Nat.le_of_ble_eq_true rfl) rfl (fs' := [.ref 531, .int (iI 0), .ref 532, .int (iI (o 1)), .int (iI (o 4)), .int (iI f1), .int (iI g1), .int (iI at1), .int (iI en1), .int (iI tk1), .int (iI nu1), .int (iI dg1), .long nm1, .ref 533, .ref 534, .ref 535, .ref 536, .ref 537, .ref 538, .ref 539, .ref 540, .ref 541, .ref 542, .ref 543, .ref 544, .ref 545, .ref 546, .ref 547, .int (iI (o 31)), .int (iI kc1), .int (iI wc1), .int (iI (o 31)), .int (iI (o 32)), .int (iI (o 33)), .ref 548, .ref 549, .ref 550, .ref 551, .int (iI (o 38)), .ref 552, .ref 553, .ref 554, .ref 555, .ref 556, .ref 557, .ref 558, .ref 559, .ref 560, .ref 561, .int (iI (o 49)), .ref 562, .ref 563, .ref 564, .ref 565, .ref 566, .ref 567, .ref 568, .ref 569, .int (iI (o 58)), .ref 570, .ref 571, .ref 572, .ref 573, .ref 574, .ref 575, .ref 576, .ref 577, .ref 578, .int (iI (o 68)), .int (iI (o 69)), .int (iI (o 70)), .ref 579]) rfl (pc' := 355) rfl (fun S5004 h5005 n5006 e5007 => ?_)
                refine T_p xr_162_355 xn_162 (pc' := 356) (ls' := [(0, .ref 530)]) (st' := [.ref 530]) rfl ?_
                refine T_p xr_162_356 xn_162 (pc' := 357) (ls' := [(0, .ref 530)]) (st' := [.ref 530, .ref 530]) rfl ?_
                refine T_get xr_162_357 h5005 rfl (v := .int (iI (o 32))) rfl (pc' := 360) rfl ?_
                refine T_put xr_162_360 h5005 rfl (Nat.le_of_ble_eq_true rfl) rfl (fs' := [.ref 531, .int (iI 0), .ref 532, .int (iI (o 1)), .int (iI (o 4)), .int (iI f1), .int (iI g1), .int (iI at1), .int (iI en1), .int (iI tk1), .int (iI nu1), .int (iI dg1), .long nm1, .ref 533, .ref 534, .ref 535, .ref 536, .ref 537, .ref 538, .ref 539, .ref 540, .ref 541, .ref 542, .ref 543, .ref 544, .ref 545, .ref 546, .ref 547, .int (iI (o 31)), .int (iI (o 32)), .int (iI wc1), .int (iI (o 31)), .int (iI (o 32)), .int (iI (o 33)), .ref 548, .ref 549, .ref 550, .ref 551, .int (iI (o 38)), .ref 552, .ref 553, .ref 554, .ref 555, .ref 556, .ref 557, .ref 558, .ref 559, .ref 560, .ref 561, .int (iI (o 49)), .ref 562, .ref 563, .ref 564, .ref 565, .ref 566, .ref 567, .ref 568, .ref 569, .int (iI (o 58)), .ref 570, .ref 571, .ref 572, .ref 573, .ref 574, .ref 575, .ref 576, .ref 577, .ref 578, .int (iI (o 68)), .int (iI (o 69)), .int (iI (o 70)), .ref 579]) rfl (pc' := 363) rfl (fun S5008 h5009 n5010 e5011 => ?_)
                refine T_p xr_162_363 xn_162 (pc' := 364) (ls' := [(0, .ref 530)]) (st' := [.ref 530]) rfl ?_
                refine T_p xr_162_364 xn_162 (pc' := 365) (ls' := [(0, .ref 530)]) (st' := [.ref 530, .ref 530]) rfl ?_
                refine T_get xr_162_365 h5009 rfl (v := .int (iI (o 33))) rfl (pc' := 368) rfl ?_
                refine T_put xr_162_368 h5009 rfl (Nat.le_of_ble_eq_true rfl) rfl (fs' := [.ref 531, .int (iI 0), .ref 532, .int (iI (o 1)), .int (iI (o 4)), .int (iI f1), .int (iI g1), .int (iI at1), .int (iI en1), .int (iI tk1), .int (iI nu1), .int (iI dg1), .long nm1, .ref 533, .ref 534, .ref 535, .ref 536, .ref 537, .ref 538, .ref 539, .ref 540, .ref 541, .ref 542, .ref 543, .ref 544, .ref 545, .ref 546, .ref 547, .int (iI (o 31)), .int (iI (o 32)), .int (iI (o 33)), .int (iI (o 31)), .int (iI (o 32)), .int (iI (o 33)), .ref 548, .ref 549, .ref 550, .ref 551, .int (iI (o 38)), .ref 552, .ref 553, .ref 554, .ref 555, .ref 556, .ref 557, .ref 558, .ref 559, .ref 560, .ref 561, .int (iI (o 49)), .ref 562, .ref 563, .ref 564, .ref 565, .ref 566, .ref 567, .ref 568, .ref 569, .int (iI (o 58)), .ref 570, .ref 571, .ref 572, .ref 573, .ref 574, .ref 575, .ref 576, .ref 577, .ref 578, .int (iI (o 68)), .int (iI (o 69)), .int (iI (o 70)), .ref 579]) rfl (pc' := 371) rfl (fun S5012 h5013 n5014 e5015 => ?_)
                refine T_p xr_162_371 xn_162 (pc' := 372) (ls' := [(0, .ref 530)]) (st' := [.int (iI (-1))]) rfl ?_
                refine T_iret xr_162_372 xf_162.2.2 rfl ?_
                refine hQ _ _ ?_
                have h5016 := (n5014 533 (by decide)).trans ((n5010 533 (by decide)).trans ((n5006 533 (by decide)).trans ((n5002 533 (by decide)).trans (hA533_))))
                have h5017 := (n5014 534 (by decide)).trans ((n5010 534 (by decide)).trans ((n5006 534 (by decide)).trans ((n5002 534 (by decide)).trans (hA534_))))
                have h5018 := (n5014 535 (by decide)).trans ((n5010 535 (by decide)).trans ((n5006 535 (by decide)).trans ((n5002 535 (by decide)).trans (hA535_))))
                have h5019 := (n5014 536 (by decide)).trans ((n5010 536 (by decide)).trans ((n5006 536 (by decide)).trans ((n5002 536 (by decide)).trans (hA536_))))
                have h5020 := (n5014 537 (by decide)).trans ((n5010 537 (by decide)).trans ((n5006 537 (by decide)).trans ((n5002 537 (by decide)).trans (hA537_))))
                have h5021 := (n5014 538 (by decide)).trans ((n5010 538 (by decide)).trans ((n5006 538 (by decide)).trans ((n5002 538 (by decide)).trans (hA538_))))
                have h5022 := (n5014 539 (by decide)).trans ((n5010 539 (by decide)).trans ((n5006 539 (by decide)).trans ((n5002 539 (by decide)).trans (hA539_))))
                have h5023 := (n5014 540 (by decide)).trans ((n5010 540 (by decide)).trans ((n5006 540 (by decide)).trans ((n5002 540 (by decide)).trans (hA540_))))
                have h5024 := (n5014 541 (by decide)).trans ((n5010 541 (by decide)).trans ((n5006 541 (by decide)).trans ((n5002 541 (by decide)).trans (hA541_))))
                have h5025 := (n5014 542 (by decide)).trans ((n5010 542 (by decide)).trans ((n5006 542 (by decide)).trans ((n5002 542 (by decide)).trans (hA542_))))
                have h5026 := (n5014 543 (by decide)).trans ((n5010 543 (by decide)).trans ((n5006 543 (by decide)).trans ((n5002 543 (by decide)).trans (hA543_))))
                have h5027 := (n5014 544 (by decide)).trans ((n5010 544 (by decide)).trans ((n5006 544 (by decide)).trans ((n5002 544 (by decide)).trans (hA544_))))
                have h5028 := (n5014 545 (by decide)).trans ((n5010 545 (by decide)).trans ((n5006 545 (by decide)).trans ((n5002 545 (by decide)).trans (hA545_))))
                have h5029 := (n5014 546 (by decide)).trans ((n5010 546 (by decide)).trans ((n5006 546 (by decide)).trans ((n5002 546 (by decide)).trans (hA546_))))
                have h5030 := (n5014 547 (by decide)).trans ((n5010 547 (by decide)).trans ((n5006 547 (by decide)).trans ((n5002 547 (by decide)).trans (hA547_))))
                have h5031 := (n5014 532 (by decide)).trans ((n5010 532 (by decide)).trans ((n5006 532 (by decide)).trans ((n5002 532 (by decide)).trans ((hF4971.1 532 (by omega)).trans ((hf4964.1 532 (by omega)).trans (h4951))))))
                have h5032 := (n5014 574 (by decide)).trans ((n5010 574 (by decide)).trans ((n5006 574 (by decide)).trans ((n5002 574 (by decide)).trans ((hF4971.1 574 (by omega)).trans ((hf4964.1 574 (by omega)).trans ((n4948 574 (by decide)).trans ((n4942 574 (by decide)).trans ((n4937 574 (by decide)).trans ((n4933 574 (by decide)).trans ((n4929 574 (by decide)).trans ((n4925 574 (by decide)).trans ((n4921 574 (by decide)).trans ((n4917 574 (by decide)).trans ((hF4910.1 574 (by omega)).trans ((n4904 574 (by decide)).trans ((n4900 574 (by decide)).trans ((n4896 574 (by decide)).trans (hA574))))))))))))))))))
                subst hb1
                refine Or.inr ⟨at1, en1, tk1, nu1, dg1, nm1, f1, g1, rN1, kN1, tg1, kU1, wR1, wL1, wK1, wM1, wH1, wS1, sO1, sN1, eP1, eH1, hK1, tx1, rfl, hbd (by omega), hO, by omega, h5013, h5016, h5017, h5018, h5019, h5020, h5021, h5022, h5023, h5024, h5025, h5026, h5027, h5028, h5029, h5030, h5031, ((((((((((((((((((X_Fr.rf).tr (X_Fr.of n4896 e4897 (by omega))).tr (X_Fr.of n4900 e4901 (by omega))).tr (X_Fr.of n4904 e4905 (by omega))).tr (X_Fr.mono ⟨hF4910.1, hF4910.2⟩ (fun q hq => (by omega)))).tr (X_Fr.of n4917 e4918 (by omega))).tr (X_Fr.of n4921 e4922 (by omega))).tr (X_Fr.of n4925 e4926 (by omega))).tr (X_Fr.of n4929 e4930 (by omega))).tr (X_Fr.of n4933 e4934 (by omega))).tr (X_Fr.of n4937 e4938 (by omega))).tr (X_Fr.of n4942 e4943 (by omega))).tr (X_Fr.of n4948 e4949 (by omega))).tr (X_Fr.mono ⟨hf4964.1, hf4964.2⟩ (fun q hq => (by omega)))).tr (X_Fr.mono ⟨hF4971.1, hF4971.2⟩ (fun q hq => (by omega)))).tr (X_Fr.of n5002 e5003 (by omega))).tr (X_Fr.of n5006 e5007 (by omega))).tr (X_Fr.of n5010 e5011 (by omega))).tr (X_Fr.of n5014 e5015 (by omega))⟩
            · skip
              have c4993 : (f1 = 0) := c4993
              obtain rfl : f1 = 0 := by omega
              obtain ⟨hT1, hR, hok, h4k, hB1, ⟨hq1, hq2, hq3⟩, hli⟩ := hgd rfl
              obtain ⟨ck, rc, kc, wc, rn, lo, kn, ab, D, W⟩ := K1
              simp only at hT1 hq1 hq2 hq3 hli
              have hok1 := hok.1
              have hok2 := hok.2.1
              have hok3 := hok.2.2.1
              simp only at hok1 hok2 hok3
              obtain ⟨⟨_, _⟩, ⟨_, _⟩, hk1, ⟨_, _⟩, hk1e, ⟨_, _⟩, ⟨_, _⟩⟩ := R_tk_f hX hT1
              obtain ⟨hB1r, hB1k, hB1w⟩ := id hB1
              have hM5033 : S4987.1 530 = .inr (11, [.ref 531, .int (iI 0), .ref 532, .int (iI (o 1)), .int (iI b1), .int (iI (o 5)), .int (iI g1), .int (iI at1), .int (iI en1), .int (iI tk1), .int (iI nu1), .int (iI dg1), .long nm1, .ref 533, .ref 534, .ref 535, .ref 536, .ref 537, .ref 538, .ref 539, .ref 540, .ref 541, .ref 542, .ref 543, .ref 544, .ref 545, .ref 546, .ref 547, .int (iI rc1), .int (iI kc1), .int (iI wc1), .int (iI (o 31)), .int (iI (o 32)), .int (iI (o 33)), .ref 548, .ref 549, .ref 550, .ref 551, .int (iI (o 38)), .ref 552, .ref 553, .ref 554, .ref 555, .ref 556, .ref 557, .ref 558, .ref 559, .ref 560, .ref 561, .int (iI (o 49)), .ref 562, .ref 563, .ref 564, .ref 565, .ref 566, .ref 567, .ref 568, .ref 569, .int (iI (o 58)), .ref 570, .ref 571, .ref 572, .ref 573, .ref 574, .ref 575, .ref 576, .ref 577, .ref 578, .int (iI (o 68)), .int (iI (o 69)), .int (iI (o 70)), .ref 579]) := by rw [h5]; exact hM1
              have hM5034 : S4987.1 530 = .inr (11, [.ref 531, .int (iI 0), .ref 532, .int (iI (o 1)), .int (iI b1), .int (iI (o 5)), .int (iI g1), .int (iI at1), .int (iI en1), .int (iI tk1), .int (iI nu1), .int (iI dg1), .long nm1, .ref 533, .ref 534, .ref 535, .ref 536, .ref 537, .ref 538, .ref 539, .ref 540, .ref 541, .ref 542, .ref 543, .ref 544, .ref 545, .ref 546, .ref 547, .int (iI rc), .int (iI kc), .int (iI wc), .int (iI (o 31)), .int (iI (o 32)), .int (iI (o 33)), .ref 548, .ref 549, .ref 550, .ref 551, .int (iI (o 38)), .ref 552, .ref 553, .ref 554, .ref 555, .ref 556, .ref 557, .ref 558, .ref 559, .ref 560, .ref 561, .int (iI (o 49)), .ref 562, .ref 563, .ref 564, .ref 565, .ref 566, .ref 567, .ref 568, .ref 569, .int (iI (o 58)), .ref 570, .ref 571, .ref 572, .ref 573, .ref 574, .ref 575, .ref 576, .ref 577, .ref 578, .int (iI (o 68)), .int (iI (o 69)), .int (iI (o 70)), .ref 579]) := by rw [← hq1, ← hq2, ← hq3]; exact hM5033
              refine T_p xr_162_120 xn_162 (pc' := 121) (ls' := [(0, .ref 530)]) (st' := [.ref 530]) rfl ?_
              refine T_get xr_162_121 hM5034 rfl (v := .int (iI tk1)) rfl (pc' := 124) rfl ?_
              refine T_zif_eq xr_162_124 (t := 330) (pc' := 127) rfl rfl (fun c5035 => ?_) (fun c5035 => ?_)
              · skip
                have c5035 : tk1 = 0 := c5035
                refine T_p xr_162_330 xn_162 (pc' := 331) (ls' := [(0, .ref 530)]) (st' := [.ref 530]) rfl ?_
                refine T_cv (S := S4987) (q := 530) xr_162_331 xf_140.1 xf_140.2.1 xn_140 (as := []) (r := []) rfl hM5034 (Nat.le_of_ble_eq_true rfl) (Nat.le_of_ble_eq_true rfl) (pc' := 334) rfl (ls' := [(0, .ref 530)]) rfl ?_
                refine T_mono (r_isGood sc S4987 (X_ou (X_ou (X_ou (X_ou (X_ou (X_ou (X_ou (X_ou (X_ou (X_ou (X_ou (X_ou o 1 0) 3 (o 1)) 4 b1) 6 g1) 7 at1) 8 en1) 9 tk1) 10 nu1) 11 dg1) 28 rc) 29 kc) 30 wc) nm1 hM5034 (show 0 ≤ (o 5) ∧ (o 5) ≤ 5 from by omega)) (fun v5036 S5037 h5038 => ?_)
                rcases h5038 with ⟨hv5039, hf5040⟩
                rw [hv5039]
                rw [hf5040]
                show X_T sc 162 (334, [(0, .ref 530)], [.int (iI (bI ((o 5) = 0)))], S4987) _
                refine T_bif_ne xr_162_334 (t := 373) (pc' := 337) rfl rfl (fun c5041 => ?_) (fun c5041 => ?_)
                · skip
                  have c5041 : ((o 5) = 0) := c5041
                  refine T_p xr_162_373 xn_162 (pc' := 374) (ls' := [(0, .ref 530)]) (st' := [.ref 530]) rfl ?_
                  refine T_p xr_162_374 xn_162 (pc' := 375) (ls' := [(0, .ref 530)]) (st' := [.ref 530, .ref 530]) rfl ?_
                  refine T_get xr_162_375 hM5034 rfl (v := .int (iI rc)) rfl (pc' := 378) rfl ?_
                  refine T_put xr_162_378 hM5034 rfl (Nat.le_of_ble_eq_true rfl) rfl (fs' := [.ref 531, .int (iI 0), .ref 532, .int (iI (o 1)), .int (iI b1), .int (iI (o 5)), .int (iI g1), .int (iI at1), .int (iI en1), .int (iI tk1), .int (iI nu1), .int (iI dg1), .long nm1, .ref 533, .ref 534, .ref 535, .ref 536, .ref 537, .ref 538, .ref 539, .ref 540, .ref 541, .ref 542, .ref 543, .ref 544, .ref 545, .ref 546, .ref 547, .int (iI rc), .int (iI kc), .int (iI wc), .int (iI rc), .int (iI (o 32)), .int (iI (o 33)), .ref 548, .ref 549, .ref 550, .ref 551, .int (iI (o 38)), .ref 552, .ref 553, .ref 554, .ref 555, .ref 556, .ref 557, .ref 558, .ref 559, .ref 560, .ref 561, .int (iI (o 49)), .ref 562, .ref 563, .ref 564, .ref 565, .ref 566, .ref 567, .ref 568, .ref 569, .int (iI (o 58)), .ref 570, .ref 571, .ref 572, .ref 573, .ref 574, .ref 575, .ref 576, .ref 577, .ref 578, .int (iI (o 68)), .int (iI (o 69)), .int (iI (o 70)), .ref 579]) rfl (pc' := 381) rfl (fun S5042 h5043 n5044 e5045 => ?_)
                  refine T_p xr_162_381 xn_162 (pc' := 382) (ls' := [(0, .ref 530)]) (st' := [.ref 530]) rfl ?_
                  refine T_p xr_162_382 xn_162 (pc' := 383) (ls' := [(0, .ref 530)]) (st' := [.ref 530, .ref 530]) rfl ?_
                  refine T_get xr_162_383 h5043 rfl (v := .int (iI kc)) rfl (pc' := 386) rfl ?_
                  refine T_put xr_162_386 h5043 rfl (Nat.le_of_ble_eq_true rfl) rfl (fs' := [.ref 531, .int (iI 0), .ref 532, .int (iI (o 1)), .int (iI b1), .int (iI (o 5)), .int (iI g1), .int (iI at1), .int (iI en1), .int (iI tk1), .int (iI nu1), .int (iI dg1), .long nm1, .ref 533, .ref 534, .ref 535, .ref 536, .ref 537, .ref 538, .ref 539, .ref 540, .ref 541, .ref 542, .ref 543, .ref 544, .ref 545, .ref 546, .ref 547, .int (iI rc), .int (iI kc), .int (iI wc), .int (iI rc), .int (iI kc), .int (iI (o 33)), .ref 548, .ref 549, .ref 550, .ref 551, .int (iI (o 38)), .ref 552, .ref 553, .ref 554, .ref 555, .ref 556, .ref 557, .ref 558, .ref 559, .ref 560, .ref 561, .int (iI (o 49)), .ref 562, .ref 563, .ref 564, .ref 565, .ref 566, .ref 567, .ref 568, .ref 569, .int (iI (o 58)), .ref 570, .ref 571, .ref 572, .ref 573, .ref 574, .ref 575, .ref 576, .ref 577, .ref 578, .int (iI (o 68)), .int (iI (o 69)), .int (iI (o 70)), .ref 579]) rfl (pc' := 389) rfl (fun S5046 h5047 n5048 e5049 => ?_)
                  refine T_p xr_162_389 xn_162 (pc' := 390) (ls' := [(0, .ref 530)]) (st' := [.ref 530]) rfl ?_
                  refine T_p xr_162_390 xn_162 (pc' := 391) (ls' := [(0, .ref 530)]) (st' := [.ref 530, .ref 530]) rfl ?_
                  refine T_get xr_162_391 h5047 rfl (v := .int (iI wc)) rfl (pc' := 394) rfl ?_
                  refine T_put xr_162_394 h5047 rfl (Nat.le_of_ble_eq_true rfl) rfl (fs' := [.ref 531, .int (iI 0), .ref 532, .int (iI (o 1)), .int (iI b1), .int (iI (o 5)), .int (iI g1), .int (iI at1), .int (iI en1), .int (iI tk1), .int (iI nu1), .int (iI dg1), .long nm1, .ref 533, .ref 534, .ref 535, .ref 536, .ref 537, .ref 538, .ref 539, .ref 540, .ref 541, .ref 542, .ref 543, .ref 544, .ref 545, .ref 546, .ref 547, .int (iI rc), .int (iI kc), .int (iI wc), .int (iI rc), .int (iI kc), .int (iI wc), .ref 548, .ref 549, .ref 550, .ref 551, .int (iI (o 38)), .ref 552, .ref 553, .ref 554, .ref 555, .ref 556, .ref 557, .ref 558, .ref 559, .ref 560, .ref 561, .int (iI (o 49)), .ref 562, .ref 563, .ref 564, .ref 565, .ref 566, .ref 567, .ref 568, .ref 569, .int (iI (o 58)), .ref 570, .ref 571, .ref 572, .ref 573, .ref 574, .ref 575, .ref 576, .ref 577, .ref 578, .int (iI (o 68)), .int (iI (o 69)), .int (iI (o 70)), .ref 579]) rfl (pc' := 397) rfl (fun S5050 h5051 n5052 e5053 => ?_)
                  refine T_p xr_162_397 xn_162 (pc' := 398) (ls' := [(0, .ref 530)]) (st' := [.ref 530]) rfl ?_
                  refine T_p xr_162_398 xn_162 (pc' := 399) (ls' := [(0, .ref 530)]) (st' := [.int (iI 0), .ref 530]) rfl ?_
                  refine T_put xr_162_399 h5051 rfl (Nat.le_of_ble_eq_true rfl) rfl (fs' := [.ref 531, .int (iI 0), .ref 532, .int (iI (o 1)), .int (iI b1), .int (iI (o 5)), .int (iI g1), .int (iI at1), .int (iI en1), .int (iI tk1), .int (iI nu1), .int (iI dg1), .long nm1, .ref 533, .ref 534, .ref 535, .ref 536, .ref 537, .ref 538, .ref 539, .ref 540, .ref 541, .ref 542, .ref 543, .ref 544, .ref 545, .ref 546, .ref 547, .int (iI rc), .int (iI kc), .int (iI wc), .int (iI rc), .int (iI kc), .int (iI wc), .ref 548, .ref 549, .ref 550, .ref 551, .int (iI 0), .ref 552, .ref 553, .ref 554, .ref 555, .ref 556, .ref 557, .ref 558, .ref 559, .ref 560, .ref 561, .int (iI (o 49)), .ref 562, .ref 563, .ref 564, .ref 565, .ref 566, .ref 567, .ref 568, .ref 569, .int (iI (o 58)), .ref 570, .ref 571, .ref 572, .ref 573, .ref 574, .ref 575, .ref 576, .ref 577, .ref 578, .int (iI (o 68)), .int (iI (o 69)), .int (iI (o 70)), .ref 579]) rfl (pc' := 402) rfl (fun S5054 h5055 n5056 e5057 => ?_)
                  refine T_p xr_162_402 xn_162 (pc' := 403) (ls' := [(0, .ref 530)]) (st' := [.ref 530]) rfl ?_
                  refine T_p xr_162_403 xn_162 (pc' := 404) (ls' := [(0, .ref 530)]) (st' := [.int (iI 0), .ref 530]) rfl ?_
                  refine T_put xr_162_404 h5055 rfl (Nat.le_of_ble_eq_true rfl) rfl (fs' := [.ref 531, .int (iI 0), .ref 532, .int (iI (o 1)), .int (iI b1), .int (iI (o 5)), .int (iI g1), .int (iI at1), .int (iI en1), .int (iI tk1), .int (iI nu1), .int (iI dg1), .long nm1, .ref 533, .ref 534, .ref 535, .ref 536, .ref 537, .ref 538, .ref 539, .ref 540, .ref 541, .ref 542, .ref 543, .ref 544, .ref 545, .ref 546, .ref 547, .int (iI rc), .int (iI kc), .int (iI wc), .int (iI rc), .int (iI kc), .int (iI wc), .ref 548, .ref 549, .ref 550, .ref 551, .int (iI 0), .ref 552, .ref 553, .ref 554, .ref 555, .ref 556, .ref 557, .ref 558, .ref 559, .ref 560, .ref 561, .int (iI 0), .ref 562, .ref 563, .ref 564, .ref 565, .ref 566, .ref 567, .ref 568, .ref 569, .int (iI (o 58)), .ref 570, .ref 571, .ref 572, .ref 573, .ref 574, .ref 575, .ref 576, .ref 577, .ref 578, .int (iI (o 68)), .int (iI (o 69)), .int (iI (o 70)), .ref 579]) rfl (pc' := 407) rfl (fun S5058 h5059 n5060 e5061 => ?_)
                  refine T_p xr_162_407 xn_162 (pc' := 408) (ls' := [(0, .ref 530)]) (st' := [.ref 530]) rfl ?_
                  refine T_p xr_162_408 xn_162 (pc' := 409) (ls' := [(0, .ref 530)]) (st' := [.int (iI 0), .ref 530]) rfl ?_
                  refine T_put xr_162_409 h5059 rfl (Nat.le_of_ble_eq_true rfl) rfl (fs' := [.ref 531, .int (iI 0), .ref 532, .int (iI (o 1)), .int (iI b1), .int (iI (o 5)), .int (iI g1), .int (iI at1), .int (iI en1), .int (iI tk1), .int (iI nu1), .int (iI dg1), .long nm1, .ref 533, .ref 534, .ref 535, .ref 536, .ref 537, .ref 538, .ref 539, .ref 540, .ref 541, .ref 542, .ref 543, .ref 544, .ref 545, .ref 546, .ref 547, .int (iI rc), .int (iI kc), .int (iI wc), .int (iI rc), .int (iI kc), .int (iI wc), .ref 548, .ref 549, .ref 550, .ref 551, .int (iI 0), .ref 552, .ref 553, .ref 554, .ref 555, .ref 556, .ref 557, .ref 558, .ref 559, .ref 560, .ref 561, .int (iI 0), .ref 562, .ref 563, .ref 564, .ref 565, .ref 566, .ref 567, .ref 568, .ref 569, .int (iI (o 58)), .ref 570, .ref 571, .ref 572, .ref 573, .ref 574, .ref 575, .ref 576, .ref 577, .ref 578, .int (iI 0), .int (iI (o 69)), .int (iI (o 70)), .ref 579]) rfl (pc' := 412) rfl (fun S5062 h5063 n5064 e5065 => ?_)
                  refine T_p xr_162_412 xn_162 (pc' := 413) (ls' := [(0, .ref 530)]) (st' := [.int (iI 0)]) rfl ?_
                  refine T_p xr_162_413 xn_162 (pc' := 414) (ls' := [(1, .int (iI 0)), (0, .ref 530)]) (st' := []) rfl ?_
                  have h5071 := (n5064 574 (by decide)).trans ((n5060 574 (by decide)).trans ((n5056 574 (by decide)).trans ((n5052 574 (by decide)).trans ((n5048 574 (by decide)).trans ((n5044 574 (by decide)).trans ((hF4971.1 574 (by omega)).trans ((hf4964.1 574 (by omega)).trans ((n4948 574 (by decide)).trans ((n4942 574 (by decide)).trans ((n4937 574 (by decide)).trans ((n4933 574 (by decide)).trans ((n4929 574 (by decide)).trans ((n4925 574 (by decide)).trans ((n4921 574 (by decide)).trans ((n4917 574 (by decide)).trans ((hF4910.1 574 (by omega)).trans ((n4904 574 (by decide)).trans ((n4900 574 (by decide)).trans ((n4896 574 (by decide)).trans (hA574))))))))))))))))))))
                  have L5066 : ∀ (m5068 : Nat) (S5072 : X_S) (k : Int) (ib1 : Int → Int) (hib1 : S5072.1 574 = .inl (.boolean, 30, .inl fun k : Nat => iI (ib1 (k : Int)))) (hF5070 : X_Fr (fun q => q = 574) S5062 S5072) (hk : 0 ≤ k ∧ k ≤ 30) (hib : ∀ i, 0 ≤ i → i < k → ib1 i = 0) (hm5069 : 30 - k < m5068), X_T sc 162 (414, [(1, .int (iI k)), (0, .ref 530)], [], S5072) Q := by
                    intro m5068
                    induction m5068 with
                    | zero =>
                      intro S5072 k ib1 hib1 hF5070 hk hib hm5069
                      exact (show False by omega).elim
                    | succ m5068 ih5067 =>
                      intro S5072 k ib1 hib1 hF5070 hk hib hm5069
                      refine T_p xr_162_414 xn_162 (pc' := 415) (ls' := [(1, .int (iI k)), (0, .ref 530)]) (st' := [.int (iI k)]) rfl ?_
                      refine T_p xr_162_415 xn_162 (pc' := 417) (ls' := [(1, .int (iI k)), (0, .ref 530)]) (st' := [.int (iI 30), .int (iI k)]) rfl ?_
                      refine T_zicmp_ge xr_162_417 (t := 433) (pc' := 420) rfl rfl (fun c5073 => ?_) (fun c5073 => ?_)
                      · skip
                        have c5073 : 30 ≤ k := c5073
                        refine T_p xr_162_433 xn_162 (pc' := 434) (ls' := [(1, .int (iI k)), (0, .ref 530)]) (st' := [.ref 530]) rfl ?_
                        have h5074 := (hF5070.1 530 (by omega)).trans (h5063)
                        refine T_get xr_162_434 h5074 rfl (v := .int (iI wc)) rfl (pc' := 437) rfl ?_
                        refine T_iret xr_162_437 xf_162.2.2 rfl ?_
                        refine hQ _ _ ?_
                        have h5075 := (hF5070.1 533 (by omega)).trans ((n5064 533 (by decide)).trans ((n5060 533 (by decide)).trans ((n5056 533 (by decide)).trans ((n5052 533 (by decide)).trans ((n5048 533 (by decide)).trans ((n5044 533 (by decide)).trans (hA533_)))))))
                        have h5076 := (hF5070.1 534 (by omega)).trans ((n5064 534 (by decide)).trans ((n5060 534 (by decide)).trans ((n5056 534 (by decide)).trans ((n5052 534 (by decide)).trans ((n5048 534 (by decide)).trans ((n5044 534 (by decide)).trans (hA534_)))))))
                        have h5077 := (hF5070.1 535 (by omega)).trans ((n5064 535 (by decide)).trans ((n5060 535 (by decide)).trans ((n5056 535 (by decide)).trans ((n5052 535 (by decide)).trans ((n5048 535 (by decide)).trans ((n5044 535 (by decide)).trans (hA535_)))))))
                        have h5078 := (hF5070.1 536 (by omega)).trans ((n5064 536 (by decide)).trans ((n5060 536 (by decide)).trans ((n5056 536 (by decide)).trans ((n5052 536 (by decide)).trans ((n5048 536 (by decide)).trans ((n5044 536 (by decide)).trans (hA536_)))))))
                        have h5079 := (hF5070.1 537 (by omega)).trans ((n5064 537 (by decide)).trans ((n5060 537 (by decide)).trans ((n5056 537 (by decide)).trans ((n5052 537 (by decide)).trans ((n5048 537 (by decide)).trans ((n5044 537 (by decide)).trans (hA537_)))))))
                        have h5080 := (hF5070.1 538 (by omega)).trans ((n5064 538 (by decide)).trans ((n5060 538 (by decide)).trans ((n5056 538 (by decide)).trans ((n5052 538 (by decide)).trans ((n5048 538 (by decide)).trans ((n5044 538 (by decide)).trans (hA538_)))))))
                        have h5081 := (hF5070.1 539 (by omega)).trans ((n5064 539 (by decide)).trans ((n5060 539 (by decide)).trans ((n5056 539 (by decide)).trans ((n5052 539 (by decide)).trans ((n5048 539 (by decide)).trans ((n5044 539 (by decide)).trans (hA539_)))))))
                        have h5082 := (hF5070.1 540 (by omega)).trans ((n5064 540 (by decide)).trans ((n5060 540 (by decide)).trans ((n5056 540 (by decide)).trans ((n5052 540 (by decide)).trans ((n5048 540 (by decide)).trans ((n5044 540 (by decide)).trans (hA540_)))))))
                        have h5083 := (hF5070.1 541 (by omega)).trans ((n5064 541 (by decide)).trans ((n5060 541 (by decide)).trans ((n5056 541 (by decide)).trans ((n5052 541 (by decide)).trans ((n5048 541 (by decide)).trans ((n5044 541 (by decide)).trans (hA541_)))))))
                        have h5084 := (hF5070.1 542 (by omega)).trans ((n5064 542 (by decide)).trans ((n5060 542 (by decide)).trans ((n5056 542 (by decide)).trans ((n5052 542 (by decide)).trans ((n5048 542 (by decide)).trans ((n5044 542 (by decide)).trans (hA542_)))))))
                        have h5085 := (hF5070.1 543 (by omega)).trans ((n5064 543 (by decide)).trans ((n5060 543 (by decide)).trans ((n5056 543 (by decide)).trans ((n5052 543 (by decide)).trans ((n5048 543 (by decide)).trans ((n5044 543 (by decide)).trans (hA543_)))))))
                        have h5086 := (hF5070.1 544 (by omega)).trans ((n5064 544 (by decide)).trans ((n5060 544 (by decide)).trans ((n5056 544 (by decide)).trans ((n5052 544 (by decide)).trans ((n5048 544 (by decide)).trans ((n5044 544 (by decide)).trans (hA544_)))))))
                        have h5087 := (hF5070.1 545 (by omega)).trans ((n5064 545 (by decide)).trans ((n5060 545 (by decide)).trans ((n5056 545 (by decide)).trans ((n5052 545 (by decide)).trans ((n5048 545 (by decide)).trans ((n5044 545 (by decide)).trans (hA545_)))))))
                        have h5088 := (hF5070.1 546 (by omega)).trans ((n5064 546 (by decide)).trans ((n5060 546 (by decide)).trans ((n5056 546 (by decide)).trans ((n5052 546 (by decide)).trans ((n5048 546 (by decide)).trans ((n5044 546 (by decide)).trans (hA546_)))))))
                        have h5089 := (hF5070.1 547 (by omega)).trans ((n5064 547 (by decide)).trans ((n5060 547 (by decide)).trans ((n5056 547 (by decide)).trans ((n5052 547 (by decide)).trans ((n5048 547 (by decide)).trans ((n5044 547 (by decide)).trans (hA547_)))))))
                        have h5090 := (hF5070.1 532 (by omega)).trans ((n5064 532 (by decide)).trans ((n5060 532 (by decide)).trans ((n5056 532 (by decide)).trans ((n5052 532 (by decide)).trans ((n5048 532 (by decide)).trans ((n5044 532 (by decide)).trans ((hF4971.1 532 (by omega)).trans ((hf4964.1 532 (by omega)).trans (h4951)))))))))
                        subst hb1
                        refine Or.inl ⟨at1, en1, tk1, nu1, dg1, nm1, g1, (ck, rc, kc, wc, rn, lo, kn, ab, D, W), rN1, kN1, tg1, kU1, wR1, wL1, wK1, wM1, wH1, wS1, sO1, sN1, eP1, eH1, hK1, tx1, ib1, rfl, ?_, hok, h4k, hB1, fun k k1 k2 => hib k k1 (by omega), by omega, h5074, h5075, h5076, h5077, h5078, h5079, h5080, h5081, h5082, h5083, h5084, h5085, h5086, h5087, h5088, h5089, h5090, hib1, (((((((((((((((((((((X_Fr.rf).tr (X_Fr.of n4896 e4897 (by omega))).tr (X_Fr.of n4900 e4901 (by omega))).tr (X_Fr.of n4904 e4905 (by omega))).tr (X_Fr.mono ⟨hF4910.1, hF4910.2⟩ (fun q hq => (by omega)))).tr (X_Fr.of n4917 e4918 (by omega))).tr (X_Fr.of n4921 e4922 (by omega))).tr (X_Fr.of n4925 e4926 (by omega))).tr (X_Fr.of n4929 e4930 (by omega))).tr (X_Fr.of n4933 e4934 (by omega))).tr (X_Fr.of n4937 e4938 (by omega))).tr (X_Fr.of n4942 e4943 (by omega))).tr (X_Fr.of n4948 e4949 (by omega))).tr (X_Fr.mono ⟨hf4964.1, hf4964.2⟩ (fun q hq => (by omega)))).tr (X_Fr.mono ⟨hF4971.1, hF4971.2⟩ (fun q hq => (by omega)))).tr (X_Fr.of n5044 e5045 (by omega))).tr (X_Fr.of n5048 e5049 (by omega))).tr (X_Fr.of n5052 e5053 (by omega))).tr (X_Fr.of n5056 e5057 (by omega))).tr (X_Fr.of n5060 e5061 (by omega))).tr (X_Fr.of n5064 e5065 (by omega))).tr (X_Fr.mono ⟨hF5070.1, hF5070.2⟩ (fun q hq => (by omega)))⟩
                        rw [← hR]
                        rw [sp_lines_at (by omega), if_pos (by first | assumption | (show so ck = 0; omega))]
                      · skip
                        have c5073 : ¬ (30 ≤ k) := c5073
                        refine T_p xr_162_420 xn_162 (pc' := 421) (ls' := [(1, .int (iI k)), (0, .ref 530)]) (st' := [.ref 530]) rfl ?_
                        have h5091 := (hF5070.1 530 (by omega)).trans (h5063)
                        refine T_get xr_162_421 h5091 rfl (v := .ref 574) rfl (pc' := 424) rfl ?_
                        refine T_p xr_162_424 xn_162 (pc' := 425) (ls' := [(1, .int (iI k)), (0, .ref 530)]) (st' := [.int (iI k), .ref 574]) rfl ?_
                        refine T_p xr_162_425 xn_162 (pc' := 426) (ls' := [(1, .int (iI k)), (0, .ref 530)]) (st' := [.int (iI 0), .int (iI k), .ref 574]) rfl ?_
                        refine T_zzast xr_162_426 hib1 (pc' := 427) rfl (fun S5092 h5093 n5094 e5095 => ?_)
                        refine T_ziinc xr_162_427 xn_162 (a := k) (z := k + 1) rfl (Nat.le_of_ble_eq_true rfl) (by omega) (ls' := [(1, .int (iI (k + 1))), (0, .ref 530)]) rfl (pc' := 430) rfl ?_
                        refine T_p xr_162_430 xn_162 (pc' := 414) (ls' := [(1, .int (iI (k + 1))), (0, .ref 530)]) (st' := []) rfl ?_
                        exact ih5067 S5092 (k + 1) (X_ug ib1 k (X_bo 0)) h5093 (hF5070.tr ((X_Fr.rf).tr (X_Fr.of n5094 e5095 (by omega)))) (by omega) (fun i h1 h2 => by
                              by_cases hi : i = k
                              · subst hi; rw [X_ug_s]; exact X_bo_z
                              · rw [X_ug_n _ _ hi]; exact hib i h1 (by omega)) (by omega)
                  exact L5066 ((30 : Int) + 1).toNat S5062 0 ib h5071 ((X_Fr.rf)) (by omega) (fun i h1 h2 => absurd h2 (by omega)) (by omega)
                · skip
                  have c5041 : ¬ ((o 5) = 0) := c5041
                  exact (show False by first | contradiction | omega).elim
              · skip
                have c5035 : ¬ (tk1 = 0) := c5035
                refine T_p xr_162_127 xn_162 (pc' := 128) (ls' := [(0, .ref 530)]) (st' := [.ref 530]) rfl ?_
                refine T_get xr_162_128 hM5034 rfl (v := .int (iI tk1)) rfl (pc' := 131) rfl ?_
                refine T_p xr_162_131 xn_162 (pc' := 132) (ls' := [(0, .ref 530)]) (st' := [.int (iI 3), .int (iI tk1)]) rfl ?_
                refine T_zicmp_ne xr_162_132 (t := 142) (pc' := 135) rfl rfl (fun c5096 => ?_) (fun c5096 => ?_)
                · skip
                  have c5096 : ¬ tk1 = 3 := c5096
                  refine T_p xr_162_142 xn_162 (pc' := 143) (ls' := [(0, .ref 530)]) (st' := [.long (0 : Int64)]) rfl ?_
                  refine T_p xr_162_143 xn_162 (pc' := 144) (ls' := [(1, .long (0 : Int64)), (0, .ref 530)]) (st' := []) rfl ?_
                  refine T_p xr_162_144 xn_162 (pc' := 145) (ls' := [(1, .long (0 : Int64)), (0, .ref 530)]) (st' := [.long (0 : Int64)]) rfl ?_
                  refine T_p xr_162_145 xn_162 (pc' := 148) (ls' := [(1, .long (0 : Int64)), (0, .ref 530)]) (st' := [.long (Int64.ofNat 1918987883), .long (0 : Int64)]) rfl ?_
                  refine T_lc_ne xr_162_148 xr_162_149 (t := 169) (pc' := 152) rfl rfl (fun c5097 => ?_) (fun c5097 => ?_)
                  · skip
                    have c5097 : ¬ (0 : Int64) = (Int64.ofNat 1918987883) := c5097
                    refine T_p xr_162_169 xn_162 (pc' := 170) (ls' := [(1, .long (0 : Int64)), (0, .ref 530)]) (st' := [.long (0 : Int64)]) rfl ?_
                    refine T_p xr_162_170 xn_162 (pc' := 173) (ls' := [(1, .long (0 : Int64)), (0, .ref 530)]) (st' := [.long (Int64.ofNat 1802071652), .long (0 : Int64)]) rfl ?_
                    refine T_lc_ne xr_162_173 xr_162_174 (t := 194) (pc' := 177) rfl rfl (fun c5098 => ?_) (fun c5098 => ?_)
                    · skip
                      have c5098 : ¬ (0 : Int64) = (Int64.ofNat 1802071652) := c5098
                      refine T_p xr_162_194 xn_162 (pc' := 195) (ls' := [(1, .long (0 : Int64)), (0, .ref 530)]) (st' := [.long (0 : Int64)]) rfl ?_
                      refine T_p xr_162_195 xn_162 (pc' := 198) (ls' := [(1, .long (0 : Int64)), (0, .ref 530)]) (st' := [.long (Int64.ofNat 2003792484), .long (0 : Int64)]) rfl ?_
                      refine T_lc_ne xr_162_198 xr_162_199 (t := 215) (pc' := 202) rfl rfl (fun c5099 => ?_) (fun c5099 => ?_)
                      · skip
                        have c5099 : ¬ (0 : Int64) = (Int64.ofNat 2003792484) := c5099
                        refine T_p xr_162_215 xn_162 (pc' := 216) (ls' := [(1, .long (0 : Int64)), (0, .ref 530)]) (st' := [.int (iI 0)]) rfl ?_
                        refine T_p xr_162_216 xn_162 (pc' := 217) (ls' := [(3, .int (iI 0)), (1, .long (0 : Int64)), (0, .ref 530)]) (st' := []) rfl ?_
                        refine T_p xr_162_217 xn_162 (pc' := 218) (ls' := [(3, .int (iI 0)), (1, .long (0 : Int64)), (0, .ref 530)]) (st' := [.long (0 : Int64)]) rfl ?_
                        refine T_p xr_162_218 xn_162 (pc' := 221) (ls' := [(3, .int (iI 0)), (1, .long (0 : Int64)), (0, .ref 530)]) (st' := [.long (Int64.ofNat 1918987883), .long (0 : Int64)]) rfl ?_
                        refine T_lc_eq xr_162_221 xr_162_222 (t := 249) (pc' := 225) rfl rfl (fun c5100 => ?_) (fun c5100 => ?_)
                        · skip
                          have c5100 : (0 : Int64) = (Int64.ofNat 1918987883) := c5100
                          exact absurd (show (0 : Int64) = Int64.ofNat 1918987883 from (by first | exact c5100 | exact Classical.not_not.mp c5100)) (by decide)
                        · skip
                          have c5100 : ¬ ((0 : Int64) = (Int64.ofNat 1918987883)) := c5100
                          refine T_p xr_162_225 xn_162 (pc' := 226) (ls' := [(3, .int (iI 0)), (1, .long (0 : Int64)), (0, .ref 530)]) (st' := [.long (0 : Int64)]) rfl ?_
                          refine T_p xr_162_226 xn_162 (pc' := 229) (ls' := [(3, .int (iI 0)), (1, .long (0 : Int64)), (0, .ref 530)]) (st' := [.long (Int64.ofNat 32766990153442674), .long (0 : Int64)]) rfl ?_
                          refine T_lc_eq xr_162_229 xr_162_230 (t := 249) (pc' := 233) rfl rfl (fun c5101 => ?_) (fun c5101 => ?_)
                          · skip
                            have c5101 : (0 : Int64) = (Int64.ofNat 32766990153442674) := c5101
                            exact absurd (show (0 : Int64) = Int64.ofNat 32766990153442674 from (by first | exact c5101 | exact Classical.not_not.mp c5101)) (by decide)
                          · skip
                            have c5101 : ¬ ((0 : Int64) = (Int64.ofNat 32766990153442674)) := c5101
                            refine T_p xr_162_233 xn_162 (pc' := 234) (ls' := [(3, .int (iI 0)), (1, .long (0 : Int64)), (0, .ref 530)]) (st' := [.long (0 : Int64)]) rfl ?_
                            refine T_p xr_162_234 xn_162 (pc' := 237) (ls' := [(3, .int (iI 0)), (1, .long (0 : Int64)), (0, .ref 530)]) (st' := [.long (Int64.ofNat 1802071652), .long (0 : Int64)]) rfl ?_
                            refine T_lc_eq xr_162_237 xr_162_238 (t := 249) (pc' := 241) rfl rfl (fun c5102 => ?_) (fun c5102 => ?_)
                            · skip
                              have c5102 : (0 : Int64) = (Int64.ofNat 1802071652) := c5102
                              exact absurd (show (0 : Int64) = Int64.ofNat 1802071652 from (by first | exact c5102 | exact Classical.not_not.mp c5102)) (by decide)
                            · skip
                              have c5102 : ¬ ((0 : Int64) = (Int64.ofNat 1802071652)) := c5102
                              refine T_p xr_162_241 xn_162 (pc' := 242) (ls' := [(3, .int (iI 0)), (1, .long (0 : Int64)), (0, .ref 530)]) (st' := [.long (0 : Int64)]) rfl ?_
                              refine T_p xr_162_242 xn_162 (pc' := 245) (ls' := [(3, .int (iI 0)), (1, .long (0 : Int64)), (0, .ref 530)]) (st' := [.long (Int64.ofNat 2003792484), .long (0 : Int64)]) rfl ?_
                              refine T_lc_ne xr_162_245 xr_162_246 (t := 253) (pc' := 249) rfl rfl (fun c5103 => ?_) (fun c5103 => ?_)
                              · skip
                                have c5103 : ¬ (0 : Int64) = (Int64.ofNat 2003792484) := c5103
                                refine T_p xr_162_253 xn_162 (pc' := 254) (ls' := [(3, .int (iI 0)), (1, .long (0 : Int64)), (0, .ref 530)]) (st' := [.ref 530]) rfl ?_
                                refine T_cv (S := S4987) (q := 530) xr_162_254 xf_147.1 xf_147.2.1 xn_147 (as := []) (r := []) rfl hM5034 (Nat.le_of_ble_eq_true rfl) (Nat.le_of_ble_eq_true rfl) (pc' := 257) rfl (ls' := [(0, .ref 530)]) rfl ?_
                                have h5104 := (hF4971.1 532 (by omega)).trans ((hf4964.1 532 (by omega)).trans (h4951))
                                refine T_mono (r_wrong sc S4987 (X_ou (X_ou (X_ou (X_ou (X_ou (X_ou (X_ou (X_ou (X_ou (X_ou (X_ou (X_ou o 1 0) 3 (o 1)) 4 b1) 6 g1) 7 at1) 8 en1) 9 tk1) 10 nu1) 11 dg1) 28 rc) 29 kc) 30 wc) nm1 tx1 tb len n so pl ct E ck hM5034 h5104 (show (o 1) = len from by first | assumption | omega) hl htx hX hT1 (show 0 ≤ (o 5) ∧ (o 5) ≤ 5 from by omega)) (fun v5105 S5106 h5107 => ?_)
                                rcases h5107 with ⟨f5108, g5109, hv5110, hp5111, hM5112, hf5113⟩
                                rw [hv5110]
                                have h5114 : S5106.1 530 = .inr (11, [.ref 531, .int (iI 0), .ref 532, .int (iI (o 1)), .int (iI b1), .int (iI f5108), .int (iI g5109), .int (iI at1), .int (iI en1), .int (iI tk1), .int (iI nu1), .int (iI dg1), .long nm1, .ref 533, .ref 534, .ref 535, .ref 536, .ref 537, .ref 538, .ref 539, .ref 540, .ref 541, .ref 542, .ref 543, .ref 544, .ref 545, .ref 546, .ref 547, .int (iI rc), .int (iI kc), .int (iI wc), .int (iI (o 31)), .int (iI (o 32)), .int (iI (o 33)), .ref 548, .ref 549, .ref 550, .ref 551, .int (iI (o 38)), .ref 552, .ref 553, .ref 554, .ref 555, .ref 556, .ref 557, .ref 558, .ref 559, .ref 560, .ref 561, .int (iI (o 49)), .ref 562, .ref 563, .ref 564, .ref 565, .ref 566, .ref 567, .ref 568, .ref 569, .int (iI (o 58)), .ref 570, .ref 571, .ref 572, .ref 573, .ref 574, .ref 575, .ref 576, .ref 577, .ref 578, .int (iI (o 68)), .int (iI (o 69)), .int (iI (o 70)), .ref 579]) := hM5112
                                show X_T sc 162 (257, [(3, .int (iI 0)), (1, .long (0 : Int64)), (0, .ref 530)], [], S5106) _
                                refine T_p xr_162_257 xn_162 (pc' := 258) (ls' := [(3, .int (iI 0)), (1, .long (0 : Int64)), (0, .ref 530)]) (st' := [.ref 530]) rfl ?_
                                refine T_cv (S := S5106) (q := 530) xr_162_258 xf_140.1 xf_140.2.1 xn_140 (as := []) (r := []) rfl h5114 (Nat.le_of_ble_eq_true rfl) (Nat.le_of_ble_eq_true rfl) (pc' := 261) rfl (ls' := [(0, .ref 530)]) rfl ?_
                                refine T_mono (r_isGood sc S5106 (X_ou (X_ou (X_ou (X_ou (X_ou (X_ou (X_ou (X_ou (X_ou (X_ou (X_ou (X_ou (X_ou o 1 0) 3 (o 1)) 4 b1) 5 f5108) 6 g5109) 7 at1) 8 en1) 9 tk1) 10 nu1) 11 dg1) 28 rc) 29 kc) 30 wc) nm1 h5114 (show 0 ≤ f5108 ∧ f5108 ≤ 5 from by omega)) (fun v5115 S5116 h5117 => ?_)
                                rcases h5117 with ⟨hv5118, hf5119⟩
                                rw [hv5118]
                                rw [hf5119]
                                show X_T sc 162 (261, [(3, .int (iI 0)), (1, .long (0 : Int64)), (0, .ref 530)], [.int (iI (bI (f5108 = 0)))], S5106) _
                                refine T_bif_eq xr_162_261 (t := 268) (pc' := 264) rfl rfl (fun c5120 => ?_) (fun c5120 => ?_)
                                · skip
                                  have c5120 : ¬ (f5108 = 0) := c5120
                                  refine T_p xr_162_268 xn_162 (pc' := 269) (ls' := [(3, .int (iI 0)), (1, .long (0 : Int64)), (0, .ref 530)]) (st' := [.ref 530]) rfl ?_
                                  refine T_cv (S := S5106) (q := 530) xr_162_269 xf_140.1 xf_140.2.1 xn_140 (as := []) (r := []) rfl h5114 (Nat.le_of_ble_eq_true rfl) (Nat.le_of_ble_eq_true rfl) (pc' := 272) rfl (ls' := [(0, .ref 530)]) rfl ?_
                                  refine T_mono (r_isGood sc S5106 (X_ou (X_ou (X_ou (X_ou (X_ou (X_ou (X_ou (X_ou (X_ou (X_ou (X_ou (X_ou (X_ou o 1 0) 3 (o 1)) 4 b1) 5 f5108) 6 g5109) 7 at1) 8 en1) 9 tk1) 10 nu1) 11 dg1) 28 rc) 29 kc) 30 wc) nm1 h5114 (show 0 ≤ f5108 ∧ f5108 ≤ 5 from by omega)) (fun v5121 S5122 h5123 => ?_)
                                  rcases h5123 with ⟨hv5124, hf5125⟩
                                  rw [hv5124]
                                  rw [hf5125]
                                  show X_T sc 162 (272, [(3, .int (iI 0)), (1, .long (0 : Int64)), (0, .ref 530)], [.int (iI (bI (f5108 = 0)))], S5106) _
                                  refine T_bif_ne xr_162_272 (t := 278) (pc' := 275) rfl rfl (fun c5126 => ?_) (fun c5126 => ?_)
                                  · skip
                                    have c5126 : (f5108 = 0) := c5126
                                    exact (show False by first | contradiction | omega).elim
                                  · skip
                                    have c5126 : ¬ (f5108 = 0) := c5126
                                    refine T_p xr_162_275 xn_162 (pc' := 113) (ls' := [(3, .int (iI 0)), (1, .long (0 : Int64)), (0, .ref 530)]) (st' := []) rfl ?_
                                    have h5127 := (hf5113.1 533 (by omega)).trans (hA533_)
                                    have h5128 := (hf5113.1 534 (by omega)).trans (hA534_)
                                    have h5129 := (hf5113.1 535 (by omega)).trans (hA535_)
                                    have h5130 := (hf5113.1 536 (by omega)).trans (hA536_)
                                    have h5131 := (hf5113.1 537 (by omega)).trans (hA537_)
                                    have h5132 := (hf5113.1 538 (by omega)).trans (hA538_)
                                    have h5133 := (hf5113.1 539 (by omega)).trans (hA539_)
                                    have h5134 := (hf5113.1 540 (by omega)).trans (hA540_)
                                    have h5135 := (hf5113.1 541 (by omega)).trans (hA541_)
                                    have h5136 := (hf5113.1 542 (by omega)).trans (hA542_)
                                    have h5137 := (hf5113.1 543 (by omega)).trans (hA543_)
                                    have h5138 := (hf5113.1 544 (by omega)).trans (hA544_)
                                    have h5139 := (hf5113.1 545 (by omega)).trans (hA545_)
                                    have h5140 := (hf5113.1 546 (by omega)).trans (hA546_)
                                    have h5141 := (hf5113.1 547 (by omega)).trans (hA547_)
                                    have hl5142 : sp_line n so ct (ck, rc, kc, wc, rn, lo, kn, ab, D, W) = none := by
                                      show (if so ck = 3 ∧ ct ck = Int64.ofNat 1918987883 then _ else if so ck = 3 ∧ ct ck = Int64.ofNat 32766990153442674 then _ else if so ck = 3 ∧ ct ck = Int64.ofNat 1802071652 then _ else if so ck = 3 ∧ ct ck = Int64.ofNat 2003792484 then _ else none) = _
                                      rw [if_neg (fun z => by first | omega | exact absurd z.2 (by assumption) | exact absurd z.2 (id))]
                                      rw [if_neg (fun z => by first | omega | exact absurd z.2 (by assumption) | exact absurd z.2 (id))]
                                      rw [if_neg (fun z => by first | omega | exact absurd z.2 (by assumption) | exact absurd z.2 (id))]
                                      rw [if_neg (fun z => by first | omega | exact absurd z.2 (by assumption) | exact absurd z.2 (id))]
                                    refine T_sub (ls := [(0, .ref 530)]) ⟨rfl, trivial⟩ rfl rfl ?_
                                    exact ih4968 S5106 (line + 1) (ck, rc, kc, wc, rn, lo, kn, ab, D, W) f5108 g5109 at1 en1 tk1 nu1 dg1 rc kc wc nm1 rN1 kN1 tg1 kU1 wR1 wL1 wK1 wM1 wH1 wS1 sO1 sN1 eP1 eH1 hK1 h5114 h5127 h5128 h5129 h5130 h5131 h5132 h5133 h5134 h5135 h5136 h5137 h5138 h5139 h5140 h5141 (hF4971.tr ((X_Fr.rf).tr (X_Fr.mono ⟨hf5113.1, hf5113.2⟩ (fun q hq => (by omega))))) (by omega) (fun z => absurd z (by omega)) (fun _ => by
                                          rw [← hR, show (2001 - line).toNat = (2001 - (line + 1)).toNat + 1 by omega]
                                          show (if so ck = 0 then _ else _) = _
                                          rw [if_neg (by omega), hl5142]
                                          rfl) hO (by omega)
                                · skip
                                  have c5120 : (f5108 = 0) := c5120
                                  exact (show False by first | contradiction | omega).elim
                              · skip
                                have c5103 : ¬ (¬ (0 : Int64) = (Int64.ofNat 2003792484)) := c5103
                                exact absurd (show (0 : Int64) = Int64.ofNat 2003792484 from (by first | exact c5103 | exact Classical.not_not.mp c5103)) (by decide)
                      · skip
                        have c5099 : ¬ (¬ (0 : Int64) = (Int64.ofNat 2003792484)) := c5099
                        exact absurd (show (0 : Int64) = Int64.ofNat 2003792484 from (by first | exact c5099 | exact Classical.not_not.mp c5099)) (by decide)
                    · skip
                      have c5098 : ¬ (¬ (0 : Int64) = (Int64.ofNat 1802071652)) := c5098
                      exact absurd (show (0 : Int64) = Int64.ofNat 1802071652 from (by first | exact c5098 | exact Classical.not_not.mp c5098)) (by decide)
                  · skip
                    have c5097 : ¬ (¬ (0 : Int64) = (Int64.ofNat 1918987883)) := c5097
                    exact absurd (show (0 : Int64) = Int64.ofNat 1918987883 from (by first | exact c5097 | exact Classical.not_not.mp c5097)) (by decide)
                · skip
                  have c5096 : ¬ (¬ tk1 = 3) := c5096
                  refine T_p xr_162_135 xn_162 (pc' := 136) (ls' := [(0, .ref 530)]) (st' := [.ref 530]) rfl ?_
                  refine T_get xr_162_136 hM5034 rfl (v := .long nm1) rfl (pc' := 139) rfl ?_
                  refine T_le (y := (ct ck)) (hT1.2.2.2.2.1 (Or.inr (Or.inl (by omega)))) ?_
                  refine T_p xr_162_139 xn_162 (pc' := 143) (ls' := [(0, .ref 530)]) (st' := [.long (ct ck)]) rfl ?_
                  refine T_p xr_162_143 xn_162 (pc' := 144) (ls' := [(1, .long (ct ck)), (0, .ref 530)]) (st' := []) rfl ?_
                  refine T_p xr_162_144 xn_162 (pc' := 145) (ls' := [(1, .long (ct ck)), (0, .ref 530)]) (st' := [.long (ct ck)]) rfl ?_
                  refine T_p xr_162_145 xn_162 (pc' := 148) (ls' := [(1, .long (ct ck)), (0, .ref 530)]) (st' := [.long (Int64.ofNat 1918987883), .long (ct ck)]) rfl ?_
                  refine T_lc_ne xr_162_148 xr_162_149 (t := 169) (pc' := 152) rfl rfl (fun c5143 => ?_) (fun c5143 => ?_)
                  · skip
                    have c5143 : ¬ (ct ck) = (Int64.ofNat 1918987883) := c5143
                    refine T_p xr_162_169 xn_162 (pc' := 170) (ls' := [(1, .long (ct ck)), (0, .ref 530)]) (st' := [.long (ct ck)]) rfl ?_
                    refine T_p xr_162_170 xn_162 (pc' := 173) (ls' := [(1, .long (ct ck)), (0, .ref 530)]) (st' := [.long (Int64.ofNat 1802071652), .long (ct ck)]) rfl ?_
                    refine T_lc_ne xr_162_173 xr_162_174 (t := 194) (pc' := 177) rfl rfl (fun c5144 => ?_) (fun c5144 => ?_)
                    · skip
                      have c5144 : ¬ (ct ck) = (Int64.ofNat 1802071652) := c5144
                      refine T_p xr_162_194 xn_162 (pc' := 195) (ls' := [(1, .long (ct ck)), (0, .ref 530)]) (st' := [.long (ct ck)]) rfl ?_
                      refine T_p xr_162_195 xn_162 (pc' := 198) (ls' := [(1, .long (ct ck)), (0, .ref 530)]) (st' := [.long (Int64.ofNat 2003792484), .long (ct ck)]) rfl ?_
                      refine T_lc_ne xr_162_198 xr_162_199 (t := 215) (pc' := 202) rfl rfl (fun c5145 => ?_) (fun c5145 => ?_)
                      · skip
                        have c5145 : ¬ (ct ck) = (Int64.ofNat 2003792484) := c5145
                        refine T_p xr_162_215 xn_162 (pc' := 216) (ls' := [(1, .long (ct ck)), (0, .ref 530)]) (st' := [.int (iI 0)]) rfl ?_
                        refine T_p xr_162_216 xn_162 (pc' := 217) (ls' := [(3, .int (iI 0)), (1, .long (ct ck)), (0, .ref 530)]) (st' := []) rfl ?_
                        refine T_p xr_162_217 xn_162 (pc' := 218) (ls' := [(3, .int (iI 0)), (1, .long (ct ck)), (0, .ref 530)]) (st' := [.long (ct ck)]) rfl ?_
                        refine T_p xr_162_218 xn_162 (pc' := 221) (ls' := [(3, .int (iI 0)), (1, .long (ct ck)), (0, .ref 530)]) (st' := [.long (Int64.ofNat 1918987883), .long (ct ck)]) rfl ?_
                        refine T_lc_eq xr_162_221 xr_162_222 (t := 249) (pc' := 225) rfl rfl (fun c5146 => ?_) (fun c5146 => ?_)
                        · skip
                          have c5146 : (ct ck) = (Int64.ofNat 1918987883) := c5146
                          exact absurd (show ct ck = Int64.ofNat 1918987883 from (by first | exact c5146 | exact Classical.not_not.mp c5146)) c5143
                        · skip
                          have c5146 : ¬ ((ct ck) = (Int64.ofNat 1918987883)) := c5146
                          refine T_p xr_162_225 xn_162 (pc' := 226) (ls' := [(3, .int (iI 0)), (1, .long (ct ck)), (0, .ref 530)]) (st' := [.long (ct ck)]) rfl ?_
                          refine T_p xr_162_226 xn_162 (pc' := 229) (ls' := [(3, .int (iI 0)), (1, .long (ct ck)), (0, .ref 530)]) (st' := [.long (Int64.ofNat 32766990153442674), .long (ct ck)]) rfl ?_
                          refine T_lc_eq xr_162_229 xr_162_230 (t := 249) (pc' := 233) rfl rfl (fun c5147 => ?_) (fun c5147 => ?_)
                          · skip
                            have c5147 : (ct ck) = (Int64.ofNat 32766990153442674) := c5147
                            refine T_p xr_162_249 xn_162 (pc' := 250) (ls' := [(3, .int (iI 0)), (1, .long (ct ck)), (0, .ref 530)]) (st' := [.int (iI 0)]) rfl ?_
                            refine T_zif_eqt xr_162_250 (t := 257) rfl (by decide) ?_
                            refine T_p xr_162_257 xn_162 (pc' := 258) (ls' := [(3, .int (iI 0)), (1, .long (ct ck)), (0, .ref 530)]) (st' := [.ref 530]) rfl ?_
                            refine T_cv (S := S4987) (q := 530) xr_162_258 xf_140.1 xf_140.2.1 xn_140 (as := []) (r := []) rfl hM5034 (Nat.le_of_ble_eq_true rfl) (Nat.le_of_ble_eq_true rfl) (pc' := 261) rfl (ls' := [(0, .ref 530)]) rfl ?_
                            refine T_mono (r_isGood sc S4987 (X_ou (X_ou (X_ou (X_ou (X_ou (X_ou (X_ou (X_ou (X_ou (X_ou (X_ou (X_ou o 1 0) 3 (o 1)) 4 b1) 6 g1) 7 at1) 8 en1) 9 tk1) 10 nu1) 11 dg1) 28 rc) 29 kc) 30 wc) nm1 hM5034 (show 0 ≤ (o 5) ∧ (o 5) ≤ 5 from by omega)) (fun v5148 S5149 h5150 => ?_)
                            rcases h5150 with ⟨hv5151, hf5152⟩
                            rw [hv5151]
                            rw [hf5152]
                            show X_T sc 162 (261, [(3, .int (iI 0)), (1, .long (ct ck)), (0, .ref 530)], [.int (iI (bI ((o 5) = 0)))], S4987) _
                            refine T_bif_eq xr_162_261 (t := 268) (pc' := 264) rfl rfl (fun c5153 => ?_) (fun c5153 => ?_)
                            · skip
                              have c5153 : ¬ ((o 5) = 0) := c5153
                              exact (show False by first | contradiction | omega).elim
                            · skip
                              have c5153 : ((o 5) = 0) := c5153
                              refine T_p xr_162_264 xn_162 (pc' := 265) (ls' := [(3, .int (iI 0)), (1, .long (ct ck)), (0, .ref 530)]) (st' := [.ref 530]) rfl ?_
                              refine T_cv (S := S4987) (q := 530) xr_162_265 xf_141.1 xf_141.2.1 xn_141 (as := []) (r := []) rfl hM5034 (Nat.le_of_ble_eq_true rfl) (Nat.le_of_ble_eq_true rfl) (pc' := 268) rfl (ls' := [(0, .ref 530)]) rfl ?_
                              have h5154 := (hF4971.1 532 (by omega)).trans ((hf4964.1 532 (by omega)).trans (h4951))
                              refine T_mono (r_nx sc S4987 (X_ou (X_ou (X_ou (X_ou (X_ou (X_ou (X_ou (X_ou (X_ou (X_ou (X_ou (X_ou o 1 0) 3 (o 1)) 4 b1) 6 g1) 7 at1) 8 en1) 9 tk1) 10 nu1) 11 dg1) 28 rc) 29 kc) 30 wc) nm1 tx1 tb len n so pl ct E ck hM5034 h5154 (show (o 1) = len from by first | assumption | omega) hl htx hX hT1 (by omega)) (fun v5155 S5156 h5157 => ?_)
                              rcases h5157 with ⟨at5158, en5159, tk5160, nu5161, dg5162, nm5163, hv5164, hp5165, hM5166, hf5167⟩
                              rw [hv5164]
                              have h5168 : S5156.1 530 = .inr (11, [.ref 531, .int (iI 0), .ref 532, .int (iI (o 1)), .int (iI b1), .int (iI (o 5)), .int (iI g1), .int (iI at5158), .int (iI en5159), .int (iI tk5160), .int (iI nu5161), .int (iI dg5162), .long nm5163, .ref 533, .ref 534, .ref 535, .ref 536, .ref 537, .ref 538, .ref 539, .ref 540, .ref 541, .ref 542, .ref 543, .ref 544, .ref 545, .ref 546, .ref 547, .int (iI rc), .int (iI kc), .int (iI wc), .int (iI (o 31)), .int (iI (o 32)), .int (iI (o 33)), .ref 548, .ref 549, .ref 550, .ref 551, .int (iI (o 38)), .ref 552, .ref 553, .ref 554, .ref 555, .ref 556, .ref 557, .ref 558, .ref 559, .ref 560, .ref 561, .int (iI (o 49)), .ref 562, .ref 563, .ref 564, .ref 565, .ref 566, .ref 567, .ref 568, .ref 569, .int (iI (o 58)), .ref 570, .ref 571, .ref 572, .ref 573, .ref 574, .ref 575, .ref 576, .ref 577, .ref 578, .int (iI (o 68)), .int (iI (o 69)), .int (iI (o 70)), .ref 579]) := hM5166
                              obtain ⟨⟨_, _⟩, ⟨_, _⟩, hk5169, ⟨_, _⟩, hk5169e, ⟨_, _⟩, ⟨_, _⟩⟩ := R_tk_f hX hp5165
                              show X_T sc 162 (268, [(3, .int (iI 0)), (1, .long (ct ck)), (0, .ref 530)], [], S5156) _
                              refine T_p xr_162_268 xn_162 (pc' := 269) (ls' := [(3, .int (iI 0)), (1, .long (ct ck)), (0, .ref 530)]) (st' := [.ref 530]) rfl ?_
                              refine T_cv (S := S5156) (q := 530) xr_162_269 xf_140.1 xf_140.2.1 xn_140 (as := []) (r := []) rfl h5168 (Nat.le_of_ble_eq_true rfl) (Nat.le_of_ble_eq_true rfl) (pc' := 272) rfl (ls' := [(0, .ref 530)]) rfl ?_
                              refine T_mono (r_isGood sc S5156 (X_ou (X_ou (X_ou (X_ou (X_ou (X_ou (X_ou (X_ou (X_ou (X_ou (X_ou (X_ou o 1 0) 3 (o 1)) 4 b1) 6 g1) 7 at5158) 8 en5159) 9 tk5160) 10 nu5161) 11 dg5162) 28 rc) 29 kc) 30 wc) nm5163 h5168 (show 0 ≤ (o 5) ∧ (o 5) ≤ 5 from by omega)) (fun v5170 S5171 h5172 => ?_)
                              rcases h5172 with ⟨hv5173, hf5174⟩
                              rw [hv5173]
                              rw [hf5174]
                              show X_T sc 162 (272, [(3, .int (iI 0)), (1, .long (ct ck)), (0, .ref 530)], [.int (iI (bI ((o 5) = 0)))], S5156) _
                              refine T_bif_ne xr_162_272 (t := 278) (pc' := 275) rfl rfl (fun c5175 => ?_) (fun c5175 => ?_)
                              · skip
                                have c5175 : ((o 5) = 0) := c5175
                                refine T_p xr_162_278 xn_162 (pc' := 279) (ls' := [(3, .int (iI 0)), (1, .long (ct ck)), (0, .ref 530)]) (st' := [.long (ct ck)]) rfl ?_
                                refine T_p xr_162_279 xn_162 (pc' := 282) (ls' := [(3, .int (iI 0)), (1, .long (ct ck)), (0, .ref 530)]) (st' := [.long (Int64.ofNat 1918987883), .long (ct ck)]) rfl ?_
                                refine T_lc_ne xr_162_282 xr_162_283 (t := 293) (pc' := 286) rfl rfl (fun c5176 => ?_) (fun c5176 => ?_)
                                · skip
                                  have c5176 : ¬ (ct ck) = (Int64.ofNat 1918987883) := c5176
                                  refine T_p xr_162_293 xn_162 (pc' := 294) (ls' := [(3, .int (iI 0)), (1, .long (ct ck)), (0, .ref 530)]) (st' := [.long (ct ck)]) rfl ?_
                                  refine T_p xr_162_294 xn_162 (pc' := 297) (ls' := [(3, .int (iI 0)), (1, .long (ct ck)), (0, .ref 530)]) (st' := [.long (Int64.ofNat 32766990153442674), .long (ct ck)]) rfl ?_
                                  refine T_lc_ne xr_162_297 xr_162_298 (t := 308) (pc' := 301) rfl rfl (fun c5177 => ?_) (fun c5177 => ?_)
                                  · skip
                                    have c5177 : ¬ (ct ck) = (Int64.ofNat 32766990153442674) := c5177
                                    exact absurd c5147 c5177
                                  · skip
                                    have c5177 : ¬ (¬ (ct ck) = (Int64.ofNat 32766990153442674)) := c5177
                                    refine T_p xr_162_301 xn_162 (pc' := 302) (ls' := [(3, .int (iI 0)), (1, .long (ct ck)), (0, .ref 530)]) (st' := [.ref 530]) rfl ?_
                                    refine T_cv (S := S5156) (q := 530) xr_162_302 xf_155.1 xf_155.2.1 xn_155 (as := []) (r := []) rfl h5168 (Nat.le_of_ble_eq_true rfl) (Nat.le_of_ble_eq_true rfl) (pc' := 305) rfl (ls' := [(0, .ref 530)]) rfl ?_
                                    have h5178 := (hf5167.1 532 (by omega)).trans (h5154)
                                    have h5179 := (hf5167.1 533 (by omega)).trans (hA533_)
                                    have h5180 := (hf5167.1 535 (by omega)).trans (hA535_)
                                    refine T_mono (r_readTighter sc S5156 (X_ou (X_ou (X_ou (X_ou (X_ou (X_ou (X_ou (X_ou (X_ou (X_ou (X_ou (X_ou o 1 0) 3 (o 1)) 4 b1) 6 g1) 7 at5158) 8 en5159) 9 tk5160) 10 nu5161) 11 dg5162) 28 rc) 29 kc) 30 wc) nm5163 tx1 rN1 tg1 tb len n so pl ct E (X_av n ck) c0 rc kc wc rn lo kn ab D W h5168 h5178 h5179 h5180 (show (o 1) = len from by first | assumption | omega) hl htx hX hp5165 (show (o 5) = 0 from by omega) (show rc = rc from by omega) (by omega) (show 0 ≤ b1 ∧ b1 ≤ 1 from by omega) (by omega) hB1r) (fun v5181 S5182 h5183 => ?_)
                                    rcases h5183 with ⟨at5184, en5185, tk5186, nu5187, dg5188, nm5189, tg5190, hv5191, hp5192, hp5193, hp5194, hp5195, hM5196, ha5197, hf5198⟩ | ⟨at5199, en5200, tk5201, nu5202, dg5203, nm5204, f5205, g5206, tg5207, hv5208, hp5209, hp5210, hp5211, hM5212, ha5213, hf5214⟩
                                    · skip
                                      rw [hv5191]
                                      have h5215 : S5182.1 530 = .inr (11, [.ref 531, .int (iI 0), .ref 532, .int (iI (o 1)), .int (iI b1), .int (iI (o 5)), .int (iI g1), .int (iI at5184), .int (iI en5185), .int (iI tk5186), .int (iI nu5187), .int (iI dg5188), .long nm5189, .ref 533, .ref 534, .ref 535, .ref 536, .ref 537, .ref 538, .ref 539, .ref 540, .ref 541, .ref 542, .ref 543, .ref 544, .ref 545, .ref 546, .ref 547, .int (iI rc), .int (iI kc), .int (iI wc), .int (iI (o 31)), .int (iI (o 32)), .int (iI (o 33)), .ref 548, .ref 549, .ref 550, .ref 551, .int (iI (o 38)), .ref 552, .ref 553, .ref 554, .ref 555, .ref 556, .ref 557, .ref 558, .ref 559, .ref 560, .ref 561, .int (iI (o 49)), .ref 562, .ref 563, .ref 564, .ref 565, .ref 566, .ref 567, .ref 568, .ref 569, .int (iI (o 58)), .ref 570, .ref 571, .ref 572, .ref 573, .ref 574, .ref 575, .ref 576, .ref 577, .ref 578, .int (iI (o 68)), .int (iI (o 69)), .int (iI (o 70)), .ref 579]) := hM5196
                                      have hp5194 : R_rk (b1) rc rn (X_tf rc lo (X_ix rn rc (ct (X_av n ck))) (X_ix rn rc (ct (X_av n (X_av n ck))))) rN1 tg5190 := hp5194
                                      have hp5195 : R_ob 144 (b1) tg1 tg5190 := hp5195
                                      obtain ⟨⟨_, _⟩, ⟨_, _⟩, hk5216, ⟨_, _⟩, hk5216e, ⟨_, _⟩, ⟨_, _⟩⟩ := R_tk_f hX hp5192
                                      show X_T sc 162 (305, [(3, .int (iI 0)), (1, .long (ct ck)), (0, .ref 530)], [], S5182) _
                                      refine T_p xr_162_305 xn_162 (pc' := 327) (ls' := [(3, .int (iI 0)), (1, .long (ct ck)), (0, .ref 530)]) (st' := []) rfl ?_
                                      refine T_p xr_162_327 xn_162 (pc' := 113) (ls' := [(3, .int (iI 0)), (1, .long (ct ck)), (0, .ref 530)]) (st' := []) rfl ?_
                                      have h5218 := (hf5198.1 533 (by omega)).trans (h5179)
                                      have h5219 := (hf5198.1 534 (by omega)).trans ((hf5167.1 534 (by omega)).trans (hA534_))
                                      have h5220 := (hf5198.1 536 (by omega)).trans ((hf5167.1 536 (by omega)).trans (hA536_))
                                      have h5221 := (hf5198.1 537 (by omega)).trans ((hf5167.1 537 (by omega)).trans (hA537_))
                                      have h5222 := (hf5198.1 538 (by omega)).trans ((hf5167.1 538 (by omega)).trans (hA538_))
                                      have h5223 := (hf5198.1 539 (by omega)).trans ((hf5167.1 539 (by omega)).trans (hA539_))
                                      have h5224 := (hf5198.1 540 (by omega)).trans ((hf5167.1 540 (by omega)).trans (hA540_))
                                      have h5225 := (hf5198.1 541 (by omega)).trans ((hf5167.1 541 (by omega)).trans (hA541_))
                                      have h5226 := (hf5198.1 542 (by omega)).trans ((hf5167.1 542 (by omega)).trans (hA542_))
                                      have h5227 := (hf5198.1 543 (by omega)).trans ((hf5167.1 543 (by omega)).trans (hA543_))
                                      have h5228 := (hf5198.1 544 (by omega)).trans ((hf5167.1 544 (by omega)).trans (hA544_))
                                      have h5229 := (hf5198.1 545 (by omega)).trans ((hf5167.1 545 (by omega)).trans (hA545_))
                                      have h5230 := (hf5198.1 546 (by omega)).trans ((hf5167.1 546 (by omega)).trans (hA546_))
                                      have h5231 := (hf5198.1 547 (by omega)).trans ((hf5167.1 547 (by omega)).trans (hA547_))
                                      have hl5232 : sp_line n so ct (ck, rc, kc, wc, rn, lo, kn, ab, D, W) = none := by
                                        show (if so ck = 3 ∧ ct ck = Int64.ofNat 1918987883 then _ else if so ck = 3 ∧ ct ck = Int64.ofNat 32766990153442674 then _ else if so ck = 3 ∧ ct ck = Int64.ofNat 1802071652 then _ else if so ck = 3 ∧ ct ck = Int64.ofNat 2003792484 then _ else none) = _
                                        rw [if_neg (fun z => absurd ((c5147).symm.trans z.2) (by decide))]
                                        rw [if_pos ⟨by omega, c5147⟩]
                                        exact hp5193
                                      refine T_sub (ls := [(0, .ref 530)]) ⟨rfl, trivial⟩ rfl rfl ?_
                                      exact ih4968 S5182 (line + 1) (ck, rc, kc, wc, rn, lo, kn, ab, D, W) (o 5) g1 at5184 en5185 tk5186 nu5187 dg5188 rc kc wc nm5189 rN1 kN1 tg5190 kU1 wR1 wL1 wK1 wM1 wH1 wS1 sO1 sN1 eP1 eH1 hK1 h5215 h5218 h5219 ha5197 h5220 h5221 h5222 h5223 h5224 h5225 h5226 h5227 h5228 h5229 h5230 h5231 (hF4971.tr (((X_Fr.rf).tr (X_Fr.mono ⟨hf5167.1, hf5167.2⟩ (fun q hq => (by omega)))).tr (X_Fr.mono ⟨hf5198.1, hf5198.2⟩ (fun q hq => (by omega))))) (by omega) (fun z => absurd z (by omega)) (fun _ => by
                                            rw [← hR, show (2001 - line).toNat = (2001 - (line + 1)).toNat + 1 by omega]
                                            show (if so ck = 0 then _ else _) = _
                                            rw [if_neg (by omega), hl5232]
                                            rfl) (hO.frR hbb hOk R_ob.rf hp5195) (by omega)
                                    · skip
                                      rw [hv5208]
                                      have h5217 : S5182.1 530 = .inr (11, [.ref 531, .int (iI 0), .ref 532, .int (iI (o 1)), .int (iI b1), .int (iI f5205), .int (iI g5206), .int (iI at5199), .int (iI en5200), .int (iI tk5201), .int (iI nu5202), .int (iI dg5203), .long nm5204, .ref 533, .ref 534, .ref 535, .ref 536, .ref 537, .ref 538, .ref 539, .ref 540, .ref 541, .ref 542, .ref 543, .ref 544, .ref 545, .ref 546, .ref 547, .int (iI rc), .int (iI kc), .int (iI wc), .int (iI (o 31)), .int (iI (o 32)), .int (iI (o 33)), .ref 548, .ref 549, .ref 550, .ref 551, .int (iI (o 38)), .ref 552, .ref 553, .ref 554, .ref 555, .ref 556, .ref 557, .ref 558, .ref 559, .ref 560, .ref 561, .int (iI (o 49)), .ref 562, .ref 563, .ref 564, .ref 565, .ref 566, .ref 567, .ref 568, .ref 569, .int (iI (o 58)), .ref 570, .ref 571, .ref 572, .ref 573, .ref 574, .ref 575, .ref 576, .ref 577, .ref 578, .int (iI (o 68)), .int (iI (o 69)), .int (iI (o 70)), .ref 579]) := hM5212
                                      have hp5211 : R_ob 144 (b1) tg1 tg5207 := hp5211
                                      show X_T sc 162 (305, [(3, .int (iI 0)), (1, .long (ct ck)), (0, .ref 530)], [], S5182) _
                                      refine T_p xr_162_305 xn_162 (pc' := 327) (ls' := [(3, .int (iI 0)), (1, .long (ct ck)), (0, .ref 530)]) (st' := []) rfl ?_
                                      refine T_p xr_162_327 xn_162 (pc' := 113) (ls' := [(3, .int (iI 0)), (1, .long (ct ck)), (0, .ref 530)]) (st' := []) rfl ?_
                                      have h5233 := (hf5214.1 533 (by omega)).trans (h5179)
                                      have h5234 := (hf5214.1 534 (by omega)).trans ((hf5167.1 534 (by omega)).trans (hA534_))
                                      have h5235 := (hf5214.1 536 (by omega)).trans ((hf5167.1 536 (by omega)).trans (hA536_))
                                      have h5236 := (hf5214.1 537 (by omega)).trans ((hf5167.1 537 (by omega)).trans (hA537_))
                                      have h5237 := (hf5214.1 538 (by omega)).trans ((hf5167.1 538 (by omega)).trans (hA538_))
                                      have h5238 := (hf5214.1 539 (by omega)).trans ((hf5167.1 539 (by omega)).trans (hA539_))
                                      have h5239 := (hf5214.1 540 (by omega)).trans ((hf5167.1 540 (by omega)).trans (hA540_))
                                      have h5240 := (hf5214.1 541 (by omega)).trans ((hf5167.1 541 (by omega)).trans (hA541_))
                                      have h5241 := (hf5214.1 542 (by omega)).trans ((hf5167.1 542 (by omega)).trans (hA542_))
                                      have h5242 := (hf5214.1 543 (by omega)).trans ((hf5167.1 543 (by omega)).trans (hA543_))
                                      have h5243 := (hf5214.1 544 (by omega)).trans ((hf5167.1 544 (by omega)).trans (hA544_))
                                      have h5244 := (hf5214.1 545 (by omega)).trans ((hf5167.1 545 (by omega)).trans (hA545_))
                                      have h5245 := (hf5214.1 546 (by omega)).trans ((hf5167.1 546 (by omega)).trans (hA546_))
                                      have h5246 := (hf5214.1 547 (by omega)).trans ((hf5167.1 547 (by omega)).trans (hA547_))
                                      have hl5247 : sp_line n so ct (ck, rc, kc, wc, rn, lo, kn, ab, D, W) = none := by
                                        show (if so ck = 3 ∧ ct ck = Int64.ofNat 1918987883 then _ else if so ck = 3 ∧ ct ck = Int64.ofNat 32766990153442674 then _ else if so ck = 3 ∧ ct ck = Int64.ofNat 1802071652 then _ else if so ck = 3 ∧ ct ck = Int64.ofNat 2003792484 then _ else none) = _
                                        rw [if_neg (fun z => absurd ((c5147).symm.trans z.2) (by decide))]
                                        rw [if_pos ⟨by omega, c5147⟩]
                                        exact hp5210
                                      refine T_sub (ls := [(0, .ref 530)]) ⟨rfl, trivial⟩ rfl rfl ?_
                                      exact ih4968 S5182 (line + 1) (ck, rc, kc, wc, rn, lo, kn, ab, D, W) f5205 g5206 at5199 en5200 tk5201 nu5202 dg5203 rc kc wc nm5204 rN1 kN1 tg5207 kU1 wR1 wL1 wK1 wM1 wH1 wS1 sO1 sN1 eP1 eH1 hK1 h5217 h5233 h5234 ha5213 h5235 h5236 h5237 h5238 h5239 h5240 h5241 h5242 h5243 h5244 h5245 h5246 (hF4971.tr (((X_Fr.rf).tr (X_Fr.mono ⟨hf5167.1, hf5167.2⟩ (fun q hq => (by omega)))).tr (X_Fr.mono ⟨hf5214.1, hf5214.2⟩ (fun q hq => (by omega))))) (by omega) (fun z => absurd z (by omega)) (fun _ => by
                                            rw [← hR, show (2001 - line).toNat = (2001 - (line + 1)).toNat + 1 by omega]
                                            show (if so ck = 0 then _ else _) = _
                                            rw [if_neg (by omega), hl5247]
                                            rfl) (hO.frR hbb hOk R_ob.rf hp5211) (by omega)
                                · skip
                                  have c5176 : ¬ (¬ (ct ck) = (Int64.ofNat 1918987883)) := c5176
                                  exact absurd (show ct ck = Int64.ofNat 1918987883 from (by first | exact c5176 | exact Classical.not_not.mp c5176)) c5143
                              · skip
                                have c5175 : ¬ ((o 5) = 0) := c5175
                                exact (show False by first | contradiction | omega).elim
                          · skip
                            have c5147 : ¬ ((ct ck) = (Int64.ofNat 32766990153442674)) := c5147
                            refine T_p xr_162_233 xn_162 (pc' := 234) (ls' := [(3, .int (iI 0)), (1, .long (ct ck)), (0, .ref 530)]) (st' := [.long (ct ck)]) rfl ?_
                            refine T_p xr_162_234 xn_162 (pc' := 237) (ls' := [(3, .int (iI 0)), (1, .long (ct ck)), (0, .ref 530)]) (st' := [.long (Int64.ofNat 1802071652), .long (ct ck)]) rfl ?_
                            refine T_lc_eq xr_162_237 xr_162_238 (t := 249) (pc' := 241) rfl rfl (fun c5248 => ?_) (fun c5248 => ?_)
                            · skip
                              have c5248 : (ct ck) = (Int64.ofNat 1802071652) := c5248
                              exact absurd (show ct ck = Int64.ofNat 1802071652 from (by first | exact c5248 | exact Classical.not_not.mp c5248)) c5144
                            · skip
                              have c5248 : ¬ ((ct ck) = (Int64.ofNat 1802071652)) := c5248
                              refine T_p xr_162_241 xn_162 (pc' := 242) (ls' := [(3, .int (iI 0)), (1, .long (ct ck)), (0, .ref 530)]) (st' := [.long (ct ck)]) rfl ?_
                              refine T_p xr_162_242 xn_162 (pc' := 245) (ls' := [(3, .int (iI 0)), (1, .long (ct ck)), (0, .ref 530)]) (st' := [.long (Int64.ofNat 2003792484), .long (ct ck)]) rfl ?_
                              refine T_lc_ne xr_162_245 xr_162_246 (t := 253) (pc' := 249) rfl rfl (fun c5249 => ?_) (fun c5249 => ?_)
                              · skip
                                have c5249 : ¬ (ct ck) = (Int64.ofNat 2003792484) := c5249
                                refine T_p xr_162_253 xn_162 (pc' := 254) (ls' := [(3, .int (iI 0)), (1, .long (ct ck)), (0, .ref 530)]) (st' := [.ref 530]) rfl ?_
                                refine T_cv (S := S4987) (q := 530) xr_162_254 xf_147.1 xf_147.2.1 xn_147 (as := []) (r := []) rfl hM5034 (Nat.le_of_ble_eq_true rfl) (Nat.le_of_ble_eq_true rfl) (pc' := 257) rfl (ls' := [(0, .ref 530)]) rfl ?_
                                have h5250 := (hF4971.1 532 (by omega)).trans ((hf4964.1 532 (by omega)).trans (h4951))
                                refine T_mono (r_wrong sc S4987 (X_ou (X_ou (X_ou (X_ou (X_ou (X_ou (X_ou (X_ou (X_ou (X_ou (X_ou (X_ou o 1 0) 3 (o 1)) 4 b1) 6 g1) 7 at1) 8 en1) 9 tk1) 10 nu1) 11 dg1) 28 rc) 29 kc) 30 wc) nm1 tx1 tb len n so pl ct E ck hM5034 h5250 (show (o 1) = len from by first | assumption | omega) hl htx hX hT1 (show 0 ≤ (o 5) ∧ (o 5) ≤ 5 from by omega)) (fun v5251 S5252 h5253 => ?_)
                                rcases h5253 with ⟨f5254, g5255, hv5256, hp5257, hM5258, hf5259⟩
                                rw [hv5256]
                                have h5260 : S5252.1 530 = .inr (11, [.ref 531, .int (iI 0), .ref 532, .int (iI (o 1)), .int (iI b1), .int (iI f5254), .int (iI g5255), .int (iI at1), .int (iI en1), .int (iI tk1), .int (iI nu1), .int (iI dg1), .long nm1, .ref 533, .ref 534, .ref 535, .ref 536, .ref 537, .ref 538, .ref 539, .ref 540, .ref 541, .ref 542, .ref 543, .ref 544, .ref 545, .ref 546, .ref 547, .int (iI rc), .int (iI kc), .int (iI wc), .int (iI (o 31)), .int (iI (o 32)), .int (iI (o 33)), .ref 548, .ref 549, .ref 550, .ref 551, .int (iI (o 38)), .ref 552, .ref 553, .ref 554, .ref 555, .ref 556, .ref 557, .ref 558, .ref 559, .ref 560, .ref 561, .int (iI (o 49)), .ref 562, .ref 563, .ref 564, .ref 565, .ref 566, .ref 567, .ref 568, .ref 569, .int (iI (o 58)), .ref 570, .ref 571, .ref 572, .ref 573, .ref 574, .ref 575, .ref 576, .ref 577, .ref 578, .int (iI (o 68)), .int (iI (o 69)), .int (iI (o 70)), .ref 579]) := hM5258
                                show X_T sc 162 (257, [(3, .int (iI 0)), (1, .long (ct ck)), (0, .ref 530)], [], S5252) _
                                refine T_p xr_162_257 xn_162 (pc' := 258) (ls' := [(3, .int (iI 0)), (1, .long (ct ck)), (0, .ref 530)]) (st' := [.ref 530]) rfl ?_
                                refine T_cv (S := S5252) (q := 530) xr_162_258 xf_140.1 xf_140.2.1 xn_140 (as := []) (r := []) rfl h5260 (Nat.le_of_ble_eq_true rfl) (Nat.le_of_ble_eq_true rfl) (pc' := 261) rfl (ls' := [(0, .ref 530)]) rfl ?_
                                refine T_mono (r_isGood sc S5252 (X_ou (X_ou (X_ou (X_ou (X_ou (X_ou (X_ou (X_ou (X_ou (X_ou (X_ou (X_ou (X_ou o 1 0) 3 (o 1)) 4 b1) 5 f5254) 6 g5255) 7 at1) 8 en1) 9 tk1) 10 nu1) 11 dg1) 28 rc) 29 kc) 30 wc) nm1 h5260 (show 0 ≤ f5254 ∧ f5254 ≤ 5 from by omega)) (fun v5261 S5262 h5263 => ?_)
                                rcases h5263 with ⟨hv5264, hf5265⟩
                                rw [hv5264]
                                rw [hf5265]
                                show X_T sc 162 (261, [(3, .int (iI 0)), (1, .long (ct ck)), (0, .ref 530)], [.int (iI (bI (f5254 = 0)))], S5252) _
                                refine T_bif_eq xr_162_261 (t := 268) (pc' := 264) rfl rfl (fun c5266 => ?_) (fun c5266 => ?_)
                                · skip
                                  have c5266 : ¬ (f5254 = 0) := c5266
                                  refine T_p xr_162_268 xn_162 (pc' := 269) (ls' := [(3, .int (iI 0)), (1, .long (ct ck)), (0, .ref 530)]) (st' := [.ref 530]) rfl ?_
                                  refine T_cv (S := S5252) (q := 530) xr_162_269 xf_140.1 xf_140.2.1 xn_140 (as := []) (r := []) rfl h5260 (Nat.le_of_ble_eq_true rfl) (Nat.le_of_ble_eq_true rfl) (pc' := 272) rfl (ls' := [(0, .ref 530)]) rfl ?_
                                  refine T_mono (r_isGood sc S5252 (X_ou (X_ou (X_ou (X_ou (X_ou (X_ou (X_ou (X_ou (X_ou (X_ou (X_ou (X_ou (X_ou o 1 0) 3 (o 1)) 4 b1) 5 f5254) 6 g5255) 7 at1) 8 en1) 9 tk1) 10 nu1) 11 dg1) 28 rc) 29 kc) 30 wc) nm1 h5260 (show 0 ≤ f5254 ∧ f5254 ≤ 5 from by omega)) (fun v5267 S5268 h5269 => ?_)
                                  rcases h5269 with ⟨hv5270, hf5271⟩
                                  rw [hv5270]
                                  rw [hf5271]
                                  show X_T sc 162 (272, [(3, .int (iI 0)), (1, .long (ct ck)), (0, .ref 530)], [.int (iI (bI (f5254 = 0)))], S5252) _
                                  refine T_bif_ne xr_162_272 (t := 278) (pc' := 275) rfl rfl (fun c5272 => ?_) (fun c5272 => ?_)
                                  · skip
                                    have c5272 : (f5254 = 0) := c5272
                                    exact (show False by first | contradiction | omega).elim
                                  · skip
                                    have c5272 : ¬ (f5254 = 0) := c5272
                                    refine T_p xr_162_275 xn_162 (pc' := 113) (ls' := [(3, .int (iI 0)), (1, .long (ct ck)), (0, .ref 530)]) (st' := []) rfl ?_
                                    have h5273 := (hf5259.1 533 (by omega)).trans (hA533_)
                                    have h5274 := (hf5259.1 534 (by omega)).trans (hA534_)
                                    have h5275 := (hf5259.1 535 (by omega)).trans (hA535_)
                                    have h5276 := (hf5259.1 536 (by omega)).trans (hA536_)
                                    have h5277 := (hf5259.1 537 (by omega)).trans (hA537_)
                                    have h5278 := (hf5259.1 538 (by omega)).trans (hA538_)
                                    have h5279 := (hf5259.1 539 (by omega)).trans (hA539_)
                                    have h5280 := (hf5259.1 540 (by omega)).trans (hA540_)
                                    have h5281 := (hf5259.1 541 (by omega)).trans (hA541_)
                                    have h5282 := (hf5259.1 542 (by omega)).trans (hA542_)
                                    have h5283 := (hf5259.1 543 (by omega)).trans (hA543_)
                                    have h5284 := (hf5259.1 544 (by omega)).trans (hA544_)
                                    have h5285 := (hf5259.1 545 (by omega)).trans (hA545_)
                                    have h5286 := (hf5259.1 546 (by omega)).trans (hA546_)
                                    have h5287 := (hf5259.1 547 (by omega)).trans (hA547_)
                                    have hl5288 : sp_line n so ct (ck, rc, kc, wc, rn, lo, kn, ab, D, W) = none := by
                                      show (if so ck = 3 ∧ ct ck = Int64.ofNat 1918987883 then _ else if so ck = 3 ∧ ct ck = Int64.ofNat 32766990153442674 then _ else if so ck = 3 ∧ ct ck = Int64.ofNat 1802071652 then _ else if so ck = 3 ∧ ct ck = Int64.ofNat 2003792484 then _ else none) = _
                                      rw [if_neg (fun z => by first | omega | exact absurd z.2 (by assumption) | exact absurd z.2 (c5143))]
                                      rw [if_neg (fun z => by first | omega | exact absurd z.2 (by assumption) | exact absurd z.2 (c5147))]
                                      rw [if_neg (fun z => by first | omega | exact absurd z.2 (by assumption) | exact absurd z.2 (c5144))]
                                      rw [if_neg (fun z => by first | omega | exact absurd z.2 (by assumption) | exact absurd z.2 (c5145))]
                                    refine T_sub (ls := [(0, .ref 530)]) ⟨rfl, trivial⟩ rfl rfl ?_
                                    exact ih4968 S5252 (line + 1) (ck, rc, kc, wc, rn, lo, kn, ab, D, W) f5254 g5255 at1 en1 tk1 nu1 dg1 rc kc wc nm1 rN1 kN1 tg1 kU1 wR1 wL1 wK1 wM1 wH1 wS1 sO1 sN1 eP1 eH1 hK1 h5260 h5273 h5274 h5275 h5276 h5277 h5278 h5279 h5280 h5281 h5282 h5283 h5284 h5285 h5286 h5287 (hF4971.tr ((X_Fr.rf).tr (X_Fr.mono ⟨hf5259.1, hf5259.2⟩ (fun q hq => (by omega))))) (by omega) (fun z => absurd z (by omega)) (fun _ => by
                                          rw [← hR, show (2001 - line).toNat = (2001 - (line + 1)).toNat + 1 by omega]
                                          show (if so ck = 0 then _ else _) = _
                                          rw [if_neg (by omega), hl5288]
                                          rfl) hO (by omega)
                                · skip
                                  have c5266 : (f5254 = 0) := c5266
                                  exact (show False by first | contradiction | omega).elim
                              · skip
                                have c5249 : ¬ (¬ (ct ck) = (Int64.ofNat 2003792484)) := c5249
                                exact absurd (show ct ck = Int64.ofNat 2003792484 from (by first | exact c5249 | exact Classical.not_not.mp c5249)) c5145
                      · skip
                        have c5145 : ¬ (¬ (ct ck) = (Int64.ofNat 2003792484)) := c5145
                        refine T_p xr_162_202 xn_162 (pc' := 203) (ls' := [(1, .long (ct ck)), (0, .ref 530)]) (st' := [.ref 530]) rfl ?_
                        refine T_get xr_162_203 hM5034 rfl (v := .int (iI wc)) rfl (pc' := 206) rfl ?_
                        refine T_p xr_162_206 xn_162 (pc' := 208) (ls' := [(1, .long (ct ck)), (0, .ref 530)]) (st' := [.int (iI 30), .int (iI wc)]) rfl ?_
                        refine T_zicmp_ne xr_162_208 (t := 215) (pc' := 211) rfl rfl (fun c5289 => ?_) (fun c5289 => ?_)
                        · skip
                          have c5289 : ¬ wc = 30 := c5289
                          refine T_p xr_162_215 xn_162 (pc' := 216) (ls' := [(1, .long (ct ck)), (0, .ref 530)]) (st' := [.int (iI 0)]) rfl ?_
                          refine T_p xr_162_216 xn_162 (pc' := 217) (ls' := [(3, .int (iI 0)), (1, .long (ct ck)), (0, .ref 530)]) (st' := []) rfl ?_
                          refine T_p xr_162_217 xn_162 (pc' := 218) (ls' := [(3, .int (iI 0)), (1, .long (ct ck)), (0, .ref 530)]) (st' := [.long (ct ck)]) rfl ?_
                          refine T_p xr_162_218 xn_162 (pc' := 221) (ls' := [(3, .int (iI 0)), (1, .long (ct ck)), (0, .ref 530)]) (st' := [.long (Int64.ofNat 1918987883), .long (ct ck)]) rfl ?_
                          refine T_lc_eq xr_162_221 xr_162_222 (t := 249) (pc' := 225) rfl rfl (fun c5290 => ?_) (fun c5290 => ?_)
                          · skip
                            have c5290 : (ct ck) = (Int64.ofNat 1918987883) := c5290
                            exact absurd (show ct ck = Int64.ofNat 1918987883 from (by first | exact c5290 | exact Classical.not_not.mp c5290)) c5143
                          · skip
                            have c5290 : ¬ ((ct ck) = (Int64.ofNat 1918987883)) := c5290
                            refine T_p xr_162_225 xn_162 (pc' := 226) (ls' := [(3, .int (iI 0)), (1, .long (ct ck)), (0, .ref 530)]) (st' := [.long (ct ck)]) rfl ?_
                            refine T_p xr_162_226 xn_162 (pc' := 229) (ls' := [(3, .int (iI 0)), (1, .long (ct ck)), (0, .ref 530)]) (st' := [.long (Int64.ofNat 32766990153442674), .long (ct ck)]) rfl ?_
                            refine T_lc_eq xr_162_229 xr_162_230 (t := 249) (pc' := 233) rfl rfl (fun c5291 => ?_) (fun c5291 => ?_)
                            · skip
                              have c5291 : (ct ck) = (Int64.ofNat 32766990153442674) := c5291
                              exact absurd (((Classical.not_not.mp c5145)).symm.trans (show ct ck = Int64.ofNat 32766990153442674 from (by first | exact c5291 | exact Classical.not_not.mp c5291))) (by decide)
                            · skip
                              have c5291 : ¬ ((ct ck) = (Int64.ofNat 32766990153442674)) := c5291
                              refine T_p xr_162_233 xn_162 (pc' := 234) (ls' := [(3, .int (iI 0)), (1, .long (ct ck)), (0, .ref 530)]) (st' := [.long (ct ck)]) rfl ?_
                              refine T_p xr_162_234 xn_162 (pc' := 237) (ls' := [(3, .int (iI 0)), (1, .long (ct ck)), (0, .ref 530)]) (st' := [.long (Int64.ofNat 1802071652), .long (ct ck)]) rfl ?_
                              refine T_lc_eq xr_162_237 xr_162_238 (t := 249) (pc' := 241) rfl rfl (fun c5292 => ?_) (fun c5292 => ?_)
                              · skip
                                have c5292 : (ct ck) = (Int64.ofNat 1802071652) := c5292
                                exact absurd (show ct ck = Int64.ofNat 1802071652 from (by first | exact c5292 | exact Classical.not_not.mp c5292)) c5144
                              · skip
                                have c5292 : ¬ ((ct ck) = (Int64.ofNat 1802071652)) := c5292
                                refine T_p xr_162_241 xn_162 (pc' := 242) (ls' := [(3, .int (iI 0)), (1, .long (ct ck)), (0, .ref 530)]) (st' := [.long (ct ck)]) rfl ?_
                                refine T_p xr_162_242 xn_162 (pc' := 245) (ls' := [(3, .int (iI 0)), (1, .long (ct ck)), (0, .ref 530)]) (st' := [.long (Int64.ofNat 2003792484), .long (ct ck)]) rfl ?_
                                refine T_lc_ne xr_162_245 xr_162_246 (t := 253) (pc' := 249) rfl rfl (fun c5293 => ?_) (fun c5293 => ?_)
                                · skip
                                  have c5293 : ¬ (ct ck) = (Int64.ofNat 2003792484) := c5293
                                  exact absurd (Classical.not_not.mp c5145) c5293
                                · skip
                                  have c5293 : ¬ (¬ (ct ck) = (Int64.ofNat 2003792484)) := c5293
                                  refine T_p xr_162_249 xn_162 (pc' := 250) (ls' := [(3, .int (iI 0)), (1, .long (ct ck)), (0, .ref 530)]) (st' := [.int (iI 0)]) rfl ?_
                                  refine T_zif_eqt xr_162_250 (t := 257) rfl (by decide) ?_
                                  refine T_p xr_162_257 xn_162 (pc' := 258) (ls' := [(3, .int (iI 0)), (1, .long (ct ck)), (0, .ref 530)]) (st' := [.ref 530]) rfl ?_
                                  refine T_cv (S := S4987) (q := 530) xr_162_258 xf_140.1 xf_140.2.1 xn_140 (as := []) (r := []) rfl hM5034 (Nat.le_of_ble_eq_true rfl) (Nat.le_of_ble_eq_true rfl) (pc' := 261) rfl (ls' := [(0, .ref 530)]) rfl ?_
                                  refine T_mono (r_isGood sc S4987 (X_ou (X_ou (X_ou (X_ou (X_ou (X_ou (X_ou (X_ou (X_ou (X_ou (X_ou (X_ou o 1 0) 3 (o 1)) 4 b1) 6 g1) 7 at1) 8 en1) 9 tk1) 10 nu1) 11 dg1) 28 rc) 29 kc) 30 wc) nm1 hM5034 (show 0 ≤ (o 5) ∧ (o 5) ≤ 5 from by omega)) (fun v5294 S5295 h5296 => ?_)
                                  rcases h5296 with ⟨hv5297, hf5298⟩
                                  rw [hv5297]
                                  rw [hf5298]
                                  show X_T sc 162 (261, [(3, .int (iI 0)), (1, .long (ct ck)), (0, .ref 530)], [.int (iI (bI ((o 5) = 0)))], S4987) _
                                  refine T_bif_eq xr_162_261 (t := 268) (pc' := 264) rfl rfl (fun c5299 => ?_) (fun c5299 => ?_)
                                  · skip
                                    have c5299 : ¬ ((o 5) = 0) := c5299
                                    exact (show False by first | contradiction | omega).elim
                                  · skip
                                    have c5299 : ((o 5) = 0) := c5299
                                    refine T_p xr_162_264 xn_162 (pc' := 265) (ls' := [(3, .int (iI 0)), (1, .long (ct ck)), (0, .ref 530)]) (st' := [.ref 530]) rfl ?_
                                    refine T_cv (S := S4987) (q := 530) xr_162_265 xf_141.1 xf_141.2.1 xn_141 (as := []) (r := []) rfl hM5034 (Nat.le_of_ble_eq_true rfl) (Nat.le_of_ble_eq_true rfl) (pc' := 268) rfl (ls' := [(0, .ref 530)]) rfl ?_
                                    have h5300 := (hF4971.1 532 (by omega)).trans ((hf4964.1 532 (by omega)).trans (h4951))
                                    refine T_mono (r_nx sc S4987 (X_ou (X_ou (X_ou (X_ou (X_ou (X_ou (X_ou (X_ou (X_ou (X_ou (X_ou (X_ou o 1 0) 3 (o 1)) 4 b1) 6 g1) 7 at1) 8 en1) 9 tk1) 10 nu1) 11 dg1) 28 rc) 29 kc) 30 wc) nm1 tx1 tb len n so pl ct E ck hM5034 h5300 (show (o 1) = len from by first | assumption | omega) hl htx hX hT1 (by omega)) (fun v5301 S5302 h5303 => ?_)
                                    rcases h5303 with ⟨at5304, en5305, tk5306, nu5307, dg5308, nm5309, hv5310, hp5311, hM5312, hf5313⟩
                                    rw [hv5310]
                                    have h5314 : S5302.1 530 = .inr (11, [.ref 531, .int (iI 0), .ref 532, .int (iI (o 1)), .int (iI b1), .int (iI (o 5)), .int (iI g1), .int (iI at5304), .int (iI en5305), .int (iI tk5306), .int (iI nu5307), .int (iI dg5308), .long nm5309, .ref 533, .ref 534, .ref 535, .ref 536, .ref 537, .ref 538, .ref 539, .ref 540, .ref 541, .ref 542, .ref 543, .ref 544, .ref 545, .ref 546, .ref 547, .int (iI rc), .int (iI kc), .int (iI wc), .int (iI (o 31)), .int (iI (o 32)), .int (iI (o 33)), .ref 548, .ref 549, .ref 550, .ref 551, .int (iI (o 38)), .ref 552, .ref 553, .ref 554, .ref 555, .ref 556, .ref 557, .ref 558, .ref 559, .ref 560, .ref 561, .int (iI (o 49)), .ref 562, .ref 563, .ref 564, .ref 565, .ref 566, .ref 567, .ref 568, .ref 569, .int (iI (o 58)), .ref 570, .ref 571, .ref 572, .ref 573, .ref 574, .ref 575, .ref 576, .ref 577, .ref 578, .int (iI (o 68)), .int (iI (o 69)), .int (iI (o 70)), .ref 579]) := hM5312
                                    obtain ⟨⟨_, _⟩, ⟨_, _⟩, hk5315, ⟨_, _⟩, hk5315e, ⟨_, _⟩, ⟨_, _⟩⟩ := R_tk_f hX hp5311
                                    show X_T sc 162 (268, [(3, .int (iI 0)), (1, .long (ct ck)), (0, .ref 530)], [], S5302) _
                                    refine T_p xr_162_268 xn_162 (pc' := 269) (ls' := [(3, .int (iI 0)), (1, .long (ct ck)), (0, .ref 530)]) (st' := [.ref 530]) rfl ?_
                                    refine T_cv (S := S5302) (q := 530) xr_162_269 xf_140.1 xf_140.2.1 xn_140 (as := []) (r := []) rfl h5314 (Nat.le_of_ble_eq_true rfl) (Nat.le_of_ble_eq_true rfl) (pc' := 272) rfl (ls' := [(0, .ref 530)]) rfl ?_
                                    refine T_mono (r_isGood sc S5302 (X_ou (X_ou (X_ou (X_ou (X_ou (X_ou (X_ou (X_ou (X_ou (X_ou (X_ou (X_ou o 1 0) 3 (o 1)) 4 b1) 6 g1) 7 at5304) 8 en5305) 9 tk5306) 10 nu5307) 11 dg5308) 28 rc) 29 kc) 30 wc) nm5309 h5314 (show 0 ≤ (o 5) ∧ (o 5) ≤ 5 from by omega)) (fun v5316 S5317 h5318 => ?_)
                                    rcases h5318 with ⟨hv5319, hf5320⟩
                                    rw [hv5319]
                                    rw [hf5320]
                                    show X_T sc 162 (272, [(3, .int (iI 0)), (1, .long (ct ck)), (0, .ref 530)], [.int (iI (bI ((o 5) = 0)))], S5302) _
                                    refine T_bif_ne xr_162_272 (t := 278) (pc' := 275) rfl rfl (fun c5321 => ?_) (fun c5321 => ?_)
                                    · skip
                                      have c5321 : ((o 5) = 0) := c5321
                                      refine T_p xr_162_278 xn_162 (pc' := 279) (ls' := [(3, .int (iI 0)), (1, .long (ct ck)), (0, .ref 530)]) (st' := [.long (ct ck)]) rfl ?_
                                      refine T_p xr_162_279 xn_162 (pc' := 282) (ls' := [(3, .int (iI 0)), (1, .long (ct ck)), (0, .ref 530)]) (st' := [.long (Int64.ofNat 1918987883), .long (ct ck)]) rfl ?_
                                      refine T_lc_ne xr_162_282 xr_162_283 (t := 293) (pc' := 286) rfl rfl (fun c5322 => ?_) (fun c5322 => ?_)
                                      · skip
                                        have c5322 : ¬ (ct ck) = (Int64.ofNat 1918987883) := c5322
                                        refine T_p xr_162_293 xn_162 (pc' := 294) (ls' := [(3, .int (iI 0)), (1, .long (ct ck)), (0, .ref 530)]) (st' := [.long (ct ck)]) rfl ?_
                                        refine T_p xr_162_294 xn_162 (pc' := 297) (ls' := [(3, .int (iI 0)), (1, .long (ct ck)), (0, .ref 530)]) (st' := [.long (Int64.ofNat 32766990153442674), .long (ct ck)]) rfl ?_
                                        refine T_lc_ne xr_162_297 xr_162_298 (t := 308) (pc' := 301) rfl rfl (fun c5323 => ?_) (fun c5323 => ?_)
                                        · skip
                                          have c5323 : ¬ (ct ck) = (Int64.ofNat 32766990153442674) := c5323
                                          refine T_p xr_162_308 xn_162 (pc' := 309) (ls' := [(3, .int (iI 0)), (1, .long (ct ck)), (0, .ref 530)]) (st' := [.long (ct ck)]) rfl ?_
                                          refine T_p xr_162_309 xn_162 (pc' := 312) (ls' := [(3, .int (iI 0)), (1, .long (ct ck)), (0, .ref 530)]) (st' := [.long (Int64.ofNat 1802071652), .long (ct ck)]) rfl ?_
                                          refine T_lc_ne xr_162_312 xr_162_313 (t := 323) (pc' := 316) rfl rfl (fun c5324 => ?_) (fun c5324 => ?_)
                                          · skip
                                            have c5324 : ¬ (ct ck) = (Int64.ofNat 1802071652) := c5324
                                            refine T_p xr_162_323 xn_162 (pc' := 324) (ls' := [(3, .int (iI 0)), (1, .long (ct ck)), (0, .ref 530)]) (st' := [.ref 530]) rfl ?_
                                            have hok3w : 0 ≤ wc ∧ wc < 30 := by omega
                                            refine T_cv (S := S5302) (q := 530) xr_162_324 xf_157.1 xf_157.2.1 xn_157 (as := []) (r := []) rfl h5314 (Nat.le_of_ble_eq_true rfl) (Nat.le_of_ble_eq_true rfl) (pc' := 327) rfl (ls' := [(0, .ref 530)]) rfl ?_
                                            have h5325 := (hf5313.1 532 (by omega)).trans (h5300)
                                            have h5326 := (hf5313.1 533 (by omega)).trans (hA533_)
                                            have h5327 := (hf5313.1 534 (by omega)).trans (hA534_)
                                            have h5328 := (hf5313.1 537 (by omega)).trans (hA537_)
                                            have h5329 := (hf5313.1 538 (by omega)).trans (hA538_)
                                            have h5330 := (hf5313.1 539 (by omega)).trans (hA539_)
                                            have h5331 := (hf5313.1 540 (by omega)).trans (hA540_)
                                            have h5332 := (hf5313.1 541 (by omega)).trans (hA541_)
                                            have h5333 := (hf5313.1 542 (by omega)).trans (hA542_)
                                            have h5334 := (hf5313.1 543 (by omega)).trans (hA543_)
                                            have h5335 := (hf5313.1 544 (by omega)).trans (hA544_)
                                            have h5336 := (hf5313.1 545 (by omega)).trans (hA545_)
                                            have h5337 := (hf5313.1 546 (by omega)).trans (hA546_)
                                            have h5338 := (hf5313.1 547 (by omega)).trans (hA547_)
                                            refine T_mono (r_readWord sc S5302 (X_ou (X_ou (X_ou (X_ou (X_ou (X_ou (X_ou (X_ou (X_ou (X_ou (X_ou (X_ou o 1 0) 3 (o 1)) 4 b1) 6 g1) 7 at5304) 8 en5305) 9 tk5306) 10 nu5307) 11 dg5308) 28 rc) 29 kc) 30 wc) nm5309 tx1 rN1 kN1 wR1 wL1 wK1 wM1 wH1 wS1 sO1 sN1 eP1 eH1 hK1 tb len n so pl ct E (X_av n ck) c0 rc kc wc rn lo kn ab D W h5314 h5325 h5326 h5327 h5328 h5329 h5330 h5331 h5332 h5333 h5334 h5335 h5336 h5337 h5338 (show (o 1) = len from by first | assumption | omega) hl htx hX hp5311 (show (o 5) = 0 from by omega) (show rc = rc from by omega) (show kc = kc from by omega) (show wc = wc from by omega) (by omega) (show 0 ≤ b1 ∧ b1 ≤ 1 from by omega) (by omega) (by omega) hB1r.1 hB1k.1 hct) (fun v5339 S5340 h5341 => ?_)
                                            rcases h5341 with ⟨at5342, en5343, tk5344, nu5345, dg5346, nm5347, g5348, c5349, d5350, q5351, wR5352, wL5353, wK5354, wM5355, wH5356, wS5357, sO5358, sN5359, eP5360, eH5361, hK5362, hv5363, hp5364, hp5365, hp5366, hp5367, hp5368, hp5369, hp5370, hp5371, hp5372, hp5373, hp5374, hp5375, hp5376, hp5377, hM5378, ha5379, ha5380, ha5381, ha5382, ha5383, ha5384, ha5385, ha5386, ha5387, ha5388, ha5389, hf5390⟩ | ⟨at5391, en5392, tk5393, nu5394, dg5395, nm5396, wc5397, f5398, g5399, wR5400, wL5401, wK5402, wM5403, wH5404, wS5405, sO5406, sN5407, eP5408, eH5409, hK5410, hv5411, hp5412, hp5413, hp5414, hp5415, hp5416, hp5417, hp5418, hp5419, hp5420, hp5421, hp5422, hp5423, hp5424, hM5425, ha5426, ha5427, ha5428, ha5429, ha5430, ha5431, ha5432, ha5433, ha5434, ha5435, ha5436, hf5437⟩
                                            · skip
                                              rw [hv5363]
                                              have h5438 : S5340.1 530 = .inr (11, [.ref 531, .int (iI 0), .ref 532, .int (iI (o 1)), .int (iI b1), .int (iI (o 5)), .int (iI g5348), .int (iI at5342), .int (iI en5343), .int (iI tk5344), .int (iI nu5345), .int (iI dg5346), .long nm5347, .ref 533, .ref 534, .ref 535, .ref 536, .ref 537, .ref 538, .ref 539, .ref 540, .ref 541, .ref 542, .ref 543, .ref 544, .ref 545, .ref 546, .ref 547, .int (iI rc), .int (iI kc), .int (iI (wc + 1)), .int (iI (o 31)), .int (iI (o 32)), .int (iI (o 33)), .ref 548, .ref 549, .ref 550, .ref 551, .int (iI (o 38)), .ref 552, .ref 553, .ref 554, .ref 555, .ref 556, .ref 557, .ref 558, .ref 559, .ref 560, .ref 561, .int (iI (o 49)), .ref 562, .ref 563, .ref 564, .ref 565, .ref 566, .ref 567, .ref 568, .ref 569, .int (iI (o 58)), .ref 570, .ref 571, .ref 572, .ref 573, .ref 574, .ref 575, .ref 576, .ref 577, .ref 578, .int (iI (o 68)), .int (iI (o 69)), .int (iI (o 70)), .ref 579]) := hM5378
                                              have hp5366 : R_w (30 * b1 + wc) d5350 q5351 wR5352 wL5353 wK5354 wM5355 wH5356 wS5357 sO5358 sN5359 eP5360 eH5361 hK5362 := hp5366
                                              have hp5367 : R_ob 1 (30 * b1 + wc) wR1 wR5352 := hp5367
                                              have hp5368 : R_ob 1 (30 * b1 + wc) wL1 wL5353 := hp5368
                                              have hp5369 : R_ob 1 (30 * b1 + wc) wK1 wK5354 := hp5369
                                              have hp5370 : R_ob 1 (30 * b1 + wc) wM1 wM5355 := hp5370
                                              have hp5371 : R_ob 1 (30 * b1 + wc) wH1 wH5356 := hp5371
                                              have hp5372 : R_ob 1 (30 * b1 + wc) wS1 wS5357 := hp5372
                                              have hp5373 : R_ob 30 (30 * b1 + wc) sO1 sO5358 := hp5373
                                              have hp5374 : R_ob 30 (30 * b1 + wc) sN1 sN5359 := hp5374
                                              have hp5375 : R_ob 8 (30 * b1 + wc) eP1 eP5360 := hp5375
                                              have hp5376 : R_ob 8 (30 * b1 + wc) eH1 eH5361 := hp5376
                                              have hp5377 : R_ob 4 (30 * b1 + wc) hK1 hK5362 := hp5377
                                              obtain ⟨⟨_, _⟩, ⟨_, _⟩, hk5439, ⟨_, _⟩, hk5439e, ⟨_, _⟩, ⟨_, _⟩⟩ := R_tk_f hX hp5364
                                              show X_T sc 162 (327, [(3, .int (iI 0)), (1, .long (ct ck)), (0, .ref 530)], [], S5340) _
                                              refine T_p xr_162_327 xn_162 (pc' := 113) (ls' := [(3, .int (iI 0)), (1, .long (ct ck)), (0, .ref 530)]) (st' := []) rfl ?_
                                              have h5441 := (hf5390.1 533 (by omega)).trans (h5326)
                                              have h5442 := (hf5390.1 534 (by omega)).trans (h5327)
                                              have h5443 := (hf5390.1 535 (by omega)).trans ((hf5313.1 535 (by omega)).trans (hA535_))
                                              have h5444 := (hf5390.1 536 (by omega)).trans ((hf5313.1 536 (by omega)).trans (hA536_))
                                              have hl5445 : sp_line n so ct (ck, rc, kc, wc, rn, lo, kn, ab, D, W) = none := by
                                                show (if so ck = 3 ∧ ct ck = Int64.ofNat 1918987883 then _ else if so ck = 3 ∧ ct ck = Int64.ofNat 32766990153442674 then _ else if so ck = 3 ∧ ct ck = Int64.ofNat 1802071652 then _ else if so ck = 3 ∧ ct ck = Int64.ofNat 2003792484 then _ else none) = _
                                                rw [if_neg (fun z => absurd (((Classical.not_not.mp c5145)).symm.trans z.2) (by decide))]
                                                rw [if_neg (fun z => absurd (((Classical.not_not.mp c5145)).symm.trans z.2) (by decide))]
                                                rw [if_neg (fun z => absurd (((Classical.not_not.mp c5145)).symm.trans z.2) (by decide))]
                                                rw [if_pos ⟨by omega, (Classical.not_not.mp c5145)⟩]
                                                exact hp5365
                                              refine T_sub (ls := [(0, .ref 530)]) ⟨rfl, trivial⟩ rfl rfl ?_
                                              exact ih4968 S5340 (line + 1) (ck, rc, kc, wc, rn, lo, kn, ab, D, W) (o 5) g5348 at5342 en5343 tk5344 nu5345 dg5346 rc kc (wc + 1) nm5347 rN1 kN1 tg1 kU1 wR5352 wL5353 wK5354 wM5355 wH5356 wS5357 sO5358 sN5359 eP5360 eH5361 hK5362 h5438 h5441 h5442 h5443 h5444 ha5379 ha5380 ha5381 ha5382 ha5383 ha5384 ha5385 ha5386 ha5387 ha5388 ha5389 (hF4971.tr (((X_Fr.rf).tr (X_Fr.mono ⟨hf5313.1, hf5313.2⟩ (fun q hq => (by omega)))).tr (X_Fr.mono ⟨hf5390.1, hf5390.2⟩ (fun q hq => (by omega))))) (by omega) (fun z => absurd z (by omega)) (fun _ => by
                                                    rw [← hR, show (2001 - line).toNat = (2001 - (line + 1)).toNat + 1 by omega]
                                                    show (if so ck = 0 then _ else _) = _
                                                    rw [if_neg (by omega), hl5445]
                                                    rfl) (hO.frW hbb hok3w hOk hO hO4 hp5367 hp5368 hp5369 hp5370 hp5371 hp5372 hp5373 hp5374 hp5375 hp5376 hp5377) (by omega)
                                            · skip
                                              rw [hv5411]
                                              have h5440 : S5340.1 530 = .inr (11, [.ref 531, .int (iI 0), .ref 532, .int (iI (o 1)), .int (iI b1), .int (iI f5398), .int (iI g5399), .int (iI at5391), .int (iI en5392), .int (iI tk5393), .int (iI nu5394), .int (iI dg5395), .long nm5396, .ref 533, .ref 534, .ref 535, .ref 536, .ref 537, .ref 538, .ref 539, .ref 540, .ref 541, .ref 542, .ref 543, .ref 544, .ref 545, .ref 546, .ref 547, .int (iI rc), .int (iI kc), .int (iI wc5397), .int (iI (o 31)), .int (iI (o 32)), .int (iI (o 33)), .ref 548, .ref 549, .ref 550, .ref 551, .int (iI (o 38)), .ref 552, .ref 553, .ref 554, .ref 555, .ref 556, .ref 557, .ref 558, .ref 559, .ref 560, .ref 561, .int (iI (o 49)), .ref 562, .ref 563, .ref 564, .ref 565, .ref 566, .ref 567, .ref 568, .ref 569, .int (iI (o 58)), .ref 570, .ref 571, .ref 572, .ref 573, .ref 574, .ref 575, .ref 576, .ref 577, .ref 578, .int (iI (o 68)), .int (iI (o 69)), .int (iI (o 70)), .ref 579]) := hM5425
                                              have hp5414 : R_ob 1 (30 * b1 + wc) wR1 wR5400 := hp5414
                                              have hp5415 : R_ob 1 (30 * b1 + wc) wL1 wL5401 := hp5415
                                              have hp5416 : R_ob 1 (30 * b1 + wc) wK1 wK5402 := hp5416
                                              have hp5417 : R_ob 1 (30 * b1 + wc) wM1 wM5403 := hp5417
                                              have hp5418 : R_ob 1 (30 * b1 + wc) wH1 wH5404 := hp5418
                                              have hp5419 : R_ob 1 (30 * b1 + wc) wS1 wS5405 := hp5419
                                              have hp5420 : R_ob 30 (30 * b1 + wc) sO1 sO5406 := hp5420
                                              have hp5421 : R_ob 30 (30 * b1 + wc) sN1 sN5407 := hp5421
                                              have hp5422 : R_ob 8 (30 * b1 + wc) eP1 eP5408 := hp5422
                                              have hp5423 : R_ob 8 (30 * b1 + wc) eH1 eH5409 := hp5423
                                              have hp5424 : R_ob 4 (30 * b1 + wc) hK1 hK5410 := hp5424
                                              show X_T sc 162 (327, [(3, .int (iI 0)), (1, .long (ct ck)), (0, .ref 530)], [], S5340) _
                                              refine T_p xr_162_327 xn_162 (pc' := 113) (ls' := [(3, .int (iI 0)), (1, .long (ct ck)), (0, .ref 530)]) (st' := []) rfl ?_
                                              have h5446 := (hf5437.1 533 (by omega)).trans (h5326)
                                              have h5447 := (hf5437.1 534 (by omega)).trans (h5327)
                                              have h5448 := (hf5437.1 535 (by omega)).trans ((hf5313.1 535 (by omega)).trans (hA535_))
                                              have h5449 := (hf5437.1 536 (by omega)).trans ((hf5313.1 536 (by omega)).trans (hA536_))
                                              have hl5450 : sp_line n so ct (ck, rc, kc, wc, rn, lo, kn, ab, D, W) = none := by
                                                show (if so ck = 3 ∧ ct ck = Int64.ofNat 1918987883 then _ else if so ck = 3 ∧ ct ck = Int64.ofNat 32766990153442674 then _ else if so ck = 3 ∧ ct ck = Int64.ofNat 1802071652 then _ else if so ck = 3 ∧ ct ck = Int64.ofNat 2003792484 then _ else none) = _
                                                rw [if_neg (fun z => absurd (((Classical.not_not.mp c5145)).symm.trans z.2) (by decide))]
                                                rw [if_neg (fun z => absurd (((Classical.not_not.mp c5145)).symm.trans z.2) (by decide))]
                                                rw [if_neg (fun z => absurd (((Classical.not_not.mp c5145)).symm.trans z.2) (by decide))]
                                                rw [if_pos ⟨by omega, (Classical.not_not.mp c5145)⟩]
                                                exact hp5413
                                              refine T_sub (ls := [(0, .ref 530)]) ⟨rfl, trivial⟩ rfl rfl ?_
                                              exact ih4968 S5340 (line + 1) (ck, rc, kc, wc, rn, lo, kn, ab, D, W) f5398 g5399 at5391 en5392 tk5393 nu5394 dg5395 rc kc wc5397 nm5396 rN1 kN1 tg1 kU1 wR5400 wL5401 wK5402 wM5403 wH5404 wS5405 sO5406 sN5407 eP5408 eH5409 hK5410 h5440 h5446 h5447 h5448 h5449 ha5426 ha5427 ha5428 ha5429 ha5430 ha5431 ha5432 ha5433 ha5434 ha5435 ha5436 (hF4971.tr (((X_Fr.rf).tr (X_Fr.mono ⟨hf5313.1, hf5313.2⟩ (fun q hq => (by omega)))).tr (X_Fr.mono ⟨hf5437.1, hf5437.2⟩ (fun q hq => (by omega))))) (by omega) (fun z => absurd z (by omega)) (fun _ => by
                                                    rw [← hR, show (2001 - line).toNat = (2001 - (line + 1)).toNat + 1 by omega]
                                                    show (if so ck = 0 then _ else _) = _
                                                    rw [if_neg (by omega), hl5450]
                                                    rfl) (hO.frW hbb hok3w hOk hO hO4 hp5414 hp5415 hp5416 hp5417 hp5418 hp5419 hp5420 hp5421 hp5422 hp5423 hp5424) (by omega)
                                          · skip
                                            have c5324 : ¬ (¬ (ct ck) = (Int64.ofNat 1802071652)) := c5324
                                            exact absurd (show ct ck = Int64.ofNat 1802071652 from (by first | exact c5324 | exact Classical.not_not.mp c5324)) c5144
                                        · skip
                                          have c5323 : ¬ (¬ (ct ck) = (Int64.ofNat 32766990153442674)) := c5323
                                          exact absurd (((Classical.not_not.mp c5145)).symm.trans (show ct ck = Int64.ofNat 32766990153442674 from (by first | exact c5323 | exact Classical.not_not.mp c5323))) (by decide)
                                      · skip
                                        have c5322 : ¬ (¬ (ct ck) = (Int64.ofNat 1918987883)) := c5322
                                        exact absurd (show ct ck = Int64.ofNat 1918987883 from (by first | exact c5322 | exact Classical.not_not.mp c5322)) c5143
                                    · skip
                                      have c5321 : ¬ ((o 5) = 0) := c5321
                                      exact (show False by first | contradiction | omega).elim
                        · skip
                          have c5289 : ¬ (¬ wc = 30) := c5289
                          refine T_p xr_162_211 xn_162 (pc' := 212) (ls' := [(1, .long (ct ck)), (0, .ref 530)]) (st' := [.int (iI 1)]) rfl ?_
                          refine T_p xr_162_212 xn_162 (pc' := 216) (ls' := [(1, .long (ct ck)), (0, .ref 530)]) (st' := [.int (iI 1)]) rfl ?_
                          refine T_p xr_162_216 xn_162 (pc' := 217) (ls' := [(3, .int (iI 1)), (1, .long (ct ck)), (0, .ref 530)]) (st' := []) rfl ?_
                          refine T_p xr_162_217 xn_162 (pc' := 218) (ls' := [(3, .int (iI 1)), (1, .long (ct ck)), (0, .ref 530)]) (st' := [.long (ct ck)]) rfl ?_
                          refine T_p xr_162_218 xn_162 (pc' := 221) (ls' := [(3, .int (iI 1)), (1, .long (ct ck)), (0, .ref 530)]) (st' := [.long (Int64.ofNat 1918987883), .long (ct ck)]) rfl ?_
                          refine T_lc_eq xr_162_221 xr_162_222 (t := 249) (pc' := 225) rfl rfl (fun c5451 => ?_) (fun c5451 => ?_)
                          · skip
                            have c5451 : (ct ck) = (Int64.ofNat 1918987883) := c5451
                            exact absurd (show ct ck = Int64.ofNat 1918987883 from (by first | exact c5451 | exact Classical.not_not.mp c5451)) c5143
                          · skip
                            have c5451 : ¬ ((ct ck) = (Int64.ofNat 1918987883)) := c5451
                            refine T_p xr_162_225 xn_162 (pc' := 226) (ls' := [(3, .int (iI 1)), (1, .long (ct ck)), (0, .ref 530)]) (st' := [.long (ct ck)]) rfl ?_
                            refine T_p xr_162_226 xn_162 (pc' := 229) (ls' := [(3, .int (iI 1)), (1, .long (ct ck)), (0, .ref 530)]) (st' := [.long (Int64.ofNat 32766990153442674), .long (ct ck)]) rfl ?_
                            refine T_lc_eq xr_162_229 xr_162_230 (t := 249) (pc' := 233) rfl rfl (fun c5452 => ?_) (fun c5452 => ?_)
                            · skip
                              have c5452 : (ct ck) = (Int64.ofNat 32766990153442674) := c5452
                              exact absurd (((Classical.not_not.mp c5145)).symm.trans (show ct ck = Int64.ofNat 32766990153442674 from (by first | exact c5452 | exact Classical.not_not.mp c5452))) (by decide)
                            · skip
                              have c5452 : ¬ ((ct ck) = (Int64.ofNat 32766990153442674)) := c5452
                              refine T_p xr_162_233 xn_162 (pc' := 234) (ls' := [(3, .int (iI 1)), (1, .long (ct ck)), (0, .ref 530)]) (st' := [.long (ct ck)]) rfl ?_
                              refine T_p xr_162_234 xn_162 (pc' := 237) (ls' := [(3, .int (iI 1)), (1, .long (ct ck)), (0, .ref 530)]) (st' := [.long (Int64.ofNat 1802071652), .long (ct ck)]) rfl ?_
                              refine T_lc_eq xr_162_237 xr_162_238 (t := 249) (pc' := 241) rfl rfl (fun c5453 => ?_) (fun c5453 => ?_)
                              · skip
                                have c5453 : (ct ck) = (Int64.ofNat 1802071652) := c5453
                                exact absurd (show ct ck = Int64.ofNat 1802071652 from (by first | exact c5453 | exact Classical.not_not.mp c5453)) c5144
                              · skip
                                have c5453 : ¬ ((ct ck) = (Int64.ofNat 1802071652)) := c5453
                                refine T_p xr_162_241 xn_162 (pc' := 242) (ls' := [(3, .int (iI 1)), (1, .long (ct ck)), (0, .ref 530)]) (st' := [.long (ct ck)]) rfl ?_
                                refine T_p xr_162_242 xn_162 (pc' := 245) (ls' := [(3, .int (iI 1)), (1, .long (ct ck)), (0, .ref 530)]) (st' := [.long (Int64.ofNat 2003792484), .long (ct ck)]) rfl ?_
                                refine T_lc_ne xr_162_245 xr_162_246 (t := 253) (pc' := 249) rfl rfl (fun c5454 => ?_) (fun c5454 => ?_)
                                · skip
                                  have c5454 : ¬ (ct ck) = (Int64.ofNat 2003792484) := c5454
                                  exact absurd (Classical.not_not.mp c5145) c5454
                                · skip
                                  have c5454 : ¬ (¬ (ct ck) = (Int64.ofNat 2003792484)) := c5454
                                  refine T_p xr_162_249 xn_162 (pc' := 250) (ls' := [(3, .int (iI 1)), (1, .long (ct ck)), (0, .ref 530)]) (st' := [.int (iI 1)]) rfl ?_
                                  refine T_zif_eqf xr_162_250 (t := 257) (pc' := 253) rfl rfl (by decide) ?_
                                  refine T_p xr_162_253 xn_162 (pc' := 254) (ls' := [(3, .int (iI 1)), (1, .long (ct ck)), (0, .ref 530)]) (st' := [.ref 530]) rfl ?_
                                  refine T_cv (S := S4987) (q := 530) xr_162_254 xf_147.1 xf_147.2.1 xn_147 (as := []) (r := []) rfl hM5034 (Nat.le_of_ble_eq_true rfl) (Nat.le_of_ble_eq_true rfl) (pc' := 257) rfl (ls' := [(0, .ref 530)]) rfl ?_
                                  have h5455 := (hF4971.1 532 (by omega)).trans ((hf4964.1 532 (by omega)).trans (h4951))
                                  refine T_mono (r_wrong sc S4987 (X_ou (X_ou (X_ou (X_ou (X_ou (X_ou (X_ou (X_ou (X_ou (X_ou (X_ou (X_ou o 1 0) 3 (o 1)) 4 b1) 6 g1) 7 at1) 8 en1) 9 tk1) 10 nu1) 11 dg1) 28 rc) 29 kc) 30 wc) nm1 tx1 tb len n so pl ct E ck hM5034 h5455 (show (o 1) = len from by first | assumption | omega) hl htx hX hT1 (show 0 ≤ (o 5) ∧ (o 5) ≤ 5 from by omega)) (fun v5456 S5457 h5458 => ?_)
                                  rcases h5458 with ⟨f5459, g5460, hv5461, hp5462, hM5463, hf5464⟩
                                  rw [hv5461]
                                  have h5465 : S5457.1 530 = .inr (11, [.ref 531, .int (iI 0), .ref 532, .int (iI (o 1)), .int (iI b1), .int (iI f5459), .int (iI g5460), .int (iI at1), .int (iI en1), .int (iI tk1), .int (iI nu1), .int (iI dg1), .long nm1, .ref 533, .ref 534, .ref 535, .ref 536, .ref 537, .ref 538, .ref 539, .ref 540, .ref 541, .ref 542, .ref 543, .ref 544, .ref 545, .ref 546, .ref 547, .int (iI rc), .int (iI kc), .int (iI wc), .int (iI (o 31)), .int (iI (o 32)), .int (iI (o 33)), .ref 548, .ref 549, .ref 550, .ref 551, .int (iI (o 38)), .ref 552, .ref 553, .ref 554, .ref 555, .ref 556, .ref 557, .ref 558, .ref 559, .ref 560, .ref 561, .int (iI (o 49)), .ref 562, .ref 563, .ref 564, .ref 565, .ref 566, .ref 567, .ref 568, .ref 569, .int (iI (o 58)), .ref 570, .ref 571, .ref 572, .ref 573, .ref 574, .ref 575, .ref 576, .ref 577, .ref 578, .int (iI (o 68)), .int (iI (o 69)), .int (iI (o 70)), .ref 579]) := hM5463
                                  show X_T sc 162 (257, [(3, .int (iI 1)), (1, .long (ct ck)), (0, .ref 530)], [], S5457) _
                                  refine T_p xr_162_257 xn_162 (pc' := 258) (ls' := [(3, .int (iI 1)), (1, .long (ct ck)), (0, .ref 530)]) (st' := [.ref 530]) rfl ?_
                                  refine T_cv (S := S5457) (q := 530) xr_162_258 xf_140.1 xf_140.2.1 xn_140 (as := []) (r := []) rfl h5465 (Nat.le_of_ble_eq_true rfl) (Nat.le_of_ble_eq_true rfl) (pc' := 261) rfl (ls' := [(0, .ref 530)]) rfl ?_
                                  refine T_mono (r_isGood sc S5457 (X_ou (X_ou (X_ou (X_ou (X_ou (X_ou (X_ou (X_ou (X_ou (X_ou (X_ou (X_ou (X_ou o 1 0) 3 (o 1)) 4 b1) 5 f5459) 6 g5460) 7 at1) 8 en1) 9 tk1) 10 nu1) 11 dg1) 28 rc) 29 kc) 30 wc) nm1 h5465 (show 0 ≤ f5459 ∧ f5459 ≤ 5 from by omega)) (fun v5466 S5467 h5468 => ?_)
                                  rcases h5468 with ⟨hv5469, hf5470⟩
                                  rw [hv5469]
                                  rw [hf5470]
                                  show X_T sc 162 (261, [(3, .int (iI 1)), (1, .long (ct ck)), (0, .ref 530)], [.int (iI (bI (f5459 = 0)))], S5457) _
                                  refine T_bif_eq xr_162_261 (t := 268) (pc' := 264) rfl rfl (fun c5471 => ?_) (fun c5471 => ?_)
                                  · skip
                                    have c5471 : ¬ (f5459 = 0) := c5471
                                    refine T_p xr_162_268 xn_162 (pc' := 269) (ls' := [(3, .int (iI 1)), (1, .long (ct ck)), (0, .ref 530)]) (st' := [.ref 530]) rfl ?_
                                    refine T_cv (S := S5457) (q := 530) xr_162_269 xf_140.1 xf_140.2.1 xn_140 (as := []) (r := []) rfl h5465 (Nat.le_of_ble_eq_true rfl) (Nat.le_of_ble_eq_true rfl) (pc' := 272) rfl (ls' := [(0, .ref 530)]) rfl ?_
                                    refine T_mono (r_isGood sc S5457 (X_ou (X_ou (X_ou (X_ou (X_ou (X_ou (X_ou (X_ou (X_ou (X_ou (X_ou (X_ou (X_ou o 1 0) 3 (o 1)) 4 b1) 5 f5459) 6 g5460) 7 at1) 8 en1) 9 tk1) 10 nu1) 11 dg1) 28 rc) 29 kc) 30 wc) nm1 h5465 (show 0 ≤ f5459 ∧ f5459 ≤ 5 from by omega)) (fun v5472 S5473 h5474 => ?_)
                                    rcases h5474 with ⟨hv5475, hf5476⟩
                                    rw [hv5475]
                                    rw [hf5476]
                                    show X_T sc 162 (272, [(3, .int (iI 1)), (1, .long (ct ck)), (0, .ref 530)], [.int (iI (bI (f5459 = 0)))], S5457) _
                                    refine T_bif_ne xr_162_272 (t := 278) (pc' := 275) rfl rfl (fun c5477 => ?_) (fun c5477 => ?_)
                                    · skip
                                      have c5477 : (f5459 = 0) := c5477
                                      exact (show False by first | contradiction | omega).elim
                                    · skip
                                      have c5477 : ¬ (f5459 = 0) := c5477
                                      refine T_p xr_162_275 xn_162 (pc' := 113) (ls' := [(3, .int (iI 1)), (1, .long (ct ck)), (0, .ref 530)]) (st' := []) rfl ?_
                                      have h5478 := (hf5464.1 533 (by omega)).trans (hA533_)
                                      have h5479 := (hf5464.1 534 (by omega)).trans (hA534_)
                                      have h5480 := (hf5464.1 535 (by omega)).trans (hA535_)
                                      have h5481 := (hf5464.1 536 (by omega)).trans (hA536_)
                                      have h5482 := (hf5464.1 537 (by omega)).trans (hA537_)
                                      have h5483 := (hf5464.1 538 (by omega)).trans (hA538_)
                                      have h5484 := (hf5464.1 539 (by omega)).trans (hA539_)
                                      have h5485 := (hf5464.1 540 (by omega)).trans (hA540_)
                                      have h5486 := (hf5464.1 541 (by omega)).trans (hA541_)
                                      have h5487 := (hf5464.1 542 (by omega)).trans (hA542_)
                                      have h5488 := (hf5464.1 543 (by omega)).trans (hA543_)
                                      have h5489 := (hf5464.1 544 (by omega)).trans (hA544_)
                                      have h5490 := (hf5464.1 545 (by omega)).trans (hA545_)
                                      have h5491 := (hf5464.1 546 (by omega)).trans (hA546_)
                                      have h5492 := (hf5464.1 547 (by omega)).trans (hA547_)
                                      have hl5493 : sp_line n so ct (ck, rc, kc, wc, rn, lo, kn, ab, D, W) = none := by
                                        show (if so ck = 3 ∧ ct ck = Int64.ofNat 1918987883 then _ else if so ck = 3 ∧ ct ck = Int64.ofNat 32766990153442674 then _ else if so ck = 3 ∧ ct ck = Int64.ofNat 1802071652 then _ else if so ck = 3 ∧ ct ck = Int64.ofNat 2003792484 then _ else none) = _
                                        rw [if_neg (fun z => absurd (((Classical.not_not.mp c5145)).symm.trans z.2) (by decide))]
                                        rw [if_neg (fun z => absurd (((Classical.not_not.mp c5145)).symm.trans z.2) (by decide))]
                                        rw [if_neg (fun z => absurd (((Classical.not_not.mp c5145)).symm.trans z.2) (by decide))]
                                        rw [if_pos ⟨by omega, (Classical.not_not.mp c5145)⟩]
                                        simp only [sp_word]
                                        rw [if_pos (by omega)]
                                      refine T_sub (ls := [(0, .ref 530)]) ⟨rfl, trivial⟩ rfl rfl ?_
                                      exact ih4968 S5457 (line + 1) (ck, rc, kc, wc, rn, lo, kn, ab, D, W) f5459 g5460 at1 en1 tk1 nu1 dg1 rc kc wc nm1 rN1 kN1 tg1 kU1 wR1 wL1 wK1 wM1 wH1 wS1 sO1 sN1 eP1 eH1 hK1 h5465 h5478 h5479 h5480 h5481 h5482 h5483 h5484 h5485 h5486 h5487 h5488 h5489 h5490 h5491 h5492 (hF4971.tr ((X_Fr.rf).tr (X_Fr.mono ⟨hf5464.1, hf5464.2⟩ (fun q hq => (by omega))))) (by omega) (fun z => absurd z (by omega)) (fun _ => by
                                            rw [← hR, show (2001 - line).toNat = (2001 - (line + 1)).toNat + 1 by omega]
                                            show (if so ck = 0 then _ else _) = _
                                            rw [if_neg (by omega), hl5493]
                                            rfl) hO (by omega)
                                  · skip
                                    have c5471 : (f5459 = 0) := c5471
                                    exact (show False by first | contradiction | omega).elim
                    · skip
                      have c5144 : ¬ (¬ (ct ck) = (Int64.ofNat 1802071652)) := c5144
                      refine T_p xr_162_177 xn_162 (pc' := 178) (ls' := [(1, .long (ct ck)), (0, .ref 530)]) (st' := [.ref 530]) rfl ?_
                      refine T_get xr_162_178 hM5034 rfl (v := .int (iI kc)) rfl (pc' := 181) rfl ?_
                      refine T_p xr_162_181 xn_162 (pc' := 183) (ls' := [(1, .long (ct ck)), (0, .ref 530)]) (st' := [.int (iI 11), .int (iI kc)]) rfl ?_
                      refine T_zicmp_ne xr_162_183 (t := 190) (pc' := 186) rfl rfl (fun c5494 => ?_) (fun c5494 => ?_)
                      · skip
                        have c5494 : ¬ kc = 11 := c5494
                        refine T_p xr_162_190 xn_162 (pc' := 191) (ls' := [(1, .long (ct ck)), (0, .ref 530)]) (st' := [.int (iI 0)]) rfl ?_
                        refine T_p xr_162_191 xn_162 (pc' := 216) (ls' := [(1, .long (ct ck)), (0, .ref 530)]) (st' := [.int (iI 0)]) rfl ?_
                        refine T_p xr_162_216 xn_162 (pc' := 217) (ls' := [(3, .int (iI 0)), (1, .long (ct ck)), (0, .ref 530)]) (st' := []) rfl ?_
                        refine T_p xr_162_217 xn_162 (pc' := 218) (ls' := [(3, .int (iI 0)), (1, .long (ct ck)), (0, .ref 530)]) (st' := [.long (ct ck)]) rfl ?_
                        refine T_p xr_162_218 xn_162 (pc' := 221) (ls' := [(3, .int (iI 0)), (1, .long (ct ck)), (0, .ref 530)]) (st' := [.long (Int64.ofNat 1918987883), .long (ct ck)]) rfl ?_
                        refine T_lc_eq xr_162_221 xr_162_222 (t := 249) (pc' := 225) rfl rfl (fun c5495 => ?_) (fun c5495 => ?_)
                        · skip
                          have c5495 : (ct ck) = (Int64.ofNat 1918987883) := c5495
                          exact absurd (show ct ck = Int64.ofNat 1918987883 from (by first | exact c5495 | exact Classical.not_not.mp c5495)) c5143
                        · skip
                          have c5495 : ¬ ((ct ck) = (Int64.ofNat 1918987883)) := c5495
                          refine T_p xr_162_225 xn_162 (pc' := 226) (ls' := [(3, .int (iI 0)), (1, .long (ct ck)), (0, .ref 530)]) (st' := [.long (ct ck)]) rfl ?_
                          refine T_p xr_162_226 xn_162 (pc' := 229) (ls' := [(3, .int (iI 0)), (1, .long (ct ck)), (0, .ref 530)]) (st' := [.long (Int64.ofNat 32766990153442674), .long (ct ck)]) rfl ?_
                          refine T_lc_eq xr_162_229 xr_162_230 (t := 249) (pc' := 233) rfl rfl (fun c5496 => ?_) (fun c5496 => ?_)
                          · skip
                            have c5496 : (ct ck) = (Int64.ofNat 32766990153442674) := c5496
                            exact absurd (((Classical.not_not.mp c5144)).symm.trans (show ct ck = Int64.ofNat 32766990153442674 from (by first | exact c5496 | exact Classical.not_not.mp c5496))) (by decide)
                          · skip
                            have c5496 : ¬ ((ct ck) = (Int64.ofNat 32766990153442674)) := c5496
                            refine T_p xr_162_233 xn_162 (pc' := 234) (ls' := [(3, .int (iI 0)), (1, .long (ct ck)), (0, .ref 530)]) (st' := [.long (ct ck)]) rfl ?_
                            refine T_p xr_162_234 xn_162 (pc' := 237) (ls' := [(3, .int (iI 0)), (1, .long (ct ck)), (0, .ref 530)]) (st' := [.long (Int64.ofNat 1802071652), .long (ct ck)]) rfl ?_
                            refine T_lc_eq xr_162_237 xr_162_238 (t := 249) (pc' := 241) rfl rfl (fun c5497 => ?_) (fun c5497 => ?_)
                            · skip
                              have c5497 : (ct ck) = (Int64.ofNat 1802071652) := c5497
                              refine T_p xr_162_249 xn_162 (pc' := 250) (ls' := [(3, .int (iI 0)), (1, .long (ct ck)), (0, .ref 530)]) (st' := [.int (iI 0)]) rfl ?_
                              refine T_zif_eqt xr_162_250 (t := 257) rfl (by decide) ?_
                              refine T_p xr_162_257 xn_162 (pc' := 258) (ls' := [(3, .int (iI 0)), (1, .long (ct ck)), (0, .ref 530)]) (st' := [.ref 530]) rfl ?_
                              refine T_cv (S := S4987) (q := 530) xr_162_258 xf_140.1 xf_140.2.1 xn_140 (as := []) (r := []) rfl hM5034 (Nat.le_of_ble_eq_true rfl) (Nat.le_of_ble_eq_true rfl) (pc' := 261) rfl (ls' := [(0, .ref 530)]) rfl ?_
                              refine T_mono (r_isGood sc S4987 (X_ou (X_ou (X_ou (X_ou (X_ou (X_ou (X_ou (X_ou (X_ou (X_ou (X_ou (X_ou o 1 0) 3 (o 1)) 4 b1) 6 g1) 7 at1) 8 en1) 9 tk1) 10 nu1) 11 dg1) 28 rc) 29 kc) 30 wc) nm1 hM5034 (show 0 ≤ (o 5) ∧ (o 5) ≤ 5 from by omega)) (fun v5498 S5499 h5500 => ?_)
                              rcases h5500 with ⟨hv5501, hf5502⟩
                              rw [hv5501]
                              rw [hf5502]
                              show X_T sc 162 (261, [(3, .int (iI 0)), (1, .long (ct ck)), (0, .ref 530)], [.int (iI (bI ((o 5) = 0)))], S4987) _
                              refine T_bif_eq xr_162_261 (t := 268) (pc' := 264) rfl rfl (fun c5503 => ?_) (fun c5503 => ?_)
                              · skip
                                have c5503 : ¬ ((o 5) = 0) := c5503
                                exact (show False by first | contradiction | omega).elim
                              · skip
                                have c5503 : ((o 5) = 0) := c5503
                                refine T_p xr_162_264 xn_162 (pc' := 265) (ls' := [(3, .int (iI 0)), (1, .long (ct ck)), (0, .ref 530)]) (st' := [.ref 530]) rfl ?_
                                refine T_cv (S := S4987) (q := 530) xr_162_265 xf_141.1 xf_141.2.1 xn_141 (as := []) (r := []) rfl hM5034 (Nat.le_of_ble_eq_true rfl) (Nat.le_of_ble_eq_true rfl) (pc' := 268) rfl (ls' := [(0, .ref 530)]) rfl ?_
                                have h5504 := (hF4971.1 532 (by omega)).trans ((hf4964.1 532 (by omega)).trans (h4951))
                                refine T_mono (r_nx sc S4987 (X_ou (X_ou (X_ou (X_ou (X_ou (X_ou (X_ou (X_ou (X_ou (X_ou (X_ou (X_ou o 1 0) 3 (o 1)) 4 b1) 6 g1) 7 at1) 8 en1) 9 tk1) 10 nu1) 11 dg1) 28 rc) 29 kc) 30 wc) nm1 tx1 tb len n so pl ct E ck hM5034 h5504 (show (o 1) = len from by first | assumption | omega) hl htx hX hT1 (by omega)) (fun v5505 S5506 h5507 => ?_)
                                rcases h5507 with ⟨at5508, en5509, tk5510, nu5511, dg5512, nm5513, hv5514, hp5515, hM5516, hf5517⟩
                                rw [hv5514]
                                have h5518 : S5506.1 530 = .inr (11, [.ref 531, .int (iI 0), .ref 532, .int (iI (o 1)), .int (iI b1), .int (iI (o 5)), .int (iI g1), .int (iI at5508), .int (iI en5509), .int (iI tk5510), .int (iI nu5511), .int (iI dg5512), .long nm5513, .ref 533, .ref 534, .ref 535, .ref 536, .ref 537, .ref 538, .ref 539, .ref 540, .ref 541, .ref 542, .ref 543, .ref 544, .ref 545, .ref 546, .ref 547, .int (iI rc), .int (iI kc), .int (iI wc), .int (iI (o 31)), .int (iI (o 32)), .int (iI (o 33)), .ref 548, .ref 549, .ref 550, .ref 551, .int (iI (o 38)), .ref 552, .ref 553, .ref 554, .ref 555, .ref 556, .ref 557, .ref 558, .ref 559, .ref 560, .ref 561, .int (iI (o 49)), .ref 562, .ref 563, .ref 564, .ref 565, .ref 566, .ref 567, .ref 568, .ref 569, .int (iI (o 58)), .ref 570, .ref 571, .ref 572, .ref 573, .ref 574, .ref 575, .ref 576, .ref 577, .ref 578, .int (iI (o 68)), .int (iI (o 69)), .int (iI (o 70)), .ref 579]) := hM5516
                                obtain ⟨⟨_, _⟩, ⟨_, _⟩, hk5519, ⟨_, _⟩, hk5519e, ⟨_, _⟩, ⟨_, _⟩⟩ := R_tk_f hX hp5515
                                show X_T sc 162 (268, [(3, .int (iI 0)), (1, .long (ct ck)), (0, .ref 530)], [], S5506) _
                                refine T_p xr_162_268 xn_162 (pc' := 269) (ls' := [(3, .int (iI 0)), (1, .long (ct ck)), (0, .ref 530)]) (st' := [.ref 530]) rfl ?_
                                refine T_cv (S := S5506) (q := 530) xr_162_269 xf_140.1 xf_140.2.1 xn_140 (as := []) (r := []) rfl h5518 (Nat.le_of_ble_eq_true rfl) (Nat.le_of_ble_eq_true rfl) (pc' := 272) rfl (ls' := [(0, .ref 530)]) rfl ?_
                                refine T_mono (r_isGood sc S5506 (X_ou (X_ou (X_ou (X_ou (X_ou (X_ou (X_ou (X_ou (X_ou (X_ou (X_ou (X_ou o 1 0) 3 (o 1)) 4 b1) 6 g1) 7 at5508) 8 en5509) 9 tk5510) 10 nu5511) 11 dg5512) 28 rc) 29 kc) 30 wc) nm5513 h5518 (show 0 ≤ (o 5) ∧ (o 5) ≤ 5 from by omega)) (fun v5520 S5521 h5522 => ?_)
                                rcases h5522 with ⟨hv5523, hf5524⟩
                                rw [hv5523]
                                rw [hf5524]
                                show X_T sc 162 (272, [(3, .int (iI 0)), (1, .long (ct ck)), (0, .ref 530)], [.int (iI (bI ((o 5) = 0)))], S5506) _
                                refine T_bif_ne xr_162_272 (t := 278) (pc' := 275) rfl rfl (fun c5525 => ?_) (fun c5525 => ?_)
                                · skip
                                  have c5525 : ((o 5) = 0) := c5525
                                  refine T_p xr_162_278 xn_162 (pc' := 279) (ls' := [(3, .int (iI 0)), (1, .long (ct ck)), (0, .ref 530)]) (st' := [.long (ct ck)]) rfl ?_
                                  refine T_p xr_162_279 xn_162 (pc' := 282) (ls' := [(3, .int (iI 0)), (1, .long (ct ck)), (0, .ref 530)]) (st' := [.long (Int64.ofNat 1918987883), .long (ct ck)]) rfl ?_
                                  refine T_lc_ne xr_162_282 xr_162_283 (t := 293) (pc' := 286) rfl rfl (fun c5526 => ?_) (fun c5526 => ?_)
                                  · skip
                                    have c5526 : ¬ (ct ck) = (Int64.ofNat 1918987883) := c5526
                                    refine T_p xr_162_293 xn_162 (pc' := 294) (ls' := [(3, .int (iI 0)), (1, .long (ct ck)), (0, .ref 530)]) (st' := [.long (ct ck)]) rfl ?_
                                    refine T_p xr_162_294 xn_162 (pc' := 297) (ls' := [(3, .int (iI 0)), (1, .long (ct ck)), (0, .ref 530)]) (st' := [.long (Int64.ofNat 32766990153442674), .long (ct ck)]) rfl ?_
                                    refine T_lc_ne xr_162_297 xr_162_298 (t := 308) (pc' := 301) rfl rfl (fun c5527 => ?_) (fun c5527 => ?_)
                                    · skip
                                      have c5527 : ¬ (ct ck) = (Int64.ofNat 32766990153442674) := c5527
                                      refine T_p xr_162_308 xn_162 (pc' := 309) (ls' := [(3, .int (iI 0)), (1, .long (ct ck)), (0, .ref 530)]) (st' := [.long (ct ck)]) rfl ?_
                                      refine T_p xr_162_309 xn_162 (pc' := 312) (ls' := [(3, .int (iI 0)), (1, .long (ct ck)), (0, .ref 530)]) (st' := [.long (Int64.ofNat 1802071652), .long (ct ck)]) rfl ?_
                                      refine T_lc_ne xr_162_312 xr_162_313 (t := 323) (pc' := 316) rfl rfl (fun c5528 => ?_) (fun c5528 => ?_)
                                      · skip
                                        have c5528 : ¬ (ct ck) = (Int64.ofNat 1802071652) := c5528
                                        exact absurd (Classical.not_not.mp c5144) c5528
                                      · skip
                                        have c5528 : ¬ (¬ (ct ck) = (Int64.ofNat 1802071652)) := c5528
                                        refine T_p xr_162_316 xn_162 (pc' := 317) (ls' := [(3, .int (iI 0)), (1, .long (ct ck)), (0, .ref 530)]) (st' := [.ref 530]) rfl ?_
                                        refine T_cv (S := S5506) (q := 530) xr_162_317 xf_156.1 xf_156.2.1 xn_156 (as := []) (r := []) rfl h5518 (Nat.le_of_ble_eq_true rfl) (Nat.le_of_ble_eq_true rfl) (pc' := 320) rfl (ls' := [(0, .ref 530)]) rfl ?_
                                        have h5529 := (hf5517.1 532 (by omega)).trans (h5504)
                                        have h5530 := (hf5517.1 534 (by omega)).trans (hA534_)
                                        have h5531 := (hf5517.1 536 (by omega)).trans (hA536_)
                                        refine T_mono (r_readKind sc S5506 (X_ou (X_ou (X_ou (X_ou (X_ou (X_ou (X_ou (X_ou (X_ou (X_ou (X_ou (X_ou o 1 0) 3 (o 1)) 4 b1) 6 g1) 7 at5508) 8 en5509) 9 tk5510) 10 nu5511) 11 dg5512) 28 rc) 29 kc) 30 wc) nm5513 tx1 kN1 kU1 tb len n so pl ct E (X_av n ck) c0 rc kc wc rn lo kn ab D W h5518 h5529 h5530 h5531 (show (o 1) = len from by first | assumption | omega) hl htx hX hp5515 (show (o 5) = 0 from by omega) (show kc = kc from by omega) (by omega) (show 0 ≤ b1 ∧ b1 ≤ 1 from by omega) (by omega) hB1k) (fun v5532 S5533 h5534 => ?_)
                                        rcases h5534 with ⟨at5535, en5536, tk5537, nu5538, dg5539, nm5540, c5541, ab5542, kN5543, kU5544, hv5545, hp5546, hp5547, hp5548, hp5549, hp5550, hM5551, ha5552, ha5553, hf5554⟩ | ⟨at5555, en5556, tk5557, nu5558, dg5559, nm5560, kc5561, f5562, g5563, kN5564, kU5565, hv5566, hp5567, hp5568, hp5569, hp5570, hM5571, ha5572, ha5573, hf5574⟩
                                        · skip
                                          rw [hv5545]
                                          have h5575 : S5533.1 530 = .inr (11, [.ref 531, .int (iI 0), .ref 532, .int (iI (o 1)), .int (iI b1), .int (iI (o 5)), .int (iI g1), .int (iI at5535), .int (iI en5536), .int (iI tk5537), .int (iI nu5538), .int (iI dg5539), .long nm5540, .ref 533, .ref 534, .ref 535, .ref 536, .ref 537, .ref 538, .ref 539, .ref 540, .ref 541, .ref 542, .ref 543, .ref 544, .ref 545, .ref 546, .ref 547, .int (iI rc), .int (iI (kc + 1)), .int (iI wc), .int (iI (o 31)), .int (iI (o 32)), .int (iI (o 33)), .ref 548, .ref 549, .ref 550, .ref 551, .int (iI (o 38)), .ref 552, .ref 553, .ref 554, .ref 555, .ref 556, .ref 557, .ref 558, .ref 559, .ref 560, .ref 561, .int (iI (o 49)), .ref 562, .ref 563, .ref 564, .ref 565, .ref 566, .ref 567, .ref 568, .ref 569, .int (iI (o 58)), .ref 570, .ref 571, .ref 572, .ref 573, .ref 574, .ref 575, .ref 576, .ref 577, .ref 578, .int (iI (o 68)), .int (iI (o 69)), .int (iI (o 70)), .ref 579]) := hM5551
                                          have hp5548 : R_kd (b1) (kc + 1) (X_ug kn kc (ct (X_av n ck))) ab5542 kN5543 kU5544 := hp5548
                                          have hp5549 : R_ob 11 (b1) kN1 kN5543 := hp5549
                                          have hp5550 : R_ob 11 (b1) kU1 kU5544 := hp5550
                                          obtain ⟨⟨_, _⟩, ⟨_, _⟩, hk5576, ⟨_, _⟩, hk5576e, ⟨_, _⟩, ⟨_, _⟩⟩ := R_tk_f hX hp5546
                                          show X_T sc 162 (320, [(3, .int (iI 0)), (1, .long (ct ck)), (0, .ref 530)], [], S5533) _
                                          refine T_p xr_162_320 xn_162 (pc' := 327) (ls' := [(3, .int (iI 0)), (1, .long (ct ck)), (0, .ref 530)]) (st' := []) rfl ?_
                                          refine T_p xr_162_327 xn_162 (pc' := 113) (ls' := [(3, .int (iI 0)), (1, .long (ct ck)), (0, .ref 530)]) (st' := []) rfl ?_
                                          have h5578 := (hf5554.1 533 (by omega)).trans ((hf5517.1 533 (by omega)).trans (hA533_))
                                          have h5579 := (hf5554.1 535 (by omega)).trans ((hf5517.1 535 (by omega)).trans (hA535_))
                                          have h5580 := (hf5554.1 537 (by omega)).trans ((hf5517.1 537 (by omega)).trans (hA537_))
                                          have h5581 := (hf5554.1 538 (by omega)).trans ((hf5517.1 538 (by omega)).trans (hA538_))
                                          have h5582 := (hf5554.1 539 (by omega)).trans ((hf5517.1 539 (by omega)).trans (hA539_))
                                          have h5583 := (hf5554.1 540 (by omega)).trans ((hf5517.1 540 (by omega)).trans (hA540_))
                                          have h5584 := (hf5554.1 541 (by omega)).trans ((hf5517.1 541 (by omega)).trans (hA541_))
                                          have h5585 := (hf5554.1 542 (by omega)).trans ((hf5517.1 542 (by omega)).trans (hA542_))
                                          have h5586 := (hf5554.1 543 (by omega)).trans ((hf5517.1 543 (by omega)).trans (hA543_))
                                          have h5587 := (hf5554.1 544 (by omega)).trans ((hf5517.1 544 (by omega)).trans (hA544_))
                                          have h5588 := (hf5554.1 545 (by omega)).trans ((hf5517.1 545 (by omega)).trans (hA545_))
                                          have h5589 := (hf5554.1 546 (by omega)).trans ((hf5517.1 546 (by omega)).trans (hA546_))
                                          have h5590 := (hf5554.1 547 (by omega)).trans ((hf5517.1 547 (by omega)).trans (hA547_))
                                          have hl5591 : sp_line n so ct (ck, rc, kc, wc, rn, lo, kn, ab, D, W) = none := by
                                            show (if so ck = 3 ∧ ct ck = Int64.ofNat 1918987883 then _ else if so ck = 3 ∧ ct ck = Int64.ofNat 32766990153442674 then _ else if so ck = 3 ∧ ct ck = Int64.ofNat 1802071652 then _ else if so ck = 3 ∧ ct ck = Int64.ofNat 2003792484 then _ else none) = _
                                            rw [if_neg (fun z => absurd (((Classical.not_not.mp c5144)).symm.trans z.2) (by decide))]
                                            rw [if_neg (fun z => absurd (((Classical.not_not.mp c5144)).symm.trans z.2) (by decide))]
                                            rw [if_pos ⟨by omega, (Classical.not_not.mp c5144)⟩]
                                            exact hp5547
                                          refine T_sub (ls := [(0, .ref 530)]) ⟨rfl, trivial⟩ rfl rfl ?_
                                          exact ih4968 S5533 (line + 1) (ck, rc, kc, wc, rn, lo, kn, ab, D, W) (o 5) g1 at5535 en5536 tk5537 nu5538 dg5539 rc (kc + 1) wc nm5540 rN1 kN5543 tg1 kU5544 wR1 wL1 wK1 wM1 wH1 wS1 sO1 sN1 eP1 eH1 hK1 h5575 h5578 ha5552 h5579 ha5553 h5580 h5581 h5582 h5583 h5584 h5585 h5586 h5587 h5588 h5589 h5590 (hF4971.tr (((X_Fr.rf).tr (X_Fr.mono ⟨hf5517.1, hf5517.2⟩ (fun q hq => (by omega)))).tr (X_Fr.mono ⟨hf5554.1, hf5554.2⟩ (fun q hq => (by omega))))) (by omega) (fun z => absurd z (by omega)) (fun _ => by
                                                rw [← hR, show (2001 - line).toNat = (2001 - (line + 1)).toNat + 1 by omega]
                                                show (if so ck = 0 then _ else _) = _
                                                rw [if_neg (by omega), hl5591]
                                                rfl) (hO.frK hbb hOk hp5549 hp5550) (by omega)
                                        · skip
                                          rw [hv5566]
                                          have h5577 : S5533.1 530 = .inr (11, [.ref 531, .int (iI 0), .ref 532, .int (iI (o 1)), .int (iI b1), .int (iI f5562), .int (iI g5563), .int (iI at5555), .int (iI en5556), .int (iI tk5557), .int (iI nu5558), .int (iI dg5559), .long nm5560, .ref 533, .ref 534, .ref 535, .ref 536, .ref 537, .ref 538, .ref 539, .ref 540, .ref 541, .ref 542, .ref 543, .ref 544, .ref 545, .ref 546, .ref 547, .int (iI rc), .int (iI kc5561), .int (iI wc), .int (iI (o 31)), .int (iI (o 32)), .int (iI (o 33)), .ref 548, .ref 549, .ref 550, .ref 551, .int (iI (o 38)), .ref 552, .ref 553, .ref 554, .ref 555, .ref 556, .ref 557, .ref 558, .ref 559, .ref 560, .ref 561, .int (iI (o 49)), .ref 562, .ref 563, .ref 564, .ref 565, .ref 566, .ref 567, .ref 568, .ref 569, .int (iI (o 58)), .ref 570, .ref 571, .ref 572, .ref 573, .ref 574, .ref 575, .ref 576, .ref 577, .ref 578, .int (iI (o 68)), .int (iI (o 69)), .int (iI (o 70)), .ref 579]) := hM5571
                                          have hp5569 : R_ob 11 (b1) kN1 kN5564 := hp5569
                                          have hp5570 : R_ob 11 (b1) kU1 kU5565 := hp5570
                                          show X_T sc 162 (320, [(3, .int (iI 0)), (1, .long (ct ck)), (0, .ref 530)], [], S5533) _
                                          refine T_p xr_162_320 xn_162 (pc' := 327) (ls' := [(3, .int (iI 0)), (1, .long (ct ck)), (0, .ref 530)]) (st' := []) rfl ?_
                                          refine T_p xr_162_327 xn_162 (pc' := 113) (ls' := [(3, .int (iI 0)), (1, .long (ct ck)), (0, .ref 530)]) (st' := []) rfl ?_
                                          have h5592 := (hf5574.1 533 (by omega)).trans ((hf5517.1 533 (by omega)).trans (hA533_))
                                          have h5593 := (hf5574.1 535 (by omega)).trans ((hf5517.1 535 (by omega)).trans (hA535_))
                                          have h5594 := (hf5574.1 537 (by omega)).trans ((hf5517.1 537 (by omega)).trans (hA537_))
                                          have h5595 := (hf5574.1 538 (by omega)).trans ((hf5517.1 538 (by omega)).trans (hA538_))
                                          have h5596 := (hf5574.1 539 (by omega)).trans ((hf5517.1 539 (by omega)).trans (hA539_))
                                          have h5597 := (hf5574.1 540 (by omega)).trans ((hf5517.1 540 (by omega)).trans (hA540_))
                                          have h5598 := (hf5574.1 541 (by omega)).trans ((hf5517.1 541 (by omega)).trans (hA541_))
                                          have h5599 := (hf5574.1 542 (by omega)).trans ((hf5517.1 542 (by omega)).trans (hA542_))
                                          have h5600 := (hf5574.1 543 (by omega)).trans ((hf5517.1 543 (by omega)).trans (hA543_))
                                          have h5601 := (hf5574.1 544 (by omega)).trans ((hf5517.1 544 (by omega)).trans (hA544_))
                                          have h5602 := (hf5574.1 545 (by omega)).trans ((hf5517.1 545 (by omega)).trans (hA545_))
                                          have h5603 := (hf5574.1 546 (by omega)).trans ((hf5517.1 546 (by omega)).trans (hA546_))
                                          have h5604 := (hf5574.1 547 (by omega)).trans ((hf5517.1 547 (by omega)).trans (hA547_))
                                          have hl5605 : sp_line n so ct (ck, rc, kc, wc, rn, lo, kn, ab, D, W) = none := by
                                            show (if so ck = 3 ∧ ct ck = Int64.ofNat 1918987883 then _ else if so ck = 3 ∧ ct ck = Int64.ofNat 32766990153442674 then _ else if so ck = 3 ∧ ct ck = Int64.ofNat 1802071652 then _ else if so ck = 3 ∧ ct ck = Int64.ofNat 2003792484 then _ else none) = _
                                            rw [if_neg (fun z => absurd (((Classical.not_not.mp c5144)).symm.trans z.2) (by decide))]
                                            rw [if_neg (fun z => absurd (((Classical.not_not.mp c5144)).symm.trans z.2) (by decide))]
                                            rw [if_pos ⟨by omega, (Classical.not_not.mp c5144)⟩]
                                            exact hp5568
                                          refine T_sub (ls := [(0, .ref 530)]) ⟨rfl, trivial⟩ rfl rfl ?_
                                          exact ih4968 S5533 (line + 1) (ck, rc, kc, wc, rn, lo, kn, ab, D, W) f5562 g5563 at5555 en5556 tk5557 nu5558 dg5559 rc kc5561 wc nm5560 rN1 kN5564 tg1 kU5565 wR1 wL1 wK1 wM1 wH1 wS1 sO1 sN1 eP1 eH1 hK1 h5577 h5592 ha5572 h5593 ha5573 h5594 h5595 h5596 h5597 h5598 h5599 h5600 h5601 h5602 h5603 h5604 (hF4971.tr (((X_Fr.rf).tr (X_Fr.mono ⟨hf5517.1, hf5517.2⟩ (fun q hq => (by omega)))).tr (X_Fr.mono ⟨hf5574.1, hf5574.2⟩ (fun q hq => (by omega))))) (by omega) (fun z => absurd z (by omega)) (fun _ => by
                                                rw [← hR, show (2001 - line).toNat = (2001 - (line + 1)).toNat + 1 by omega]
                                                show (if so ck = 0 then _ else _) = _
                                                rw [if_neg (by omega), hl5605]
                                                rfl) (hO.frK hbb hOk hp5569 hp5570) (by omega)
                                    · skip
                                      have c5527 : ¬ (¬ (ct ck) = (Int64.ofNat 32766990153442674)) := c5527
                                      exact absurd (((Classical.not_not.mp c5144)).symm.trans (show ct ck = Int64.ofNat 32766990153442674 from (by first | exact c5527 | exact Classical.not_not.mp c5527))) (by decide)
                                  · skip
                                    have c5526 : ¬ (¬ (ct ck) = (Int64.ofNat 1918987883)) := c5526
                                    exact absurd (show ct ck = Int64.ofNat 1918987883 from (by first | exact c5526 | exact Classical.not_not.mp c5526)) c5143
                                · skip
                                  have c5525 : ¬ ((o 5) = 0) := c5525
                                  exact (show False by first | contradiction | omega).elim
                            · skip
                              have c5497 : ¬ ((ct ck) = (Int64.ofNat 1802071652)) := c5497
                              exact absurd (Classical.not_not.mp c5144) c5497
                      · skip
                        have c5494 : ¬ (¬ kc = 11) := c5494
                        refine T_p xr_162_186 xn_162 (pc' := 187) (ls' := [(1, .long (ct ck)), (0, .ref 530)]) (st' := [.int (iI 1)]) rfl ?_
                        refine T_p xr_162_187 xn_162 (pc' := 216) (ls' := [(1, .long (ct ck)), (0, .ref 530)]) (st' := [.int (iI 1)]) rfl ?_
                        refine T_p xr_162_216 xn_162 (pc' := 217) (ls' := [(3, .int (iI 1)), (1, .long (ct ck)), (0, .ref 530)]) (st' := []) rfl ?_
                        refine T_p xr_162_217 xn_162 (pc' := 218) (ls' := [(3, .int (iI 1)), (1, .long (ct ck)), (0, .ref 530)]) (st' := [.long (ct ck)]) rfl ?_
                        refine T_p xr_162_218 xn_162 (pc' := 221) (ls' := [(3, .int (iI 1)), (1, .long (ct ck)), (0, .ref 530)]) (st' := [.long (Int64.ofNat 1918987883), .long (ct ck)]) rfl ?_
                        refine T_lc_eq xr_162_221 xr_162_222 (t := 249) (pc' := 225) rfl rfl (fun c5606 => ?_) (fun c5606 => ?_)
                        · skip
                          have c5606 : (ct ck) = (Int64.ofNat 1918987883) := c5606
                          exact absurd (show ct ck = Int64.ofNat 1918987883 from (by first | exact c5606 | exact Classical.not_not.mp c5606)) c5143
                        · skip
                          have c5606 : ¬ ((ct ck) = (Int64.ofNat 1918987883)) := c5606
                          refine T_p xr_162_225 xn_162 (pc' := 226) (ls' := [(3, .int (iI 1)), (1, .long (ct ck)), (0, .ref 530)]) (st' := [.long (ct ck)]) rfl ?_
                          refine T_p xr_162_226 xn_162 (pc' := 229) (ls' := [(3, .int (iI 1)), (1, .long (ct ck)), (0, .ref 530)]) (st' := [.long (Int64.ofNat 32766990153442674), .long (ct ck)]) rfl ?_
                          refine T_lc_eq xr_162_229 xr_162_230 (t := 249) (pc' := 233) rfl rfl (fun c5607 => ?_) (fun c5607 => ?_)
                          · skip
                            have c5607 : (ct ck) = (Int64.ofNat 32766990153442674) := c5607
                            exact absurd (((Classical.not_not.mp c5144)).symm.trans (show ct ck = Int64.ofNat 32766990153442674 from (by first | exact c5607 | exact Classical.not_not.mp c5607))) (by decide)
                          · skip
                            have c5607 : ¬ ((ct ck) = (Int64.ofNat 32766990153442674)) := c5607
                            refine T_p xr_162_233 xn_162 (pc' := 234) (ls' := [(3, .int (iI 1)), (1, .long (ct ck)), (0, .ref 530)]) (st' := [.long (ct ck)]) rfl ?_
                            refine T_p xr_162_234 xn_162 (pc' := 237) (ls' := [(3, .int (iI 1)), (1, .long (ct ck)), (0, .ref 530)]) (st' := [.long (Int64.ofNat 1802071652), .long (ct ck)]) rfl ?_
                            refine T_lc_eq xr_162_237 xr_162_238 (t := 249) (pc' := 241) rfl rfl (fun c5608 => ?_) (fun c5608 => ?_)
                            · skip
                              have c5608 : (ct ck) = (Int64.ofNat 1802071652) := c5608
                              refine T_p xr_162_249 xn_162 (pc' := 250) (ls' := [(3, .int (iI 1)), (1, .long (ct ck)), (0, .ref 530)]) (st' := [.int (iI 1)]) rfl ?_
                              refine T_zif_eqf xr_162_250 (t := 257) (pc' := 253) rfl rfl (by decide) ?_
                              refine T_p xr_162_253 xn_162 (pc' := 254) (ls' := [(3, .int (iI 1)), (1, .long (ct ck)), (0, .ref 530)]) (st' := [.ref 530]) rfl ?_
                              refine T_cv (S := S4987) (q := 530) xr_162_254 xf_147.1 xf_147.2.1 xn_147 (as := []) (r := []) rfl hM5034 (Nat.le_of_ble_eq_true rfl) (Nat.le_of_ble_eq_true rfl) (pc' := 257) rfl (ls' := [(0, .ref 530)]) rfl ?_
                              have h5609 := (hF4971.1 532 (by omega)).trans ((hf4964.1 532 (by omega)).trans (h4951))
                              refine T_mono (r_wrong sc S4987 (X_ou (X_ou (X_ou (X_ou (X_ou (X_ou (X_ou (X_ou (X_ou (X_ou (X_ou (X_ou o 1 0) 3 (o 1)) 4 b1) 6 g1) 7 at1) 8 en1) 9 tk1) 10 nu1) 11 dg1) 28 rc) 29 kc) 30 wc) nm1 tx1 tb len n so pl ct E ck hM5034 h5609 (show (o 1) = len from by first | assumption | omega) hl htx hX hT1 (show 0 ≤ (o 5) ∧ (o 5) ≤ 5 from by omega)) (fun v5610 S5611 h5612 => ?_)
                              rcases h5612 with ⟨f5613, g5614, hv5615, hp5616, hM5617, hf5618⟩
                              rw [hv5615]
                              have h5619 : S5611.1 530 = .inr (11, [.ref 531, .int (iI 0), .ref 532, .int (iI (o 1)), .int (iI b1), .int (iI f5613), .int (iI g5614), .int (iI at1), .int (iI en1), .int (iI tk1), .int (iI nu1), .int (iI dg1), .long nm1, .ref 533, .ref 534, .ref 535, .ref 536, .ref 537, .ref 538, .ref 539, .ref 540, .ref 541, .ref 542, .ref 543, .ref 544, .ref 545, .ref 546, .ref 547, .int (iI rc), .int (iI kc), .int (iI wc), .int (iI (o 31)), .int (iI (o 32)), .int (iI (o 33)), .ref 548, .ref 549, .ref 550, .ref 551, .int (iI (o 38)), .ref 552, .ref 553, .ref 554, .ref 555, .ref 556, .ref 557, .ref 558, .ref 559, .ref 560, .ref 561, .int (iI (o 49)), .ref 562, .ref 563, .ref 564, .ref 565, .ref 566, .ref 567, .ref 568, .ref 569, .int (iI (o 58)), .ref 570, .ref 571, .ref 572, .ref 573, .ref 574, .ref 575, .ref 576, .ref 577, .ref 578, .int (iI (o 68)), .int (iI (o 69)), .int (iI (o 70)), .ref 579]) := hM5617
                              show X_T sc 162 (257, [(3, .int (iI 1)), (1, .long (ct ck)), (0, .ref 530)], [], S5611) _
                              refine T_p xr_162_257 xn_162 (pc' := 258) (ls' := [(3, .int (iI 1)), (1, .long (ct ck)), (0, .ref 530)]) (st' := [.ref 530]) rfl ?_
                              refine T_cv (S := S5611) (q := 530) xr_162_258 xf_140.1 xf_140.2.1 xn_140 (as := []) (r := []) rfl h5619 (Nat.le_of_ble_eq_true rfl) (Nat.le_of_ble_eq_true rfl) (pc' := 261) rfl (ls' := [(0, .ref 530)]) rfl ?_
                              refine T_mono (r_isGood sc S5611 (X_ou (X_ou (X_ou (X_ou (X_ou (X_ou (X_ou (X_ou (X_ou (X_ou (X_ou (X_ou (X_ou o 1 0) 3 (o 1)) 4 b1) 5 f5613) 6 g5614) 7 at1) 8 en1) 9 tk1) 10 nu1) 11 dg1) 28 rc) 29 kc) 30 wc) nm1 h5619 (show 0 ≤ f5613 ∧ f5613 ≤ 5 from by omega)) (fun v5620 S5621 h5622 => ?_)
                              rcases h5622 with ⟨hv5623, hf5624⟩
                              rw [hv5623]
                              rw [hf5624]
                              show X_T sc 162 (261, [(3, .int (iI 1)), (1, .long (ct ck)), (0, .ref 530)], [.int (iI (bI (f5613 = 0)))], S5611) _
                              refine T_bif_eq xr_162_261 (t := 268) (pc' := 264) rfl rfl (fun c5625 => ?_) (fun c5625 => ?_)
                              · skip
                                have c5625 : ¬ (f5613 = 0) := c5625
                                refine T_p xr_162_268 xn_162 (pc' := 269) (ls' := [(3, .int (iI 1)), (1, .long (ct ck)), (0, .ref 530)]) (st' := [.ref 530]) rfl ?_
                                refine T_cv (S := S5611) (q := 530) xr_162_269 xf_140.1 xf_140.2.1 xn_140 (as := []) (r := []) rfl h5619 (Nat.le_of_ble_eq_true rfl) (Nat.le_of_ble_eq_true rfl) (pc' := 272) rfl (ls' := [(0, .ref 530)]) rfl ?_
                                refine T_mono (r_isGood sc S5611 (X_ou (X_ou (X_ou (X_ou (X_ou (X_ou (X_ou (X_ou (X_ou (X_ou (X_ou (X_ou (X_ou o 1 0) 3 (o 1)) 4 b1) 5 f5613) 6 g5614) 7 at1) 8 en1) 9 tk1) 10 nu1) 11 dg1) 28 rc) 29 kc) 30 wc) nm1 h5619 (show 0 ≤ f5613 ∧ f5613 ≤ 5 from by omega)) (fun v5626 S5627 h5628 => ?_)
                                rcases h5628 with ⟨hv5629, hf5630⟩
                                rw [hv5629]
                                rw [hf5630]
                                show X_T sc 162 (272, [(3, .int (iI 1)), (1, .long (ct ck)), (0, .ref 530)], [.int (iI (bI (f5613 = 0)))], S5611) _
                                refine T_bif_ne xr_162_272 (t := 278) (pc' := 275) rfl rfl (fun c5631 => ?_) (fun c5631 => ?_)
                                · skip
                                  have c5631 : (f5613 = 0) := c5631
                                  exact (show False by first | contradiction | omega).elim
                                · skip
                                  have c5631 : ¬ (f5613 = 0) := c5631
                                  refine T_p xr_162_275 xn_162 (pc' := 113) (ls' := [(3, .int (iI 1)), (1, .long (ct ck)), (0, .ref 530)]) (st' := []) rfl ?_
                                  have h5632 := (hf5618.1 533 (by omega)).trans (hA533_)
                                  have h5633 := (hf5618.1 534 (by omega)).trans (hA534_)
                                  have h5634 := (hf5618.1 535 (by omega)).trans (hA535_)
                                  have h5635 := (hf5618.1 536 (by omega)).trans (hA536_)
                                  have h5636 := (hf5618.1 537 (by omega)).trans (hA537_)
                                  have h5637 := (hf5618.1 538 (by omega)).trans (hA538_)
                                  have h5638 := (hf5618.1 539 (by omega)).trans (hA539_)
                                  have h5639 := (hf5618.1 540 (by omega)).trans (hA540_)
                                  have h5640 := (hf5618.1 541 (by omega)).trans (hA541_)
                                  have h5641 := (hf5618.1 542 (by omega)).trans (hA542_)
                                  have h5642 := (hf5618.1 543 (by omega)).trans (hA543_)
                                  have h5643 := (hf5618.1 544 (by omega)).trans (hA544_)
                                  have h5644 := (hf5618.1 545 (by omega)).trans (hA545_)
                                  have h5645 := (hf5618.1 546 (by omega)).trans (hA546_)
                                  have h5646 := (hf5618.1 547 (by omega)).trans (hA547_)
                                  have hl5647 : sp_line n so ct (ck, rc, kc, wc, rn, lo, kn, ab, D, W) = none := by
                                    show (if so ck = 3 ∧ ct ck = Int64.ofNat 1918987883 then _ else if so ck = 3 ∧ ct ck = Int64.ofNat 32766990153442674 then _ else if so ck = 3 ∧ ct ck = Int64.ofNat 1802071652 then _ else if so ck = 3 ∧ ct ck = Int64.ofNat 2003792484 then _ else none) = _
                                    rw [if_neg (fun z => absurd (((Classical.not_not.mp c5144)).symm.trans z.2) (by decide))]
                                    rw [if_neg (fun z => absurd (((Classical.not_not.mp c5144)).symm.trans z.2) (by decide))]
                                    rw [if_pos ⟨by omega, (Classical.not_not.mp c5144)⟩]
                                    simp only [sp_kind]
                                    rw [if_pos (by omega)]
                                  refine T_sub (ls := [(0, .ref 530)]) ⟨rfl, trivial⟩ rfl rfl ?_
                                  exact ih4968 S5611 (line + 1) (ck, rc, kc, wc, rn, lo, kn, ab, D, W) f5613 g5614 at1 en1 tk1 nu1 dg1 rc kc wc nm1 rN1 kN1 tg1 kU1 wR1 wL1 wK1 wM1 wH1 wS1 sO1 sN1 eP1 eH1 hK1 h5619 h5632 h5633 h5634 h5635 h5636 h5637 h5638 h5639 h5640 h5641 h5642 h5643 h5644 h5645 h5646 (hF4971.tr ((X_Fr.rf).tr (X_Fr.mono ⟨hf5618.1, hf5618.2⟩ (fun q hq => (by omega))))) (by omega) (fun z => absurd z (by omega)) (fun _ => by
                                        rw [← hR, show (2001 - line).toNat = (2001 - (line + 1)).toNat + 1 by omega]
                                        show (if so ck = 0 then _ else _) = _
                                        rw [if_neg (by omega), hl5647]
                                        rfl) hO (by omega)
                              · skip
                                have c5625 : (f5613 = 0) := c5625
                                exact (show False by first | contradiction | omega).elim
                            · skip
                              have c5608 : ¬ ((ct ck) = (Int64.ofNat 1802071652)) := c5608
                              exact absurd (Classical.not_not.mp c5144) c5608
                  · skip
                    have c5143 : ¬ (¬ (ct ck) = (Int64.ofNat 1918987883)) := c5143
                    refine T_p xr_162_152 xn_162 (pc' := 153) (ls' := [(1, .long (ct ck)), (0, .ref 530)]) (st' := [.ref 530]) rfl ?_
                    refine T_get xr_162_153 hM5034 rfl (v := .int (iI rc)) rfl (pc' := 156) rfl ?_
                    refine T_p xr_162_156 xn_162 (pc' := 158) (ls' := [(1, .long (ct ck)), (0, .ref 530)]) (st' := [.int (iI 12), .int (iI rc)]) rfl ?_
                    refine T_zicmp_ne xr_162_158 (t := 165) (pc' := 161) rfl rfl (fun c5648 => ?_) (fun c5648 => ?_)
                    · skip
                      have c5648 : ¬ rc = 12 := c5648
                      refine T_p xr_162_165 xn_162 (pc' := 166) (ls' := [(1, .long (ct ck)), (0, .ref 530)]) (st' := [.int (iI 0)]) rfl ?_
                      refine T_p xr_162_166 xn_162 (pc' := 216) (ls' := [(1, .long (ct ck)), (0, .ref 530)]) (st' := [.int (iI 0)]) rfl ?_
                      refine T_p xr_162_216 xn_162 (pc' := 217) (ls' := [(3, .int (iI 0)), (1, .long (ct ck)), (0, .ref 530)]) (st' := []) rfl ?_
                      refine T_p xr_162_217 xn_162 (pc' := 218) (ls' := [(3, .int (iI 0)), (1, .long (ct ck)), (0, .ref 530)]) (st' := [.long (ct ck)]) rfl ?_
                      refine T_p xr_162_218 xn_162 (pc' := 221) (ls' := [(3, .int (iI 0)), (1, .long (ct ck)), (0, .ref 530)]) (st' := [.long (Int64.ofNat 1918987883), .long (ct ck)]) rfl ?_
                      refine T_lc_eq xr_162_221 xr_162_222 (t := 249) (pc' := 225) rfl rfl (fun c5649 => ?_) (fun c5649 => ?_)
                      · skip
                        have c5649 : (ct ck) = (Int64.ofNat 1918987883) := c5649
                        refine T_p xr_162_249 xn_162 (pc' := 250) (ls' := [(3, .int (iI 0)), (1, .long (ct ck)), (0, .ref 530)]) (st' := [.int (iI 0)]) rfl ?_
                        refine T_zif_eqt xr_162_250 (t := 257) rfl (by decide) ?_
                        refine T_p xr_162_257 xn_162 (pc' := 258) (ls' := [(3, .int (iI 0)), (1, .long (ct ck)), (0, .ref 530)]) (st' := [.ref 530]) rfl ?_
                        refine T_cv (S := S4987) (q := 530) xr_162_258 xf_140.1 xf_140.2.1 xn_140 (as := []) (r := []) rfl hM5034 (Nat.le_of_ble_eq_true rfl) (Nat.le_of_ble_eq_true rfl) (pc' := 261) rfl (ls' := [(0, .ref 530)]) rfl ?_
                        refine T_mono (r_isGood sc S4987 (X_ou (X_ou (X_ou (X_ou (X_ou (X_ou (X_ou (X_ou (X_ou (X_ou (X_ou (X_ou o 1 0) 3 (o 1)) 4 b1) 6 g1) 7 at1) 8 en1) 9 tk1) 10 nu1) 11 dg1) 28 rc) 29 kc) 30 wc) nm1 hM5034 (show 0 ≤ (o 5) ∧ (o 5) ≤ 5 from by omega)) (fun v5650 S5651 h5652 => ?_)
                        rcases h5652 with ⟨hv5653, hf5654⟩
                        rw [hv5653]
                        rw [hf5654]
                        show X_T sc 162 (261, [(3, .int (iI 0)), (1, .long (ct ck)), (0, .ref 530)], [.int (iI (bI ((o 5) = 0)))], S4987) _
                        refine T_bif_eq xr_162_261 (t := 268) (pc' := 264) rfl rfl (fun c5655 => ?_) (fun c5655 => ?_)
                        · skip
                          have c5655 : ¬ ((o 5) = 0) := c5655
                          exact (show False by first | contradiction | omega).elim
                        · skip
                          have c5655 : ((o 5) = 0) := c5655
                          refine T_p xr_162_264 xn_162 (pc' := 265) (ls' := [(3, .int (iI 0)), (1, .long (ct ck)), (0, .ref 530)]) (st' := [.ref 530]) rfl ?_
                          refine T_cv (S := S4987) (q := 530) xr_162_265 xf_141.1 xf_141.2.1 xn_141 (as := []) (r := []) rfl hM5034 (Nat.le_of_ble_eq_true rfl) (Nat.le_of_ble_eq_true rfl) (pc' := 268) rfl (ls' := [(0, .ref 530)]) rfl ?_
                          have h5656 := (hF4971.1 532 (by omega)).trans ((hf4964.1 532 (by omega)).trans (h4951))
                          refine T_mono (r_nx sc S4987 (X_ou (X_ou (X_ou (X_ou (X_ou (X_ou (X_ou (X_ou (X_ou (X_ou (X_ou (X_ou o 1 0) 3 (o 1)) 4 b1) 6 g1) 7 at1) 8 en1) 9 tk1) 10 nu1) 11 dg1) 28 rc) 29 kc) 30 wc) nm1 tx1 tb len n so pl ct E ck hM5034 h5656 (show (o 1) = len from by first | assumption | omega) hl htx hX hT1 (by omega)) (fun v5657 S5658 h5659 => ?_)
                          rcases h5659 with ⟨at5660, en5661, tk5662, nu5663, dg5664, nm5665, hv5666, hp5667, hM5668, hf5669⟩
                          rw [hv5666]
                          have h5670 : S5658.1 530 = .inr (11, [.ref 531, .int (iI 0), .ref 532, .int (iI (o 1)), .int (iI b1), .int (iI (o 5)), .int (iI g1), .int (iI at5660), .int (iI en5661), .int (iI tk5662), .int (iI nu5663), .int (iI dg5664), .long nm5665, .ref 533, .ref 534, .ref 535, .ref 536, .ref 537, .ref 538, .ref 539, .ref 540, .ref 541, .ref 542, .ref 543, .ref 544, .ref 545, .ref 546, .ref 547, .int (iI rc), .int (iI kc), .int (iI wc), .int (iI (o 31)), .int (iI (o 32)), .int (iI (o 33)), .ref 548, .ref 549, .ref 550, .ref 551, .int (iI (o 38)), .ref 552, .ref 553, .ref 554, .ref 555, .ref 556, .ref 557, .ref 558, .ref 559, .ref 560, .ref 561, .int (iI (o 49)), .ref 562, .ref 563, .ref 564, .ref 565, .ref 566, .ref 567, .ref 568, .ref 569, .int (iI (o 58)), .ref 570, .ref 571, .ref 572, .ref 573, .ref 574, .ref 575, .ref 576, .ref 577, .ref 578, .int (iI (o 68)), .int (iI (o 69)), .int (iI (o 70)), .ref 579]) := hM5668
                          obtain ⟨⟨_, _⟩, ⟨_, _⟩, hk5671, ⟨_, _⟩, hk5671e, ⟨_, _⟩, ⟨_, _⟩⟩ := R_tk_f hX hp5667
                          show X_T sc 162 (268, [(3, .int (iI 0)), (1, .long (ct ck)), (0, .ref 530)], [], S5658) _
                          refine T_p xr_162_268 xn_162 (pc' := 269) (ls' := [(3, .int (iI 0)), (1, .long (ct ck)), (0, .ref 530)]) (st' := [.ref 530]) rfl ?_
                          refine T_cv (S := S5658) (q := 530) xr_162_269 xf_140.1 xf_140.2.1 xn_140 (as := []) (r := []) rfl h5670 (Nat.le_of_ble_eq_true rfl) (Nat.le_of_ble_eq_true rfl) (pc' := 272) rfl (ls' := [(0, .ref 530)]) rfl ?_
                          refine T_mono (r_isGood sc S5658 (X_ou (X_ou (X_ou (X_ou (X_ou (X_ou (X_ou (X_ou (X_ou (X_ou (X_ou (X_ou o 1 0) 3 (o 1)) 4 b1) 6 g1) 7 at5660) 8 en5661) 9 tk5662) 10 nu5663) 11 dg5664) 28 rc) 29 kc) 30 wc) nm5665 h5670 (show 0 ≤ (o 5) ∧ (o 5) ≤ 5 from by omega)) (fun v5672 S5673 h5674 => ?_)
                          rcases h5674 with ⟨hv5675, hf5676⟩
                          rw [hv5675]
                          rw [hf5676]
                          show X_T sc 162 (272, [(3, .int (iI 0)), (1, .long (ct ck)), (0, .ref 530)], [.int (iI (bI ((o 5) = 0)))], S5658) _
                          refine T_bif_ne xr_162_272 (t := 278) (pc' := 275) rfl rfl (fun c5677 => ?_) (fun c5677 => ?_)
                          · skip
                            have c5677 : ((o 5) = 0) := c5677
                            refine T_p xr_162_278 xn_162 (pc' := 279) (ls' := [(3, .int (iI 0)), (1, .long (ct ck)), (0, .ref 530)]) (st' := [.long (ct ck)]) rfl ?_
                            refine T_p xr_162_279 xn_162 (pc' := 282) (ls' := [(3, .int (iI 0)), (1, .long (ct ck)), (0, .ref 530)]) (st' := [.long (Int64.ofNat 1918987883), .long (ct ck)]) rfl ?_
                            refine T_lc_ne xr_162_282 xr_162_283 (t := 293) (pc' := 286) rfl rfl (fun c5678 => ?_) (fun c5678 => ?_)
                            · skip
                              have c5678 : ¬ (ct ck) = (Int64.ofNat 1918987883) := c5678
                              exact absurd (Classical.not_not.mp c5143) c5678
                            · skip
                              have c5678 : ¬ (¬ (ct ck) = (Int64.ofNat 1918987883)) := c5678
                              refine T_p xr_162_286 xn_162 (pc' := 287) (ls' := [(3, .int (iI 0)), (1, .long (ct ck)), (0, .ref 530)]) (st' := [.ref 530]) rfl ?_
                              refine T_cv (S := S5658) (q := 530) xr_162_287 xf_153.1 xf_153.2.1 xn_153 (as := []) (r := []) rfl h5670 (Nat.le_of_ble_eq_true rfl) (Nat.le_of_ble_eq_true rfl) (pc' := 290) rfl (ls' := [(0, .ref 530)]) rfl ?_
                              have h5679 := (hf5669.1 532 (by omega)).trans (h5656)
                              have h5680 := (hf5669.1 533 (by omega)).trans (hA533_)
                              have h5681 := (hf5669.1 535 (by omega)).trans (hA535_)
                              refine T_mono (r_readRank sc S5658 (X_ou (X_ou (X_ou (X_ou (X_ou (X_ou (X_ou (X_ou (X_ou (X_ou (X_ou (X_ou o 1 0) 3 (o 1)) 4 b1) 6 g1) 7 at5660) 8 en5661) 9 tk5662) 10 nu5663) 11 dg5664) 28 rc) 29 kc) 30 wc) nm5665 tx1 rN1 tg1 tb len n so pl ct E (X_av n ck) c0 rc kc wc rn lo kn ab D W h5670 h5679 h5680 h5681 (show (o 1) = len from by first | assumption | omega) hl htx hX hp5667 (show (o 5) = 0 from by omega) (show rc = rc from by omega) (by omega) (show 0 ≤ b1 ∧ b1 ≤ 1 from by omega) (by omega) hB1r) (fun v5682 S5683 h5684 => ?_)
                              rcases h5684 with ⟨at5685, en5686, tk5687, nu5688, dg5689, nm5690, rN5691, tg5692, hv5693, hp5694, hp5695, hp5696, hp5697, hM5698, ha5699, ha5700, hf5701⟩ | ⟨at5702, en5703, tk5704, nu5705, dg5706, nm5707, rc5708, f5709, g5710, rN5711, tg5712, hv5713, hp5714, hp5715, hp5716, hM5717, ha5718, ha5719, hf5720⟩
                              · skip
                                rw [hv5693]
                                have h5721 : S5683.1 530 = .inr (11, [.ref 531, .int (iI 0), .ref 532, .int (iI (o 1)), .int (iI b1), .int (iI (o 5)), .int (iI g1), .int (iI at5685), .int (iI en5686), .int (iI tk5687), .int (iI nu5688), .int (iI dg5689), .long nm5690, .ref 533, .ref 534, .ref 535, .ref 536, .ref 537, .ref 538, .ref 539, .ref 540, .ref 541, .ref 542, .ref 543, .ref 544, .ref 545, .ref 546, .ref 547, .int (iI (rc + 1)), .int (iI kc), .int (iI wc), .int (iI (o 31)), .int (iI (o 32)), .int (iI (o 33)), .ref 548, .ref 549, .ref 550, .ref 551, .int (iI (o 38)), .ref 552, .ref 553, .ref 554, .ref 555, .ref 556, .ref 557, .ref 558, .ref 559, .ref 560, .ref 561, .int (iI (o 49)), .ref 562, .ref 563, .ref 564, .ref 565, .ref 566, .ref 567, .ref 568, .ref 569, .int (iI (o 58)), .ref 570, .ref 571, .ref 572, .ref 573, .ref 574, .ref 575, .ref 576, .ref 577, .ref 578, .int (iI (o 68)), .int (iI (o 69)), .int (iI (o 70)), .ref 579]) := hM5698
                                have hp5696 : R_rk (b1) (rc + 1) (X_ug rn rc (ct (X_av n ck))) (X_ug lo rc 0) rN5691 tg5692 := hp5696
                                have hp5697 : R_ob 12 (b1) rN1 rN5691 ∧ R_ob 144 (b1) tg1 tg5692 := hp5697
                                obtain ⟨⟨_, _⟩, ⟨_, _⟩, hk5722, ⟨_, _⟩, hk5722e, ⟨_, _⟩, ⟨_, _⟩⟩ := R_tk_f hX hp5694
                                show X_T sc 162 (290, [(3, .int (iI 0)), (1, .long (ct ck)), (0, .ref 530)], [], S5683) _
                                refine T_p xr_162_290 xn_162 (pc' := 327) (ls' := [(3, .int (iI 0)), (1, .long (ct ck)), (0, .ref 530)]) (st' := []) rfl ?_
                                refine T_p xr_162_327 xn_162 (pc' := 113) (ls' := [(3, .int (iI 0)), (1, .long (ct ck)), (0, .ref 530)]) (st' := []) rfl ?_
                                have h5724 := (hf5701.1 534 (by omega)).trans ((hf5669.1 534 (by omega)).trans (hA534_))
                                have h5725 := (hf5701.1 536 (by omega)).trans ((hf5669.1 536 (by omega)).trans (hA536_))
                                have h5726 := (hf5701.1 537 (by omega)).trans ((hf5669.1 537 (by omega)).trans (hA537_))
                                have h5727 := (hf5701.1 538 (by omega)).trans ((hf5669.1 538 (by omega)).trans (hA538_))
                                have h5728 := (hf5701.1 539 (by omega)).trans ((hf5669.1 539 (by omega)).trans (hA539_))
                                have h5729 := (hf5701.1 540 (by omega)).trans ((hf5669.1 540 (by omega)).trans (hA540_))
                                have h5730 := (hf5701.1 541 (by omega)).trans ((hf5669.1 541 (by omega)).trans (hA541_))
                                have h5731 := (hf5701.1 542 (by omega)).trans ((hf5669.1 542 (by omega)).trans (hA542_))
                                have h5732 := (hf5701.1 543 (by omega)).trans ((hf5669.1 543 (by omega)).trans (hA543_))
                                have h5733 := (hf5701.1 544 (by omega)).trans ((hf5669.1 544 (by omega)).trans (hA544_))
                                have h5734 := (hf5701.1 545 (by omega)).trans ((hf5669.1 545 (by omega)).trans (hA545_))
                                have h5735 := (hf5701.1 546 (by omega)).trans ((hf5669.1 546 (by omega)).trans (hA546_))
                                have h5736 := (hf5701.1 547 (by omega)).trans ((hf5669.1 547 (by omega)).trans (hA547_))
                                have hl5737 : sp_line n so ct (ck, rc, kc, wc, rn, lo, kn, ab, D, W) = none := by
                                  show (if so ck = 3 ∧ ct ck = Int64.ofNat 1918987883 then _ else if so ck = 3 ∧ ct ck = Int64.ofNat 32766990153442674 then _ else if so ck = 3 ∧ ct ck = Int64.ofNat 1802071652 then _ else if so ck = 3 ∧ ct ck = Int64.ofNat 2003792484 then _ else none) = _
                                  rw [if_pos ⟨by omega, (Classical.not_not.mp c5143)⟩]
                                  exact hp5695
                                refine T_sub (ls := [(0, .ref 530)]) ⟨rfl, trivial⟩ rfl rfl ?_
                                exact ih4968 S5683 (line + 1) (ck, rc, kc, wc, rn, lo, kn, ab, D, W) (o 5) g1 at5685 en5686 tk5687 nu5688 dg5689 (rc + 1) kc wc nm5690 rN5691 kN1 tg5692 kU1 wR1 wL1 wK1 wM1 wH1 wS1 sO1 sN1 eP1 eH1 hK1 h5721 ha5699 h5724 ha5700 h5725 h5726 h5727 h5728 h5729 h5730 h5731 h5732 h5733 h5734 h5735 h5736 (hF4971.tr (((X_Fr.rf).tr (X_Fr.mono ⟨hf5669.1, hf5669.2⟩ (fun q hq => (by omega)))).tr (X_Fr.mono ⟨hf5701.1, hf5701.2⟩ (fun q hq => (by omega))))) (by omega) (fun z => absurd z (by omega)) (fun _ => by
                                      rw [← hR, show (2001 - line).toNat = (2001 - (line + 1)).toNat + 1 by omega]
                                      show (if so ck = 0 then _ else _) = _
                                      rw [if_neg (by omega), hl5737]
                                      rfl) (hO.frR hbb hOk hp5697.1 hp5697.2) (by omega)
                              · skip
                                rw [hv5713]
                                have h5723 : S5683.1 530 = .inr (11, [.ref 531, .int (iI 0), .ref 532, .int (iI (o 1)), .int (iI b1), .int (iI f5709), .int (iI g5710), .int (iI at5702), .int (iI en5703), .int (iI tk5704), .int (iI nu5705), .int (iI dg5706), .long nm5707, .ref 533, .ref 534, .ref 535, .ref 536, .ref 537, .ref 538, .ref 539, .ref 540, .ref 541, .ref 542, .ref 543, .ref 544, .ref 545, .ref 546, .ref 547, .int (iI rc5708), .int (iI kc), .int (iI wc), .int (iI (o 31)), .int (iI (o 32)), .int (iI (o 33)), .ref 548, .ref 549, .ref 550, .ref 551, .int (iI (o 38)), .ref 552, .ref 553, .ref 554, .ref 555, .ref 556, .ref 557, .ref 558, .ref 559, .ref 560, .ref 561, .int (iI (o 49)), .ref 562, .ref 563, .ref 564, .ref 565, .ref 566, .ref 567, .ref 568, .ref 569, .int (iI (o 58)), .ref 570, .ref 571, .ref 572, .ref 573, .ref 574, .ref 575, .ref 576, .ref 577, .ref 578, .int (iI (o 68)), .int (iI (o 69)), .int (iI (o 70)), .ref 579]) := hM5717
                                have hp5716 : R_ob 12 (b1) rN1 rN5711 ∧ R_ob 144 (b1) tg1 tg5712 := hp5716
                                show X_T sc 162 (290, [(3, .int (iI 0)), (1, .long (ct ck)), (0, .ref 530)], [], S5683) _
                                refine T_p xr_162_290 xn_162 (pc' := 327) (ls' := [(3, .int (iI 0)), (1, .long (ct ck)), (0, .ref 530)]) (st' := []) rfl ?_
                                refine T_p xr_162_327 xn_162 (pc' := 113) (ls' := [(3, .int (iI 0)), (1, .long (ct ck)), (0, .ref 530)]) (st' := []) rfl ?_
                                have h5738 := (hf5720.1 534 (by omega)).trans ((hf5669.1 534 (by omega)).trans (hA534_))
                                have h5739 := (hf5720.1 536 (by omega)).trans ((hf5669.1 536 (by omega)).trans (hA536_))
                                have h5740 := (hf5720.1 537 (by omega)).trans ((hf5669.1 537 (by omega)).trans (hA537_))
                                have h5741 := (hf5720.1 538 (by omega)).trans ((hf5669.1 538 (by omega)).trans (hA538_))
                                have h5742 := (hf5720.1 539 (by omega)).trans ((hf5669.1 539 (by omega)).trans (hA539_))
                                have h5743 := (hf5720.1 540 (by omega)).trans ((hf5669.1 540 (by omega)).trans (hA540_))
                                have h5744 := (hf5720.1 541 (by omega)).trans ((hf5669.1 541 (by omega)).trans (hA541_))
                                have h5745 := (hf5720.1 542 (by omega)).trans ((hf5669.1 542 (by omega)).trans (hA542_))
                                have h5746 := (hf5720.1 543 (by omega)).trans ((hf5669.1 543 (by omega)).trans (hA543_))
                                have h5747 := (hf5720.1 544 (by omega)).trans ((hf5669.1 544 (by omega)).trans (hA544_))
                                have h5748 := (hf5720.1 545 (by omega)).trans ((hf5669.1 545 (by omega)).trans (hA545_))
                                have h5749 := (hf5720.1 546 (by omega)).trans ((hf5669.1 546 (by omega)).trans (hA546_))
                                have h5750 := (hf5720.1 547 (by omega)).trans ((hf5669.1 547 (by omega)).trans (hA547_))
                                have hl5751 : sp_line n so ct (ck, rc, kc, wc, rn, lo, kn, ab, D, W) = none := by
                                  show (if so ck = 3 ∧ ct ck = Int64.ofNat 1918987883 then _ else if so ck = 3 ∧ ct ck = Int64.ofNat 32766990153442674 then _ else if so ck = 3 ∧ ct ck = Int64.ofNat 1802071652 then _ else if so ck = 3 ∧ ct ck = Int64.ofNat 2003792484 then _ else none) = _
                                  rw [if_pos ⟨by omega, (Classical.not_not.mp c5143)⟩]
                                  exact hp5715
                                refine T_sub (ls := [(0, .ref 530)]) ⟨rfl, trivial⟩ rfl rfl ?_
                                exact ih4968 S5683 (line + 1) (ck, rc, kc, wc, rn, lo, kn, ab, D, W) f5709 g5710 at5702 en5703 tk5704 nu5705 dg5706 rc5708 kc wc nm5707 rN5711 kN1 tg5712 kU1 wR1 wL1 wK1 wM1 wH1 wS1 sO1 sN1 eP1 eH1 hK1 h5723 ha5718 h5738 ha5719 h5739 h5740 h5741 h5742 h5743 h5744 h5745 h5746 h5747 h5748 h5749 h5750 (hF4971.tr (((X_Fr.rf).tr (X_Fr.mono ⟨hf5669.1, hf5669.2⟩ (fun q hq => (by omega)))).tr (X_Fr.mono ⟨hf5720.1, hf5720.2⟩ (fun q hq => (by omega))))) (by omega) (fun z => absurd z (by omega)) (fun _ => by
                                      rw [← hR, show (2001 - line).toNat = (2001 - (line + 1)).toNat + 1 by omega]
                                      show (if so ck = 0 then _ else _) = _
                                      rw [if_neg (by omega), hl5751]
                                      rfl) (hO.frR hbb hOk hp5716.1 hp5716.2) (by omega)
                          · skip
                            have c5677 : ¬ ((o 5) = 0) := c5677
                            exact (show False by first | contradiction | omega).elim
                      · skip
                        have c5649 : ¬ ((ct ck) = (Int64.ofNat 1918987883)) := c5649
                        exact absurd (Classical.not_not.mp c5143) c5649
                    · skip
                      have c5648 : ¬ (¬ rc = 12) := c5648
                      refine T_p xr_162_161 xn_162 (pc' := 162) (ls' := [(1, .long (ct ck)), (0, .ref 530)]) (st' := [.int (iI 1)]) rfl ?_
                      refine T_p xr_162_162 xn_162 (pc' := 216) (ls' := [(1, .long (ct ck)), (0, .ref 530)]) (st' := [.int (iI 1)]) rfl ?_
                      refine T_p xr_162_216 xn_162 (pc' := 217) (ls' := [(3, .int (iI 1)), (1, .long (ct ck)), (0, .ref 530)]) (st' := []) rfl ?_
                      refine T_p xr_162_217 xn_162 (pc' := 218) (ls' := [(3, .int (iI 1)), (1, .long (ct ck)), (0, .ref 530)]) (st' := [.long (ct ck)]) rfl ?_
                      refine T_p xr_162_218 xn_162 (pc' := 221) (ls' := [(3, .int (iI 1)), (1, .long (ct ck)), (0, .ref 530)]) (st' := [.long (Int64.ofNat 1918987883), .long (ct ck)]) rfl ?_
                      refine T_lc_eq xr_162_221 xr_162_222 (t := 249) (pc' := 225) rfl rfl (fun c5752 => ?_) (fun c5752 => ?_)
                      · skip
                        have c5752 : (ct ck) = (Int64.ofNat 1918987883) := c5752
                        refine T_p xr_162_249 xn_162 (pc' := 250) (ls' := [(3, .int (iI 1)), (1, .long (ct ck)), (0, .ref 530)]) (st' := [.int (iI 1)]) rfl ?_
                        refine T_zif_eqf xr_162_250 (t := 257) (pc' := 253) rfl rfl (by decide) ?_
                        refine T_p xr_162_253 xn_162 (pc' := 254) (ls' := [(3, .int (iI 1)), (1, .long (ct ck)), (0, .ref 530)]) (st' := [.ref 530]) rfl ?_
                        refine T_cv (S := S4987) (q := 530) xr_162_254 xf_147.1 xf_147.2.1 xn_147 (as := []) (r := []) rfl hM5034 (Nat.le_of_ble_eq_true rfl) (Nat.le_of_ble_eq_true rfl) (pc' := 257) rfl (ls' := [(0, .ref 530)]) rfl ?_
                        have h5753 := (hF4971.1 532 (by omega)).trans ((hf4964.1 532 (by omega)).trans (h4951))
                        refine T_mono (r_wrong sc S4987 (X_ou (X_ou (X_ou (X_ou (X_ou (X_ou (X_ou (X_ou (X_ou (X_ou (X_ou (X_ou o 1 0) 3 (o 1)) 4 b1) 6 g1) 7 at1) 8 en1) 9 tk1) 10 nu1) 11 dg1) 28 rc) 29 kc) 30 wc) nm1 tx1 tb len n so pl ct E ck hM5034 h5753 (show (o 1) = len from by first | assumption | omega) hl htx hX hT1 (show 0 ≤ (o 5) ∧ (o 5) ≤ 5 from by omega)) (fun v5754 S5755 h5756 => ?_)
                        rcases h5756 with ⟨f5757, g5758, hv5759, hp5760, hM5761, hf5762⟩
                        rw [hv5759]
                        have h5763 : S5755.1 530 = .inr (11, [.ref 531, .int (iI 0), .ref 532, .int (iI (o 1)), .int (iI b1), .int (iI f5757), .int (iI g5758), .int (iI at1), .int (iI en1), .int (iI tk1), .int (iI nu1), .int (iI dg1), .long nm1, .ref 533, .ref 534, .ref 535, .ref 536, .ref 537, .ref 538, .ref 539, .ref 540, .ref 541, .ref 542, .ref 543, .ref 544, .ref 545, .ref 546, .ref 547, .int (iI rc), .int (iI kc), .int (iI wc), .int (iI (o 31)), .int (iI (o 32)), .int (iI (o 33)), .ref 548, .ref 549, .ref 550, .ref 551, .int (iI (o 38)), .ref 552, .ref 553, .ref 554, .ref 555, .ref 556, .ref 557, .ref 558, .ref 559, .ref 560, .ref 561, .int (iI (o 49)), .ref 562, .ref 563, .ref 564, .ref 565, .ref 566, .ref 567, .ref 568, .ref 569, .int (iI (o 58)), .ref 570, .ref 571, .ref 572, .ref 573, .ref 574, .ref 575, .ref 576, .ref 577, .ref 578, .int (iI (o 68)), .int (iI (o 69)), .int (iI (o 70)), .ref 579]) := hM5761
                        show X_T sc 162 (257, [(3, .int (iI 1)), (1, .long (ct ck)), (0, .ref 530)], [], S5755) _
                        refine T_p xr_162_257 xn_162 (pc' := 258) (ls' := [(3, .int (iI 1)), (1, .long (ct ck)), (0, .ref 530)]) (st' := [.ref 530]) rfl ?_
                        refine T_cv (S := S5755) (q := 530) xr_162_258 xf_140.1 xf_140.2.1 xn_140 (as := []) (r := []) rfl h5763 (Nat.le_of_ble_eq_true rfl) (Nat.le_of_ble_eq_true rfl) (pc' := 261) rfl (ls' := [(0, .ref 530)]) rfl ?_
                        refine T_mono (r_isGood sc S5755 (X_ou (X_ou (X_ou (X_ou (X_ou (X_ou (X_ou (X_ou (X_ou (X_ou (X_ou (X_ou (X_ou o 1 0) 3 (o 1)) 4 b1) 5 f5757) 6 g5758) 7 at1) 8 en1) 9 tk1) 10 nu1) 11 dg1) 28 rc) 29 kc) 30 wc) nm1 h5763 (show 0 ≤ f5757 ∧ f5757 ≤ 5 from by omega)) (fun v5764 S5765 h5766 => ?_)
                        rcases h5766 with ⟨hv5767, hf5768⟩
                        rw [hv5767]
                        rw [hf5768]
                        show X_T sc 162 (261, [(3, .int (iI 1)), (1, .long (ct ck)), (0, .ref 530)], [.int (iI (bI (f5757 = 0)))], S5755) _
                        refine T_bif_eq xr_162_261 (t := 268) (pc' := 264) rfl rfl (fun c5769 => ?_) (fun c5769 => ?_)
                        · skip
                          have c5769 : ¬ (f5757 = 0) := c5769
                          refine T_p xr_162_268 xn_162 (pc' := 269) (ls' := [(3, .int (iI 1)), (1, .long (ct ck)), (0, .ref 530)]) (st' := [.ref 530]) rfl ?_
                          refine T_cv (S := S5755) (q := 530) xr_162_269 xf_140.1 xf_140.2.1 xn_140 (as := []) (r := []) rfl h5763 (Nat.le_of_ble_eq_true rfl) (Nat.le_of_ble_eq_true rfl) (pc' := 272) rfl (ls' := [(0, .ref 530)]) rfl ?_
                          refine T_mono (r_isGood sc S5755 (X_ou (X_ou (X_ou (X_ou (X_ou (X_ou (X_ou (X_ou (X_ou (X_ou (X_ou (X_ou (X_ou o 1 0) 3 (o 1)) 4 b1) 5 f5757) 6 g5758) 7 at1) 8 en1) 9 tk1) 10 nu1) 11 dg1) 28 rc) 29 kc) 30 wc) nm1 h5763 (show 0 ≤ f5757 ∧ f5757 ≤ 5 from by omega)) (fun v5770 S5771 h5772 => ?_)
                          rcases h5772 with ⟨hv5773, hf5774⟩
                          rw [hv5773]
                          rw [hf5774]
                          show X_T sc 162 (272, [(3, .int (iI 1)), (1, .long (ct ck)), (0, .ref 530)], [.int (iI (bI (f5757 = 0)))], S5755) _
                          refine T_bif_ne xr_162_272 (t := 278) (pc' := 275) rfl rfl (fun c5775 => ?_) (fun c5775 => ?_)
                          · skip
                            have c5775 : (f5757 = 0) := c5775
                            exact (show False by first | contradiction | omega).elim
                          · skip
                            have c5775 : ¬ (f5757 = 0) := c5775
                            refine T_p xr_162_275 xn_162 (pc' := 113) (ls' := [(3, .int (iI 1)), (1, .long (ct ck)), (0, .ref 530)]) (st' := []) rfl ?_
                            have h5776 := (hf5762.1 533 (by omega)).trans (hA533_)
                            have h5777 := (hf5762.1 534 (by omega)).trans (hA534_)
                            have h5778 := (hf5762.1 535 (by omega)).trans (hA535_)
                            have h5779 := (hf5762.1 536 (by omega)).trans (hA536_)
                            have h5780 := (hf5762.1 537 (by omega)).trans (hA537_)
                            have h5781 := (hf5762.1 538 (by omega)).trans (hA538_)
                            have h5782 := (hf5762.1 539 (by omega)).trans (hA539_)
                            have h5783 := (hf5762.1 540 (by omega)).trans (hA540_)
                            have h5784 := (hf5762.1 541 (by omega)).trans (hA541_)
                            have h5785 := (hf5762.1 542 (by omega)).trans (hA542_)
                            have h5786 := (hf5762.1 543 (by omega)).trans (hA543_)
                            have h5787 := (hf5762.1 544 (by omega)).trans (hA544_)
                            have h5788 := (hf5762.1 545 (by omega)).trans (hA545_)
                            have h5789 := (hf5762.1 546 (by omega)).trans (hA546_)
                            have h5790 := (hf5762.1 547 (by omega)).trans (hA547_)
                            have hl5791 : sp_line n so ct (ck, rc, kc, wc, rn, lo, kn, ab, D, W) = none := by
                              show (if so ck = 3 ∧ ct ck = Int64.ofNat 1918987883 then _ else if so ck = 3 ∧ ct ck = Int64.ofNat 32766990153442674 then _ else if so ck = 3 ∧ ct ck = Int64.ofNat 1802071652 then _ else if so ck = 3 ∧ ct ck = Int64.ofNat 2003792484 then _ else none) = _
                              rw [if_pos ⟨by omega, (Classical.not_not.mp c5143)⟩]
                              simp only [sp_rank]
                              rw [if_pos (by omega)]
                            refine T_sub (ls := [(0, .ref 530)]) ⟨rfl, trivial⟩ rfl rfl ?_
                            exact ih4968 S5755 (line + 1) (ck, rc, kc, wc, rn, lo, kn, ab, D, W) f5757 g5758 at1 en1 tk1 nu1 dg1 rc kc wc nm1 rN1 kN1 tg1 kU1 wR1 wL1 wK1 wM1 wH1 wS1 sO1 sN1 eP1 eH1 hK1 h5763 h5776 h5777 h5778 h5779 h5780 h5781 h5782 h5783 h5784 h5785 h5786 h5787 h5788 h5789 h5790 (hF4971.tr ((X_Fr.rf).tr (X_Fr.mono ⟨hf5762.1, hf5762.2⟩ (fun q hq => (by omega))))) (by omega) (fun z => absurd z (by omega)) (fun _ => by
                                  rw [← hR, show (2001 - line).toNat = (2001 - (line + 1)).toNat + 1 by omega]
                                  show (if so ck = 0 then _ else _) = _
                                  rw [if_neg (by omega), hl5791]
                                  rfl) hO (by omega)
                        · skip
                          have c5769 : (f5757 = 0) := c5769
                          exact (show False by first | contradiction | omega).elim
                      · skip
                        have c5752 : ¬ ((ct ck) = (Int64.ofNat 1918987883)) := c5752
                        exact absurd (Classical.not_not.mp c5143) c5752
        have hB0 : R_bk b1 (0, 0, 1, 0, rn0, lo0, X_ug kn0 0 (Int64.ofNat 6384748), X_ug ab0 0 1, D0, W0) rN (X_ug kN (11 * b1) (Int64.ofNat 6384748)) tg (X_ug kU (11 * b1) (-1)) wR wL wK wM wH wS sO sN eP eH hK := ⟨⟨fun i h1 h2 => absurd (show i < 0 from h2) (by omega), fun i j h1 h2 => absurd (show i < 0 from h2) (by omega), fun i j h1 h2 => absurd (show i < 0 from h2) (by omega)⟩, ⟨fun i h1 h2 => by
            have h2 : i < 1 := h2
            obtain rfl : i = 0 := by omega
            show (X_ug kN (11 * b1) (Int64.ofNat 6384748)) (11 * b1 + 0) = X_ug kn0 0 (Int64.ofNat 6384748) 0
            rw [show 11 * b1 + 0 = 11 * b1 by omega, X_ug_s, X_ug_s], fun u h1 h2 => by
            show X_bt (X_ug ab0 0 1 0) u ↔ u = 0
            rw [X_ug_s]
            exact X_bt_1 u ⟨h1, h2⟩, X_ug_s _ _ _, fun k h1 h2 => absurd (show k < 1 from h2) (by omega)⟩, fun w h1 h2 => absurd (show w < 0 from h2) (by omega)⟩
        have hk0 : X_Kok (0, 0, 1, 0, rn0, lo0, X_ug kn0 0 (Int64.ofNat 6384748), X_ug ab0 0 1, D0, W0) := ⟨(show (0 : Int) ≤ 0 ∧ (0 : Int) ≤ 12 by omega), (show (1 : Int) ≤ 1 ∧ (1 : Int) ≤ 11 by omega), (show (0 : Int) ≤ 0 ∧ (0 : Int) ≤ 30 by omega), fun w h1 h2 => absurd (show w < 0 from h2) (by omega)⟩
        refine T_sub (ls := [(0, .ref 530)]) ⟨rfl, trivial⟩ rfl rfl ?_
        exact L4967 ((2002 : Int) + 1).toNat S4953 0 (0, 0, 1, 0, rn0, lo0, X_ug kn0 0 (Int64.ofNat 6384748), X_ug ab0 0 1, D0, W0) 0 (-1) at4955 en4956 tk4957 nu4958 dg4959 0 1 0 nm4960 rN (X_ug kN (11 * b1) (Int64.ofNat 6384748)) tg (X_ug kU (11 * b1) (-1)) wR wL wK wM wH wS sO sN eP eH hK h4965 h4972 h4973 h4974 h4975 h4976 h4977 h4978 h4979 h4980 h4981 h4982 h4983 h4984 h4985 h4986 ((X_Fr.rf)) (by omega) (fun _ => ⟨hp4962, rfl, hk0, fun w h1 h2 => absurd (show w < 0 from h2) (by omega), hB0, ⟨rfl, rfl, rfl⟩, (show (0 : Int) ≤ 0 ∧ (0 : Int) ≤ 0 by omega)⟩) (fun z => absurd rfl z) (hO.frK hbb hOk (R_ob.rf.up (by omega)) (R_ob.rf.up (by omega))) (by omega)
      · skip
        have c4914 : ¬ ((o 1) ≤ k) := c4914
        refine T_p xr_162_28 xn_162 (pc' := 29) (ls' := [(1, .int (iI k)), (0, .ref 530)]) (st' := [.ref 530]) rfl ?_
        refine T_get xr_162_29 h4913 rfl (v := .ref 532) rfl (pc' := 32) rfl ?_
        refine T_p xr_162_32 xn_162 (pc' := 33) (ls' := [(1, .int (iI k)), (0, .ref 530)]) (st' := [.int (iI k), .ref 532]) rfl ?_
        refine T_p xr_162_33 xn_162 (pc' := 34) (ls' := [(1, .int (iI k)), (0, .ref 530)]) (st' := [.ref 530, .int (iI k), .ref 532]) rfl ?_
        refine T_get xr_162_34 h4913 rfl (v := .ref 531) rfl (pc' := 37) rfl ?_
        refine T_p xr_162_37 xn_162 (pc' := 38) (ls' := [(1, .int (iI k)), (0, .ref 530)]) (st' := [.int (iI k), .ref 531, .int (iI k), .ref 532]) rfl ?_
        have h5792 := (hF4910.1 531 (by omega)).trans ((n4904 531 (by decide)).trans ((n4900 531 (by decide)).trans ((n4896 531 (by decide)).trans (hA531))))
        refine T_zbald xr_162_38 h5792 (pc' := 39) rfl ?_
        refine T_zbast xr_162_39 htx1 (pc' := 40) rfl (fun S5793 h5794 n5795 e5796 => ?_)
        refine T_ziinc xr_162_40 xn_162 (a := k) (z := k + 1) rfl (Nat.le_of_ble_eq_true rfl) (by omega) (ls' := [(1, .int (iI (k + 1))), (0, .ref 530)]) rfl (pc' := 43) rfl ?_
        refine T_p xr_162_43 xn_162 (pc' := 20) (ls' := [(1, .int (iI (k + 1))), (0, .ref 530)]) (st' := []) rfl ?_
        exact ih4907 S5793 (k + 1) (X_ug tx1 k (X_by (tp k))) h5794 (hF4910.tr ((X_Fr.rf).tr (X_Fr.of n5795 e5796 (by omega)))) (by omega) (fun i h1 h2 => by
              by_cases hi : i = k
              · subst hi
                have hti := htp i (by omega) (by omega)
                rw [X_ug_s, hti.1]
                exact X_by_id hti.2
              · rw [X_ug_n _ _ hi]
                exact htx i h1 (by omega)) (by omega)
  exact L4906 (len + 1).toNat S4902 0 tx h4911 ((X_Fr.rf)) (by omega) (fun i h1 h2 => absurd h2 (by omega)) (by omega)
