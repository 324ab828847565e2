theorem xr_203_18 : X_row 203 18 = some (18, (.iload_n 3, 1), (0, 0, 0)) := by decide +kernel
theorem xr_203_19 : X_row 203 19 = some (19, (.aload_n 0, 1), (0, 0, 0)) := by decide +kernel
theorem xr_203_20 : X_row 203 20 = some (20, (.arraylength, 1), (1, 0, 0)) := by decide +kernel
theorem xr_203_21 : X_row 203 21 = some (21, (.bipush 6, 2), (0, 0, 0)) := by decide +kernel
theorem xr_203_23 : X_row 203 23 = some (23, (.isub, 1), (0, 0, 0)) := by decide +kernel
theorem xr_203_24 : X_row 203 24 = some (24, (.if_icmp .gt 569, 3), (0, 0, 0)) := by decide +kernel
theorem xr_203_27 : X_row 203 27 = some (27, (.aload_n 0, 1), (0, 0, 0)) := by decide +kernel
theorem xr_203_28 : X_row 203 28 = some (28, (.iload_n 3, 1), (0, 0, 0)) := by decide +kernel
theorem xr_203_29 : X_row 203 29 = some (29, (.iaload, 1), (1, 0, 0)) := by decide +kernel
theorem xr_203_30 : X_row 203 30 = some (30, (.bipush 31, 2), (0, 0, 0)) := by decide +kernel
theorem xr_203_32 : X_row 203 32 = some (32, (.iand, 1), (0, 0, 0)) := by decide +kernel
theorem xr_203_33 : X_row 203 33 = some (33, (.tableswitch 554 0 16 #[83, 146, 169, 182, 205, 228, 261, 294, 327, 340, 373, 386, 439, 472, 505, 518, 541], 83), (0, 0, 0)) := by decide +kernel
theorem xr_203_116 : X_row 203 116 = some (116, (.aload_n 1, 1), (0, 0, 0)) := by decide +kernel
theorem xr_203_117 : X_row 203 117 = some (117, (.aload_n 0, 1), (0, 0, 0)) := by decide +kernel
theorem xr_203_118 : X_row 203 118 = some (118, (.iload_n 3, 1), (0, 0, 0)) := by decide +kernel
theorem xr_203_119 : X_row 203 119 = some (119, (.iconst 1, 1), (0, 0, 0)) := by decide +kernel
theorem xr_203_120 : X_row 203 120 = some (120, (.iadd, 1), (0, 0, 0)) := by decide +kernel
theorem xr_203_121 : X_row 203 121 = some (121, (.iaload, 1), (1, 0, 0)) := by decide +kernel
theorem xr_203_122 : X_row 203 122 = some (122, (.aload_n 0, 1), (0, 0, 0)) := by decide +kernel
theorem xr_203_123 : X_row 203 123 = some (123, (.iload_n 3, 1), (0, 0, 0)) := by decide +kernel
theorem xr_203_124 : X_row 203 124 = some (124, (.iconst 2, 1), (0, 0, 0)) := by decide +kernel
theorem xr_203_125 : X_row 203 125 = some (125, (.iadd, 1), (0, 0, 0)) := by decide +kernel
theorem xr_203_126 : X_row 203 126 = some (126, (.iaload, 1), (1, 0, 0)) := by decide +kernel
theorem xr_203_127 : X_row 203 127 = some (127, (.aload_n 0, 1), (0, 0, 0)) := by decide +kernel
theorem xr_203_128 : X_row 203 128 = some (128, (.iload_n 3, 1), (0, 0, 0)) := by decide +kernel
theorem xr_203_129 : X_row 203 129 = some (129, (.iconst 3, 1), (0, 0, 0)) := by decide +kernel
theorem xr_203_130 : X_row 203 130 = some (130, (.iadd, 1), (0, 0, 0)) := by decide +kernel
theorem xr_203_131 : X_row 203 131 = some (131, (.iaload, 1), (1, 0, 0)) := by decide +kernel
theorem xr_203_132 : X_row 203 132 = some (132, (.aload_n 0, 1), (0, 0, 0)) := by decide +kernel
theorem xr_203_133 : X_row 203 133 = some (133, (.iload_n 3, 1), (0, 0, 0)) := by decide +kernel
theorem xr_203_134 : X_row 203 134 = some (134, (.iconst 4, 1), (0, 0, 0)) := by decide +kernel
theorem xr_203_135 : X_row 203 135 = some (135, (.iadd, 1), (0, 0, 0)) := by decide +kernel
theorem xr_203_136 : X_row 203 136 = some (136, (.iaload, 1), (1, 0, 0)) := by decide +kernel
theorem xr_203_137 : X_row 203 137 = some (137, (.aload_n 0, 1), (0, 0, 0)) := by decide +kernel
theorem xr_203_138 : X_row 203 138 = some (138, (.iload_n 3, 1), (0, 0, 0)) := by decide +kernel
theorem xr_203_139 : X_row 203 139 = some (139, (.iconst 5, 1), (0, 0, 0)) := by decide +kernel
theorem xr_203_140 : X_row 203 140 = some (140, (.iadd, 1), (0, 0, 0)) := by decide +kernel
theorem xr_203_141 : X_row 203 141 = some (141, (.iaload, 1), (1, 0, 0)) := by decide +kernel
theorem xr_203_142 : X_row 203 142 = some (142, (.invokevirtual 13, 3), (113, 2, 0)) := by decide +kernel
theorem xr_203_145 : X_row 203 145 = some (145, (.pop, 1), (0, 0, 0)) := by decide +kernel
theorem xr_203_146 : X_row 203 146 = some (146, (.aload_n 2, 1), (0, 0, 0)) := by decide +kernel
theorem xr_203_147 : X_row 203 147 = some (147, (.aload_n 0, 1), (0, 0, 0)) := by decide +kernel
theorem xr_203_148 : X_row 203 148 = some (148, (.iload_n 3, 1), (0, 0, 0)) := by decide +kernel
theorem xr_203_149 : X_row 203 149 = some (149, (.iconst 1, 1), (0, 0, 0)) := by decide +kernel
theorem xr_203_150 : X_row 203 150 = some (150, (.iadd, 1), (0, 0, 0)) := by decide +kernel
theorem xr_203_151 : X_row 203 151 = some (151, (.iaload, 1), (1, 0, 0)) := by decide +kernel
theorem xr_203_152 : X_row 203 152 = some (152, (.aload_n 0, 1), (0, 0, 0)) := by decide +kernel
theorem xr_203_153 : X_row 203 153 = some (153, (.iload_n 3, 1), (0, 0, 0)) := by decide +kernel
theorem xr_203_154 : X_row 203 154 = some (154, (.iconst 2, 1), (0, 0, 0)) := by decide +kernel
theorem xr_203_155 : X_row 203 155 = some (155, (.iadd, 1), (0, 0, 0)) := by decide +kernel
theorem xr_203_156 : X_row 203 156 = some (156, (.iaload, 1), (1, 0, 0)) := by decide +kernel
theorem xr_203_157 : X_row 203 157 = some (157, (.aload_n 0, 1), (0, 0, 0)) := by decide +kernel
theorem xr_203_158 : X_row 203 158 = some (158, (.iload_n 3, 1), (0, 0, 0)) := by decide +kernel
theorem xr_203_159 : X_row 203 159 = some (159, (.iconst 3, 1), (0, 0, 0)) := by decide +kernel
theorem xr_203_160 : X_row 203 160 = some (160, (.iadd, 1), (0, 0, 0)) := by decide +kernel
theorem xr_203_161 : X_row 203 161 = some (161, (.iaload, 1), (1, 0, 0)) := by decide +kernel
theorem xr_203_162 : X_row 203 162 = some (162, (.aload_n 0, 1), (0, 0, 0)) := by decide +kernel
theorem xr_203_163 : X_row 203 163 = some (163, (.iload_n 3, 1), (0, 0, 0)) := by decide +kernel
theorem xr_203_164 : X_row 203 164 = some (164, (.iconst 4, 1), (0, 0, 0)) := by decide +kernel
theorem xr_203_165 : X_row 203 165 = some (165, (.iadd, 1), (0, 0, 0)) := by decide +kernel
theorem xr_203_166 : X_row 203 166 = some (166, (.iaload, 1), (1, 0, 0)) := by decide +kernel
theorem xr_203_167 : X_row 203 167 = some (167, (.aload_n 0, 1), (0, 0, 0)) := by decide +kernel
theorem xr_203_168 : X_row 203 168 = some (168, (.iload_n 3, 1), (0, 0, 0)) := by decide +kernel
theorem xr_203_169 : X_row 203 169 = some (169, (.iconst 5, 1), (0, 0, 0)) := by decide +kernel
theorem xr_203_170 : X_row 203 170 = some (170, (.iadd, 1), (0, 0, 0)) := by decide +kernel
theorem xr_203_171 : X_row 203 171 = some (171, (.iaload, 1), (1, 0, 0)) := by decide +kernel
theorem xr_203_172 : X_row 203 172 = some (172, (.invokevirtual 17, 3), (201, 68, 0)) := by decide +kernel
theorem xr_203_175 : X_row 203 175 = some (175, (.pop, 1), (0, 0, 0)) := by decide +kernel
theorem xr_203_176 : X_row 203 176 = some (176, (.goto 411, 3), (0, 0, 0)) := by decide +kernel
theorem xr_203_179 : X_row 203 179 = some (179, (.aload_n 1, 1), (0, 0, 0)) := by decide +kernel
theorem xr_203_180 : X_row 203 180 = some (180, (.aload_n 0, 1), (0, 0, 0)) := by decide +kernel
theorem xr_203_181 : X_row 203 181 = some (181, (.iload_n 3, 1), (0, 0, 0)) := by decide +kernel
theorem xr_203_182 : X_row 203 182 = some (182, (.iconst 1, 1), (0, 0, 0)) := by decide +kernel
theorem xr_203_183 : X_row 203 183 = some (183, (.iadd, 1), (0, 0, 0)) := by decide +kernel
theorem xr_203_184 : X_row 203 184 = some (184, (.iaload, 1), (1, 0, 0)) := by decide +kernel
theorem xr_203_185 : X_row 203 185 = some (185, (.invokevirtual 18, 3), (114, 4, 0)) := by decide +kernel
theorem xr_203_188 : X_row 203 188 = some (188, (.pop, 1), (0, 0, 0)) := by decide +kernel
theorem xr_203_189 : X_row 203 189 = some (189, (.aload_n 2, 1), (0, 0, 0)) := by decide +kernel
theorem xr_203_190 : X_row 203 190 = some (190, (.aload_n 0, 1), (0, 0, 0)) := by decide +kernel
theorem xr_203_191 : X_row 203 191 = some (191, (.iload_n 3, 1), (0, 0, 0)) := by decide +kernel
theorem xr_203_192 : X_row 203 192 = some (192, (.iconst 1, 1), (0, 0, 0)) := by decide +kernel
theorem xr_203_193 : X_row 203 193 = some (193, (.iadd, 1), (0, 0, 0)) := by decide +kernel
theorem xr_203_194 : X_row 203 194 = some (194, (.iaload, 1), (1, 0, 0)) := by decide +kernel
theorem xr_203_195 : X_row 203 195 = some (195, (.invokevirtual 22, 3), (202, 70, 0)) := by decide +kernel
theorem xr_203_198 : X_row 203 198 = some (198, (.pop, 1), (0, 0, 0)) := by decide +kernel
theorem xr_203_199 : X_row 203 199 = some (199, (.goto 388, 3), (0, 0, 0)) := by decide +kernel
theorem xr_203_202 : X_row 203 202 = some (202, (.aload_n 1, 1), (0, 0, 0)) := by decide +kernel
theorem xr_203_203 : X_row 203 203 = some (203, (.invokevirtual 23, 3), (115, 6, 0)) := by decide +kernel
theorem xr_203_206 : X_row 203 206 = some (206, (.pop, 1), (0, 0, 0)) := by decide +kernel
theorem xr_203_207 : X_row 203 207 = some (207, (.aload_n 2, 1), (0, 0, 0)) := by decide +kernel
theorem xr_203_208 : X_row 203 208 = some (208, (.invokevirtual 27, 3), (162, 38, 0)) := by decide +kernel
theorem xr_203_211 : X_row 203 211 = some (211, (.pop, 1), (0, 0, 0)) := by decide +kernel
theorem xr_203_212 : X_row 203 212 = some (212, (.goto 375, 3), (0, 0, 0)) := by decide +kernel
theorem xr_203_215 : X_row 203 215 = some (215, (.aload_n 1, 1), (0, 0, 0)) := by decide +kernel
theorem xr_203_216 : X_row 203 216 = some (216, (.aload_n 0, 1), (0, 0, 0)) := by decide +kernel
theorem xr_203_217 : X_row 203 217 = some (217, (.iload_n 3, 1), (0, 0, 0)) := by decide +kernel
theorem xr_203_218 : X_row 203 218 = some (218, (.iconst 1, 1), (0, 0, 0)) := by decide +kernel
theorem xr_203_219 : X_row 203 219 = some (219, (.iadd, 1), (0, 0, 0)) := by decide +kernel
theorem xr_203_220 : X_row 203 220 = some (220, (.iaload, 1), (1, 0, 0)) := by decide +kernel
theorem xr_203_221 : X_row 203 221 = some (221, (.invokevirtual 28, 3), (116, 8, 0)) := by decide +kernel
theorem xr_203_224 : X_row 203 224 = some (224, (.pop, 1), (0, 0, 0)) := by decide +kernel
theorem xr_203_225 : X_row 203 225 = some (225, (.aload_n 2, 1), (0, 0, 0)) := by decide +kernel
theorem xr_203_226 : X_row 203 226 = some (226, (.aload_n 0, 1), (0, 0, 0)) := by decide +kernel
theorem xr_203_227 : X_row 203 227 = some (227, (.iload_n 3, 1), (0, 0, 0)) := by decide +kernel
theorem xr_203_228 : X_row 203 228 = some (228, (.iconst 1, 1), (0, 0, 0)) := by decide +kernel
theorem xr_203_229 : X_row 203 229 = some (229, (.iadd, 1), (0, 0, 0)) := by decide +kernel
theorem xr_203_230 : X_row 203 230 = some (230, (.iaload, 1), (1, 0, 0)) := by decide +kernel
theorem xr_203_231 : X_row 203 231 = some (231, (.invokevirtual 31, 3), (163, 40, 0)) := by decide +kernel
theorem xr_203_234 : X_row 203 234 = some (234, (.pop, 1), (0, 0, 0)) := by decide +kernel
theorem xr_203_235 : X_row 203 235 = some (235, (.goto 352, 3), (0, 0, 0)) := by decide +kernel
theorem xr_203_238 : X_row 203 238 = some (238, (.aload_n 1, 1), (0, 0, 0)) := by decide +kernel
theorem xr_203_239 : X_row 203 239 = some (239, (.aload_n 0, 1), (0, 0, 0)) := by decide +kernel
theorem xr_203_240 : X_row 203 240 = some (240, (.iload_n 3, 1), (0, 0, 0)) := by decide +kernel
theorem xr_203_241 : X_row 203 241 = some (241, (.iconst 1, 1), (0, 0, 0)) := by decide +kernel
theorem xr_203_242 : X_row 203 242 = some (242, (.iadd, 1), (0, 0, 0)) := by decide +kernel
theorem xr_203_243 : X_row 203 243 = some (243, (.iaload, 1), (1, 0, 0)) := by decide +kernel
theorem xr_203_244 : X_row 203 244 = some (244, (.invokevirtual 32, 3), (117, 10, 0)) := by decide +kernel
theorem xr_203_247 : X_row 203 247 = some (247, (.pop, 1), (0, 0, 0)) := by decide +kernel
theorem xr_203_248 : X_row 203 248 = some (248, (.aload_n 2, 1), (0, 0, 0)) := by decide +kernel
theorem xr_203_249 : X_row 203 249 = some (249, (.aload_n 0, 1), (0, 0, 0)) := by decide +kernel
theorem xr_203_250 : X_row 203 250 = some (250, (.iload_n 3, 1), (0, 0, 0)) := by decide +kernel
theorem xr_203_251 : X_row 203 251 = some (251, (.iconst 1, 1), (0, 0, 0)) := by decide +kernel
theorem xr_203_252 : X_row 203 252 = some (252, (.iadd, 1), (0, 0, 0)) := by decide +kernel
theorem xr_203_253 : X_row 203 253 = some (253, (.iaload, 1), (1, 0, 0)) := by decide +kernel
theorem xr_203_254 : X_row 203 254 = some (254, (.invokevirtual 35, 3), (164, 42, 0)) := by decide +kernel
theorem xr_203_257 : X_row 203 257 = some (257, (.pop, 1), (0, 0, 0)) := by decide +kernel
theorem xr_203_258 : X_row 203 258 = some (258, (.goto 329, 3), (0, 0, 0)) := by decide +kernel
theorem xr_203_261 : X_row 203 261 = some (261, (.aload_n 1, 1), (0, 0, 0)) := by decide +kernel
theorem xr_203_262 : X_row 203 262 = some (262, (.aload_n 0, 1), (0, 0, 0)) := by decide +kernel
theorem xr_203_263 : X_row 203 263 = some (263, (.iload_n 3, 1), (0, 0, 0)) := by decide +kernel
theorem xr_203_264 : X_row 203 264 = some (264, (.iconst 1, 1), (0, 0, 0)) := by decide +kernel
theorem xr_203_265 : X_row 203 265 = some (265, (.iadd, 1), (0, 0, 0)) := by decide +kernel
theorem xr_203_266 : X_row 203 266 = some (266, (.iaload, 1), (1, 0, 0)) := by decide +kernel
theorem xr_203_267 : X_row 203 267 = some (267, (.aload_n 0, 1), (0, 0, 0)) := by decide +kernel
theorem xr_203_268 : X_row 203 268 = some (268, (.iload_n 3, 1), (0, 0, 0)) := by decide +kernel
theorem xr_203_269 : X_row 203 269 = some (269, (.iconst 2, 1), (0, 0, 0)) := by decide +kernel
theorem xr_203_270 : X_row 203 270 = some (270, (.iadd, 1), (0, 0, 0)) := by decide +kernel
theorem xr_203_271 : X_row 203 271 = some (271, (.iaload, 1), (1, 0, 0)) := by decide +kernel
theorem xr_203_272 : X_row 203 272 = some (272, (.invokevirtual 36, 3), (118, 12, 0)) := by decide +kernel
theorem xr_203_275 : X_row 203 275 = some (275, (.pop, 1), (0, 0, 0)) := by decide +kernel
theorem xr_203_276 : X_row 203 276 = some (276, (.aload_n 2, 1), (0, 0, 0)) := by decide +kernel
theorem xr_203_277 : X_row 203 277 = some (277, (.aload_n 0, 1), (0, 0, 0)) := by decide +kernel
theorem xr_203_278 : X_row 203 278 = some (278, (.iload_n 3, 1), (0, 0, 0)) := by decide +kernel
theorem xr_203_279 : X_row 203 279 = some (279, (.iconst 1, 1), (0, 0, 0)) := by decide +kernel
theorem xr_203_280 : X_row 203 280 = some (280, (.iadd, 1), (0, 0, 0)) := by decide +kernel
theorem xr_203_281 : X_row 203 281 = some (281, (.iaload, 1), (1, 0, 0)) := by decide +kernel
theorem xr_203_282 : X_row 203 282 = some (282, (.aload_n 0, 1), (0, 0, 0)) := by decide +kernel
theorem xr_203_283 : X_row 203 283 = some (283, (.iload_n 3, 1), (0, 0, 0)) := by decide +kernel
theorem xr_203_284 : X_row 203 284 = some (284, (.iconst 2, 1), (0, 0, 0)) := by decide +kernel
theorem xr_203_285 : X_row 203 285 = some (285, (.iadd, 1), (0, 0, 0)) := by decide +kernel
theorem xr_203_286 : X_row 203 286 = some (286, (.iaload, 1), (1, 0, 0)) := by decide +kernel
theorem xr_203_287 : X_row 203 287 = some (287, (.invokevirtual 40, 3), (166, 44, 0)) := by decide +kernel
theorem xr_203_290 : X_row 203 290 = some (290, (.pop, 1), (0, 0, 0)) := by decide +kernel
theorem xr_203_291 : X_row 203 291 = some (291, (.goto 296, 3), (0, 0, 0)) := by decide +kernel
theorem xr_203_294 : X_row 203 294 = some (294, (.aload_n 1, 1), (0, 0, 0)) := by decide +kernel
theorem xr_203_295 : X_row 203 295 = some (295, (.aload_n 0, 1), (0, 0, 0)) := by decide +kernel
theorem xr_203_296 : X_row 203 296 = some (296, (.iload_n 3, 1), (0, 0, 0)) := by decide +kernel
theorem xr_203_297 : X_row 203 297 = some (297, (.iconst 1, 1), (0, 0, 0)) := by decide +kernel
theorem xr_203_298 : X_row 203 298 = some (298, (.iadd, 1), (0, 0, 0)) := by decide +kernel
theorem xr_203_299 : X_row 203 299 = some (299, (.iaload, 1), (1, 0, 0)) := by decide +kernel
theorem xr_203_300 : X_row 203 300 = some (300, (.aload_n 0, 1), (0, 0, 0)) := by decide +kernel
theorem xr_203_301 : X_row 203 301 = some (301, (.iload_n 3, 1), (0, 0, 0)) := by decide +kernel
theorem xr_203_302 : X_row 203 302 = some (302, (.iconst 2, 1), (0, 0, 0)) := by decide +kernel
theorem xr_203_303 : X_row 203 303 = some (303, (.iadd, 1), (0, 0, 0)) := by decide +kernel
theorem xr_203_304 : X_row 203 304 = some (304, (.iaload, 1), (1, 0, 0)) := by decide +kernel
theorem xr_203_305 : X_row 203 305 = some (305, (.invokevirtual 41, 3), (119, 14, 0)) := by decide +kernel
theorem xr_203_308 : X_row 203 308 = some (308, (.pop, 1), (0, 0, 0)) := by decide +kernel
theorem xr_203_309 : X_row 203 309 = some (309, (.aload_n 2, 1), (0, 0, 0)) := by decide +kernel
theorem xr_203_310 : X_row 203 310 = some (310, (.aload_n 0, 1), (0, 0, 0)) := by decide +kernel
theorem xr_203_311 : X_row 203 311 = some (311, (.iload_n 3, 1), (0, 0, 0)) := by decide +kernel
theorem xr_203_312 : X_row 203 312 = some (312, (.iconst 1, 1), (0, 0, 0)) := by decide +kernel
theorem xr_203_313 : X_row 203 313 = some (313, (.iadd, 1), (0, 0, 0)) := by decide +kernel
theorem xr_203_314 : X_row 203 314 = some (314, (.iaload, 1), (1, 0, 0)) := by decide +kernel
theorem xr_203_315 : X_row 203 315 = some (315, (.aload_n 0, 1), (0, 0, 0)) := by decide +kernel
theorem xr_203_316 : X_row 203 316 = some (316, (.iload_n 3, 1), (0, 0, 0)) := by decide +kernel
theorem xr_203_317 : X_row 203 317 = some (317, (.iconst 2, 1), (0, 0, 0)) := by decide +kernel
theorem xr_203_318 : X_row 203 318 = some (318, (.iadd, 1), (0, 0, 0)) := by decide +kernel
theorem xr_203_319 : X_row 203 319 = some (319, (.iaload, 1), (1, 0, 0)) := by decide +kernel
theorem xr_203_320 : X_row 203 320 = some (320, (.invokevirtual 44, 3), (167, 46, 0)) := by decide +kernel
theorem xr_203_323 : X_row 203 323 = some (323, (.pop, 1), (0, 0, 0)) := by decide +kernel
theorem xr_203_324 : X_row 203 324 = some (324, (.goto 263, 3), (0, 0, 0)) := by decide +kernel
theorem xr_203_327 : X_row 203 327 = some (327, (.aload_n 1, 1), (0, 0, 0)) := by decide +kernel
theorem xr_203_328 : X_row 203 328 = some (328, (.aload_n 0, 1), (0, 0, 0)) := by decide +kernel
theorem xr_203_329 : X_row 203 329 = some (329, (.iload_n 3, 1), (0, 0, 0)) := by decide +kernel
theorem xr_203_330 : X_row 203 330 = some (330, (.iconst 1, 1), (0, 0, 0)) := by decide +kernel
theorem xr_203_331 : X_row 203 331 = some (331, (.iadd, 1), (0, 0, 0)) := by decide +kernel
theorem xr_203_332 : X_row 203 332 = some (332, (.iaload, 1), (1, 0, 0)) := by decide +kernel
theorem xr_203_333 : X_row 203 333 = some (333, (.aload_n 0, 1), (0, 0, 0)) := by decide +kernel
theorem xr_203_334 : X_row 203 334 = some (334, (.iload_n 3, 1), (0, 0, 0)) := by decide +kernel
theorem xr_203_335 : X_row 203 335 = some (335, (.iconst 2, 1), (0, 0, 0)) := by decide +kernel
theorem xr_203_336 : X_row 203 336 = some (336, (.iadd, 1), (0, 0, 0)) := by decide +kernel
theorem xr_203_337 : X_row 203 337 = some (337, (.iaload, 1), (1, 0, 0)) := by decide +kernel
theorem xr_203_338 : X_row 203 338 = some (338, (.invokevirtual 45, 3), (120, 16, 0)) := by decide +kernel
theorem xr_203_341 : X_row 203 341 = some (341, (.pop, 1), (0, 0, 0)) := by decide +kernel
theorem xr_203_342 : X_row 203 342 = some (342, (.aload_n 2, 1), (0, 0, 0)) := by decide +kernel
theorem xr_203_343 : X_row 203 343 = some (343, (.aload_n 0, 1), (0, 0, 0)) := by decide +kernel
theorem xr_203_344 : X_row 203 344 = some (344, (.iload_n 3, 1), (0, 0, 0)) := by decide +kernel
theorem xr_203_345 : X_row 203 345 = some (345, (.iconst 1, 1), (0, 0, 0)) := by decide +kernel
theorem xr_203_346 : X_row 203 346 = some (346, (.iadd, 1), (0, 0, 0)) := by decide +kernel
theorem xr_203_347 : X_row 203 347 = some (347, (.iaload, 1), (1, 0, 0)) := by decide +kernel
theorem xr_203_348 : X_row 203 348 = some (348, (.aload_n 0, 1), (0, 0, 0)) := by decide +kernel
theorem xr_203_349 : X_row 203 349 = some (349, (.iload_n 3, 1), (0, 0, 0)) := by decide +kernel
theorem xr_203_350 : X_row 203 350 = some (350, (.iconst 2, 1), (0, 0, 0)) := by decide +kernel
theorem xr_203_351 : X_row 203 351 = some (351, (.iadd, 1), (0, 0, 0)) := by decide +kernel
theorem xr_203_352 : X_row 203 352 = some (352, (.iaload, 1), (1, 0, 0)) := by decide +kernel
theorem xr_203_353 : X_row 203 353 = some (353, (.invokevirtual 48, 3), (169, 48, 0)) := by decide +kernel
theorem xr_203_356 : X_row 203 356 = some (356, (.pop, 1), (0, 0, 0)) := by decide +kernel
theorem xr_203_357 : X_row 203 357 = some (357, (.goto 230, 3), (0, 0, 0)) := by decide +kernel
theorem xr_203_360 : X_row 203 360 = some (360, (.aload_n 1, 1), (0, 0, 0)) := by decide +kernel
theorem xr_203_361 : X_row 203 361 = some (361, (.invokevirtual 49, 3), (121, 18, 0)) := by decide +kernel
theorem xr_203_364 : X_row 203 364 = some (364, (.pop, 1), (0, 0, 0)) := by decide +kernel
theorem xr_203_365 : X_row 203 365 = some (365, (.aload_n 2, 1), (0, 0, 0)) := by decide +kernel
theorem xr_203_366 : X_row 203 366 = some (366, (.invokevirtual 52, 3), (170, 50, 0)) := by decide +kernel
theorem xr_203_369 : X_row 203 369 = some (369, (.pop, 1), (0, 0, 0)) := by decide +kernel
theorem xr_203_370 : X_row 203 370 = some (370, (.goto 217, 3), (0, 0, 0)) := by decide +kernel
theorem xr_203_373 : X_row 203 373 = some (373, (.aload_n 1, 1), (0, 0, 0)) := by decide +kernel
theorem xr_203_374 : X_row 203 374 = some (374, (.aload_n 0, 1), (0, 0, 0)) := by decide +kernel
theorem xr_203_375 : X_row 203 375 = some (375, (.iload_n 3, 1), (0, 0, 0)) := by decide +kernel
theorem xr_203_376 : X_row 203 376 = some (376, (.iconst 1, 1), (0, 0, 0)) := by decide +kernel
theorem xr_203_377 : X_row 203 377 = some (377, (.iadd, 1), (0, 0, 0)) := by decide +kernel
theorem xr_203_378 : X_row 203 378 = some (378, (.iaload, 1), (1, 0, 0)) := by decide +kernel
theorem xr_203_379 : X_row 203 379 = some (379, (.aload_n 0, 1), (0, 0, 0)) := by decide +kernel
theorem xr_203_380 : X_row 203 380 = some (380, (.iload_n 3, 1), (0, 0, 0)) := by decide +kernel
theorem xr_203_381 : X_row 203 381 = some (381, (.iconst 2, 1), (0, 0, 0)) := by decide +kernel
theorem xr_203_382 : X_row 203 382 = some (382, (.iadd, 1), (0, 0, 0)) := by decide +kernel
theorem xr_203_383 : X_row 203 383 = some (383, (.iaload, 1), (1, 0, 0)) := by decide +kernel
theorem xr_203_384 : X_row 203 384 = some (384, (.invokevirtual 53, 3), (122, 20, 0)) := by decide +kernel
theorem xr_203_387 : X_row 203 387 = some (387, (.pop2, 1), (0, 0, 0)) := by decide +kernel
theorem xr_203_388 : X_row 203 388 = some (388, (.aload_n 2, 1), (0, 0, 0)) := by decide +kernel
theorem xr_203_389 : X_row 203 389 = some (389, (.aload_n 0, 1), (0, 0, 0)) := by decide +kernel
theorem xr_203_390 : X_row 203 390 = some (390, (.iload_n 3, 1), (0, 0, 0)) := by decide +kernel
theorem xr_203_391 : X_row 203 391 = some (391, (.iconst 1, 1), (0, 0, 0)) := by decide +kernel
theorem xr_203_392 : X_row 203 392 = some (392, (.iadd, 1), (0, 0, 0)) := by decide +kernel
theorem xr_203_393 : X_row 203 393 = some (393, (.iaload, 1), (1, 0, 0)) := by decide +kernel
theorem xr_203_394 : X_row 203 394 = some (394, (.aload_n 0, 1), (0, 0, 0)) := by decide +kernel
theorem xr_203_395 : X_row 203 395 = some (395, (.iload_n 3, 1), (0, 0, 0)) := by decide +kernel
theorem xr_203_396 : X_row 203 396 = some (396, (.iconst 2, 1), (0, 0, 0)) := by decide +kernel
theorem xr_203_397 : X_row 203 397 = some (397, (.iadd, 1), (0, 0, 0)) := by decide +kernel
theorem xr_203_398 : X_row 203 398 = some (398, (.iaload, 1), (1, 0, 0)) := by decide +kernel
theorem xr_203_399 : X_row 203 399 = some (399, (.invokevirtual 57, 3), (183, 52, 0)) := by decide +kernel
theorem xr_203_402 : X_row 203 402 = some (402, (.pop2, 1), (0, 0, 0)) := by decide +kernel
theorem xr_203_403 : X_row 203 403 = some (403, (.goto 184, 3), (0, 0, 0)) := by decide +kernel
theorem xr_203_406 : X_row 203 406 = some (406, (.aload_n 1, 1), (0, 0, 0)) := by decide +kernel
theorem xr_203_407 : X_row 203 407 = some (407, (.invokevirtual 58, 3), (123, 22, 0)) := by decide +kernel
theorem xr_203_410 : X_row 203 410 = some (410, (.pop, 1), (0, 0, 0)) := by decide +kernel
theorem xr_203_411 : X_row 203 411 = some (411, (.aload_n 2, 1), (0, 0, 0)) := by decide +kernel
theorem xr_203_412 : X_row 203 412 = some (412, (.invokevirtual 61, 3), (184, 54, 0)) := by decide +kernel
theorem xr_203_415 : X_row 203 415 = some (415, (.pop, 1), (0, 0, 0)) := by decide +kernel
theorem xr_203_416 : X_row 203 416 = some (416, (.goto 171, 3), (0, 0, 0)) := by decide +kernel
theorem xr_203_419 : X_row 203 419 = some (419, (.aload_n 1, 1), (0, 0, 0)) := by decide +kernel
theorem xr_203_420 : X_row 203 420 = some (420, (.aload_n 0, 1), (0, 0, 0)) := by decide +kernel
theorem xr_203_421 : X_row 203 421 = some (421, (.iload_n 3, 1), (0, 0, 0)) := by decide +kernel
theorem xr_203_422 : X_row 203 422 = some (422, (.iconst 1, 1), (0, 0, 0)) := by decide +kernel
theorem xr_203_423 : X_row 203 423 = some (423, (.iadd, 1), (0, 0, 0)) := by decide +kernel
theorem xr_203_424 : X_row 203 424 = some (424, (.iaload, 1), (1, 0, 0)) := by decide +kernel
theorem xr_203_425 : X_row 203 425 = some (425, (.i2l, 1), (0, 0, 0)) := by decide +kernel
theorem xr_203_426 : X_row 203 426 = some (426, (.bipush 32, 2), (0, 0, 0)) := by decide +kernel
theorem xr_203_428 : X_row 203 428 = some (428, (.lshl, 1), (0, 0, 0)) := by decide +kernel
theorem xr_203_429 : X_row 203 429 = some (429, (.aload_n 0, 1), (0, 0, 0)) := by decide +kernel
theorem xr_203_430 : X_row 203 430 = some (430, (.iload_n 3, 1), (0, 0, 0)) := by decide +kernel
theorem xr_203_431 : X_row 203 431 = some (431, (.iconst 2, 1), (0, 0, 0)) := by decide +kernel
theorem xr_203_432 : X_row 203 432 = some (432, (.iadd, 1), (0, 0, 0)) := by decide +kernel
theorem xr_203_433 : X_row 203 433 = some (433, (.iaload, 1), (1, 0, 0)) := by decide +kernel
theorem xr_203_434 : X_row 203 434 = some (434, (.i2l, 1), (0, 0, 0)) := by decide +kernel
theorem xr_203_435 : X_row 203 435 = some (435, (.ldc2_w 62, 3), (4294967295, 1533, 0)) := by decide +kernel
theorem xr_203_438 : X_row 203 438 = some (438, (.land, 1), (0, 0, 0)) := by decide +kernel
theorem xr_203_439 : X_row 203 439 = some (439, (.lor, 1), (0, 0, 0)) := by decide +kernel
theorem xr_203_440 : X_row 203 440 = some (440, (.invokevirtual 64, 3), (124, 24, 0)) := by decide +kernel
theorem xr_203_443 : X_row 203 443 = some (443, (.pop, 1), (0, 0, 0)) := by decide +kernel
theorem xr_203_444 : X_row 203 444 = some (444, (.aload_n 2, 1), (0, 0, 0)) := by decide +kernel
theorem xr_203_445 : X_row 203 445 = some (445, (.aload_n 0, 1), (0, 0, 0)) := by decide +kernel
theorem xr_203_446 : X_row 203 446 = some (446, (.iload_n 3, 1), (0, 0, 0)) := by decide +kernel
theorem xr_203_447 : X_row 203 447 = some (447, (.iconst 1, 1), (0, 0, 0)) := by decide +kernel
theorem xr_203_448 : X_row 203 448 = some (448, (.iadd, 1), (0, 0, 0)) := by decide +kernel
theorem xr_203_449 : X_row 203 449 = some (449, (.iaload, 1), (1, 0, 0)) := by decide +kernel
theorem xr_203_450 : X_row 203 450 = some (450, (.i2l, 1), (0, 0, 0)) := by decide +kernel
theorem xr_203_451 : X_row 203 451 = some (451, (.bipush 32, 2), (0, 0, 0)) := by decide +kernel
theorem xr_203_453 : X_row 203 453 = some (453, (.lshl, 1), (0, 0, 0)) := by decide +kernel
theorem xr_203_454 : X_row 203 454 = some (454, (.aload_n 0, 1), (0, 0, 0)) := by decide +kernel
theorem xr_203_455 : X_row 203 455 = some (455, (.iload_n 3, 1), (0, 0, 0)) := by decide +kernel
theorem xr_203_456 : X_row 203 456 = some (456, (.iconst 2, 1), (0, 0, 0)) := by decide +kernel
theorem xr_203_457 : X_row 203 457 = some (457, (.iadd, 1), (0, 0, 0)) := by decide +kernel
theorem xr_203_458 : X_row 203 458 = some (458, (.iaload, 1), (1, 0, 0)) := by decide +kernel
theorem xr_203_459 : X_row 203 459 = some (459, (.i2l, 1), (0, 0, 0)) := by decide +kernel
theorem xr_203_460 : X_row 203 460 = some (460, (.ldc2_w 62, 3), (4294967295, 1533, 0)) := by decide +kernel
theorem xr_203_463 : X_row 203 463 = some (463, (.land, 1), (0, 0, 0)) := by decide +kernel
theorem xr_203_464 : X_row 203 464 = some (464, (.lor, 1), (0, 0, 0)) := by decide +kernel
theorem xr_203_465 : X_row 203 465 = some (465, (.invokevirtual 68, 3), (186, 56, 0)) := by decide +kernel
theorem xr_203_468 : X_row 203 468 = some (468, (.pop, 1), (0, 0, 0)) := by decide +kernel
theorem xr_203_469 : X_row 203 469 = some (469, (.goto 118, 3), (0, 0, 0)) := by decide +kernel
theorem xr_203_472 : X_row 203 472 = some (472, (.aload_n 1, 1), (0, 0, 0)) := by decide +kernel
theorem xr_203_473 : X_row 203 473 = some (473, (.aload_n 0, 1), (0, 0, 0)) := by decide +kernel
theorem xr_203_474 : X_row 203 474 = some (474, (.iload_n 3, 1), (0, 0, 0)) := by decide +kernel
theorem xr_203_475 : X_row 203 475 = some (475, (.iconst 1, 1), (0, 0, 0)) := by decide +kernel
theorem xr_203_476 : X_row 203 476 = some (476, (.iadd, 1), (0, 0, 0)) := by decide +kernel
theorem xr_203_477 : X_row 203 477 = some (477, (.iaload, 1), (1, 0, 0)) := by decide +kernel
theorem xr_203_478 : X_row 203 478 = some (478, (.aload_n 0, 1), (0, 0, 0)) := by decide +kernel
theorem xr_203_479 : X_row 203 479 = some (479, (.iload_n 3, 1), (0, 0, 0)) := by decide +kernel
theorem xr_203_480 : X_row 203 480 = some (480, (.iconst 2, 1), (0, 0, 0)) := by decide +kernel
theorem xr_203_481 : X_row 203 481 = some (481, (.iadd, 1), (0, 0, 0)) := by decide +kernel
theorem xr_203_482 : X_row 203 482 = some (482, (.iaload, 1), (1, 0, 0)) := by decide +kernel
theorem xr_203_483 : X_row 203 483 = some (483, (.invokevirtual 69, 3), (125, 26, 0)) := by decide +kernel
theorem xr_203_486 : X_row 203 486 = some (486, (.pop, 1), (0, 0, 0)) := by decide +kernel
theorem xr_203_487 : X_row 203 487 = some (487, (.aload_n 2, 1), (0, 0, 0)) := by decide +kernel
theorem xr_203_488 : X_row 203 488 = some (488, (.aload_n 0, 1), (0, 0, 0)) := by decide +kernel
theorem xr_203_489 : X_row 203 489 = some (489, (.iload_n 3, 1), (0, 0, 0)) := by decide +kernel
theorem xr_203_490 : X_row 203 490 = some (490, (.iconst 1, 1), (0, 0, 0)) := by decide +kernel
theorem xr_203_491 : X_row 203 491 = some (491, (.iadd, 1), (0, 0, 0)) := by decide +kernel
theorem xr_203_492 : X_row 203 492 = some (492, (.iaload, 1), (1, 0, 0)) := by decide +kernel
theorem xr_203_493 : X_row 203 493 = some (493, (.aload_n 0, 1), (0, 0, 0)) := by decide +kernel
theorem xr_203_494 : X_row 203 494 = some (494, (.iload_n 3, 1), (0, 0, 0)) := by decide +kernel
theorem xr_203_495 : X_row 203 495 = some (495, (.iconst 2, 1), (0, 0, 0)) := by decide +kernel
theorem xr_203_496 : X_row 203 496 = some (496, (.iadd, 1), (0, 0, 0)) := by decide +kernel
theorem xr_203_497 : X_row 203 497 = some (497, (.iaload, 1), (1, 0, 0)) := by decide +kernel
theorem xr_203_498 : X_row 203 498 = some (498, (.invokevirtual 72, 3), (190, 58, 0)) := by decide +kernel
theorem xr_203_501 : X_row 203 501 = some (501, (.pop, 1), (0, 0, 0)) := by decide +kernel
theorem xr_203_502 : X_row 203 502 = some (502, (.goto 85, 3), (0, 0, 0)) := by decide +kernel
theorem xr_203_505 : X_row 203 505 = some (505, (.aload_n 1, 1), (0, 0, 0)) := by decide +kernel
theorem xr_203_506 : X_row 203 506 = some (506, (.aload_n 0, 1), (0, 0, 0)) := by decide +kernel
theorem xr_203_507 : X_row 203 507 = some (507, (.iload_n 3, 1), (0, 0, 0)) := by decide +kernel
theorem xr_203_508 : X_row 203 508 = some (508, (.iconst 1, 1), (0, 0, 0)) := by decide +kernel
theorem xr_203_509 : X_row 203 509 = some (509, (.iadd, 1), (0, 0, 0)) := by decide +kernel
theorem xr_203_510 : X_row 203 510 = some (510, (.iaload, 1), (1, 0, 0)) := by decide +kernel
theorem xr_203_511 : X_row 203 511 = some (511, (.aload_n 0, 1), (0, 0, 0)) := by decide +kernel
theorem xr_203_512 : X_row 203 512 = some (512, (.iload_n 3, 1), (0, 0, 0)) := by decide +kernel
theorem xr_203_513 : X_row 203 513 = some (513, (.iconst 2, 1), (0, 0, 0)) := by decide +kernel
theorem xr_203_514 : X_row 203 514 = some (514, (.iadd, 1), (0, 0, 0)) := by decide +kernel
theorem xr_203_515 : X_row 203 515 = some (515, (.iaload, 1), (1, 0, 0)) := by decide +kernel
theorem xr_203_516 : X_row 203 516 = some (516, (.invokevirtual 73, 3), (126, 28, 0)) := by decide +kernel
theorem xr_203_519 : X_row 203 519 = some (519, (.pop, 1), (0, 0, 0)) := by decide +kernel
theorem xr_203_520 : X_row 203 520 = some (520, (.aload_n 2, 1), (0, 0, 0)) := by decide +kernel
theorem xr_203_521 : X_row 203 521 = some (521, (.aload_n 0, 1), (0, 0, 0)) := by decide +kernel
theorem xr_203_522 : X_row 203 522 = some (522, (.iload_n 3, 1), (0, 0, 0)) := by decide +kernel
theorem xr_203_523 : X_row 203 523 = some (523, (.iconst 1, 1), (0, 0, 0)) := by decide +kernel
theorem xr_203_524 : X_row 203 524 = some (524, (.iadd, 1), (0, 0, 0)) := by decide +kernel
theorem xr_203_525 : X_row 203 525 = some (525, (.iaload, 1), (1, 0, 0)) := by decide +kernel
theorem xr_203_526 : X_row 203 526 = some (526, (.aload_n 0, 1), (0, 0, 0)) := by decide +kernel
theorem xr_203_527 : X_row 203 527 = some (527, (.iload_n 3, 1), (0, 0, 0)) := by decide +kernel
theorem xr_203_528 : X_row 203 528 = some (528, (.iconst 2, 1), (0, 0, 0)) := by decide +kernel
theorem xr_203_529 : X_row 203 529 = some (529, (.iadd, 1), (0, 0, 0)) := by decide +kernel
theorem xr_203_530 : X_row 203 530 = some (530, (.iaload, 1), (1, 0, 0)) := by decide +kernel
theorem xr_203_531 : X_row 203 531 = some (531, (.invokevirtual 77, 3), (191, 60, 0)) := by decide +kernel
theorem xr_203_534 : X_row 203 534 = some (534, (.pop, 1), (0, 0, 0)) := by decide +kernel
theorem xr_203_535 : X_row 203 535 = some (535, (.goto 52, 3), (0, 0, 0)) := by decide +kernel
theorem xr_203_538 : X_row 203 538 = some (538, (.aload_n 1, 1), (0, 0, 0)) := by decide +kernel
theorem xr_203_539 : X_row 203 539 = some (539, (.invokevirtual 78, 3), (127, 30, 0)) := by decide +kernel
theorem xr_203_542 : X_row 203 542 = some (542, (.aload_n 2, 1), (0, 0, 0)) := by decide +kernel
theorem xr_203_543 : X_row 203 543 = some (543, (.invokevirtual 81, 3), (193, 62, 0)) := by decide +kernel
theorem xr_203_546 : X_row 203 546 = some (546, (.if_icmp .eq 41, 3), (0, 0, 0)) := by decide +kernel
theorem xr_203_551 : X_row 203 551 = some (551, (.aload_n 1, 1), (0, 0, 0)) := by decide +kernel
theorem xr_203_552 : X_row 203 552 = some (552, (.aload_n 0, 1), (0, 0, 0)) := by decide +kernel
theorem xr_203_553 : X_row 203 553 = some (553, (.iload_n 3, 1), (0, 0, 0)) := by decide +kernel
theorem xr_203_554 : X_row 203 554 = some (554, (.iconst 1, 1), (0, 0, 0)) := by decide +kernel
theorem xr_203_555 : X_row 203 555 = some (555, (.iadd, 1), (0, 0, 0)) := by decide +kernel
theorem xr_203_556 : X_row 203 556 = some (556, (.iaload, 1), (1, 0, 0)) := by decide +kernel
theorem xr_203_557 : X_row 203 557 = some (557, (.invokevirtual 82, 3), (128, 32, 0)) := by decide +kernel
theorem xr_203_560 : X_row 203 560 = some (560, (.pop, 1), (0, 0, 0)) := by decide +kernel
theorem xr_203_561 : X_row 203 561 = some (561, (.aload_n 2, 1), (0, 0, 0)) := by decide +kernel
theorem xr_203_562 : X_row 203 562 = some (562, (.aload_n 0, 1), (0, 0, 0)) := by decide +kernel
theorem xr_203_563 : X_row 203 563 = some (563, (.iload_n 3, 1), (0, 0, 0)) := by decide +kernel
theorem xr_203_564 : X_row 203 564 = some (564, (.iconst 1, 1), (0, 0, 0)) := by decide +kernel
theorem xr_203_565 : X_row 203 565 = some (565, (.iadd, 1), (0, 0, 0)) := by decide +kernel
theorem xr_203_566 : X_row 203 566 = some (566, (.iaload, 1), (1, 0, 0)) := by decide +kernel
theorem xr_203_567 : X_row 203 567 = some (567, (.invokevirtual 85, 3), (198, 64, 0)) := by decide +kernel
theorem xr_203_570 : X_row 203 570 = some (570, (.pop, 1), (0, 0, 0)) := by decide +kernel
theorem xr_203_571 : X_row 203 571 = some (571, (.goto 16, 3), (0, 0, 0)) := by decide +kernel
theorem xr_203_574 : X_row 203 574 = some (574, (.aload_n 1, 1), (0, 0, 0)) := by decide +kernel
theorem xr_203_575 : X_row 203 575 = some (575, (.invokevirtual 86, 3), (129, 34, 0)) := by decide +kernel
theorem xr_203_578 : X_row 203 578 = some (578, (.pop, 1), (0, 0, 0)) := by decide +kernel
theorem xr_203_579 : X_row 203 579 = some (579, (.aload_n 2, 1), (0, 0, 0)) := by decide +kernel
theorem xr_203_580 : X_row 203 580 = some (580, (.invokevirtual 89, 3), (199, 66, 0)) := by decide +kernel
theorem xr_203_583 : X_row 203 583 = some (583, (.pop, 1), (0, 0, 0)) := by decide +kernel
theorem xr_203_584 : X_row 203 584 = some (584, (.goto 3, 3), (0, 0, 0)) := by decide +kernel
theorem xr_203_587 : X_row 203 587 = some (587, (.iinc 3 6, 3), (0, 0, 0)) := by decide +kernel
theorem xr_203_590 : X_row 203 590 = some (590, (.goto (-572), 3), (0, 0, 0)) := by decide +kernel
theorem xr_203_593 : X_row 203 593 = some (593, (.iconst 1, 1), (0, 0, 0)) := by decide +kernel
theorem xr_203_594 : X_row 203 594 = some (594, (.ireturn, 1), (0, 0, 0)) := by decide +kernel
theorem xn_203 : X_nL 203 = 4 := by decide +kernel
theorem xf_203 : X_na 203 = 1 ∧ X_ci 203 = 12 ∧ X_rt 203 = (some .boolean) := by decide +kernel
theorem X_IC.o1 {S : X_S} {len : Int} {tb : Int → Int} {rc : Int} {G : X_G} {tn : Int} {nc : Int} {N : Int → Int → Int} {rs : Int} {re : Int} (h : X_IC S len tb rc G tn nc N rs re) : ∃ fs, S.1 1 = .inr (10, fs) := by
  obtain ⟨B, B2, hB_, hg_a, -⟩ := h
  exact ⟨_, hg_a.1⟩
theorem X_IR.o5 {S : X_S} {len : Int} {tb : Int → Int} {rc : Int} {G : X_G} {tn : Int} {nc : Int} {N : Int → Int → Int} {rs : Int} {re : Int} (h : X_IR S len tb rc G tn nc N rs re) : ∃ fs, S.1 530 = .inr (11, fs) := by
  obtain ⟨o, nm, b, wk, f69, f70, hbr, hwr, hwk, h5, -⟩ := h
  exact ⟨_, h5⟩
/-- what the script says at a place -/
def X_sv (sc : X_Sc) (z : Int) : Int := (sc.2 z.toNat).toInt
theorem X_sv_r {sc : X_Sc} {z : Int} : -2147483648 ≤ X_sv sc z ∧ X_sv sc z ≤ 2147483647 := iI_rng _
theorem T_zsald {sc : X_Sc} {j n a pc pc' : Nat} {ax : Nat × Nat} {ls : X_L} {r : List Value} {S : X_S} {Q : Option Value → X_S → Prop} {z : Int} (hr : X_row j pc = some (pc, (.iaload, n), (a + 1, ax))) (hp : pc + 1 = pc') (k : X_T sc j (pc', ls, .int (iI (X_sv sc z)) :: r, S) Q) (i1 : 0 ≤ z := by omega) (i2 : z < (sc.1 : Int) := by omega) (i3 : sc.1 ≤ 2147483647 := by omega) : X_T sc j (pc, ls, .int (iI z) :: .ref 0 :: r, S) Q :=
  T_sald hr (iI_in i1 i2 i3) (by rw [iI_nat i1 (by omega)]; exact iI_of _) hp k
theorem T_zslen {sc : X_Sc} {j n a pc pc' : Nat} {ax : Nat × Nat} {ls : X_L} {r : List Value} {S : X_S} {Q : Option Value → X_S → Prop} {z : Int} (hr : X_row j pc = some (pc, (.arraylength, n), (a + 1, ax))) (hz : z = (sc.1 : Int)) (hp : pc + 1 = pc') (k : X_T sc j (pc', ls, .int (iI z) :: r, S) Q) : X_T sc j (pc, ls, .ref 0 :: r, S) Q :=
  T_slen hr (by rw [hz]; exact (Int32.ofInt_eq_ofNat).symm) hp k
set_option maxHeartbeats 4000000 in
theorem X_law_go (sc : X_Sc) (hsc : sc.1 ≤ 3072) (S : X_S) (len : Int) (tb : Int → Int) (rc : Int) (G : X_G) (tn : Int) (nc : Int) (N : Int → Int → Int) (rs : Int) (re : Int) (hA : X_Ao len tb G tn nc N) (hIC : X_IC S len tb rc G tn nc N rs re) (hIR : X_IR S len tb rc G tn nc N rs re) : X_T sc 203 (18, [(3, .int (iI 0)), (2, .ref 530), (1, .ref 1), (0, .ref 0)], [], S) (fun v S' => v = some (.int (iI 1)) ∧ S'.2 = S.2) := by
  obtain ⟨Ls, hLs⟩ : ∃ Ls : Int, Ls = (sc.1 : Int) := ⟨_, rfl⟩
  refine X_QI (fun Q hQ => ?_)
  have L6674 : ∀ (m6676 : Nat) (Sl : X_S) (i : Int) (len : Int) (tb : Int → Int) (rc : Int) (G : X_G) (tn : Int) (nc : Int) (N : Int → Int → Int) (rs : Int) (re : Int) (hF6678 : X_Fr (fun q => 1 ≤ q ∧ q ≤ 579) S Sl) (hi : 0 ≤ i ∧ i ≤ Ls + 6) (hA : X_Ao len tb G tn nc N) (hIC : X_IC Sl len tb rc G tn nc N rs re) (hIR : X_IR Sl len tb rc G tn nc N rs re) (hm6677 : Ls + 6 - i < m6676), X_T sc 203 (18, [(3, .int (iI i)), (2, .ref 530), (1, .ref 1), (0, .ref 0)], [], Sl) Q := by
    intro m6676
    induction m6676 with
    | zero =>
      intro Sl i len tb rc G tn nc N rs re hF6678 hi hA hIC hIR hm6677
      exact (show False by omega).elim
    | succ m6676 ih6675 =>
      intro Sl i len tb rc G tn nc N rs re hF6678 hi hA hIC hIR hm6677
      have hl := hA.1
      have htn := hA.2.2.2.2.1
      obtain ⟨a0, ha0⟩ : ∃ a0 : Int, a0 = X_sv sc (i) := ⟨_, rfl⟩
      obtain ⟨a1, ha1⟩ : ∃ a1 : Int, a1 = X_sv sc (i + 1) := ⟨_, rfl⟩
      obtain ⟨a2, ha2⟩ : ∃ a2 : Int, a2 = X_sv sc (i + 2) := ⟨_, rfl⟩
      obtain ⟨a3, ha3⟩ : ∃ a3 : Int, a3 = X_sv sc (i + 3) := ⟨_, rfl⟩
      obtain ⟨a4, ha4⟩ : ∃ a4 : Int, a4 = X_sv sc (i + 4) := ⟨_, rfl⟩
      obtain ⟨a5, ha5⟩ : ∃ a5 : Int, a5 = X_sv sc (i + 5) := ⟨_, rfl⟩
      have hra0 : -2147483648 ≤ a0 ∧ a0 ≤ 2147483647 := by rw [ha0]; exact X_sv_r
      have hra1 : -2147483648 ≤ a1 ∧ a1 ≤ 2147483647 := by rw [ha1]; exact X_sv_r
      have hra2 : -2147483648 ≤ a2 ∧ a2 ≤ 2147483647 := by rw [ha2]; exact X_sv_r
      have hra3 : -2147483648 ≤ a3 ∧ a3 ≤ 2147483647 := by rw [ha3]; exact X_sv_r
      have hra4 : -2147483648 ≤ a4 ∧ a4 ≤ 2147483647 := by rw [ha4]; exact X_sv_r
      have hra5 : -2147483648 ≤ a5 ∧ a5 ≤ 2147483647 := by rw [ha5]; exact X_sv_r
      refine T_p xr_203_18 xn_203 (pc' := 19) (ls' := [(3, .int (iI i)), (2, .ref 530), (1, .ref 1), (0, .ref 0)]) (st' := [.int (iI i)]) rfl ?_
      refine T_p xr_203_19 xn_203 (pc' := 20) (ls' := [(3, .int (iI i)), (2, .ref 530), (1, .ref 1), (0, .ref 0)]) (st' := [.ref 0, .int (iI i)]) rfl ?_
      refine T_zslen xr_203_20 hLs (pc' := 21) rfl ?_
      refine T_p xr_203_21 xn_203 (pc' := 23) (ls' := [(3, .int (iI i)), (2, .ref 530), (1, .ref 1), (0, .ref 0)]) (st' := [.int (iI 6), .int (iI Ls), .int (iI i)]) rfl ?_
      refine T_zisub xr_203_23 (z := Ls - 6) rfl (pc' := 24) rfl ?_
      refine T_zicmp_gt xr_203_24 (t := 593) (pc' := 27) rfl rfl (fun c6679 => ?_) (fun c6679 => ?_)
      · skip
        have c6679 : (Ls - 6) < i := c6679
        refine T_p xr_203_593 xn_203 (pc' := 594) (ls' := [(3, .int (iI i)), (2, .ref 530), (1, .ref 1), (0, .ref 0)]) (st' := [.int (iI 1)]) rfl ?_
        refine T_iret xr_203_594 xf_203.2.2 (by decide) ?_
        exact hQ _ _ ⟨rfl, ((X_Fr.rf).tr (X_Fr.mono ⟨hF6678.1, hF6678.2⟩ (fun q hq => (by omega))) : X_Fr (fun q => 1 ≤ q ∧ q ≤ 579) S Sl).2⟩
      · skip
        have c6679 : ¬ ((Ls - 6) < i) := c6679
        refine T_p xr_203_27 xn_203 (pc' := 28) (ls' := [(3, .int (iI i)), (2, .ref 530), (1, .ref 1), (0, .ref 0)]) (st' := [.ref 0]) rfl ?_
        refine T_p xr_203_28 xn_203 (pc' := 29) (ls' := [(3, .int (iI i)), (2, .ref 530), (1, .ref 1), (0, .ref 0)]) (st' := [.int (iI i), .ref 0]) rfl ?_
        refine T_zsald xr_203_29 (pc' := 30) rfl ?_
        refine T_ie (y := iI a0) (by rw [ha0]) ?_
        refine T_p xr_203_30 xn_203 (pc' := 32) (ls' := [(3, .int (iI i)), (2, .ref 530), (1, .ref 1), (0, .ref 0)]) (st' := [.int (iI 31), .int (iI a0)]) rfl ?_
        refine T_zop xr_203_32 (pc' := 33) rfl (z := (iI a0 &&& iI 31).toInt) (iI_of _) ?_
        have hswr := iI_rng (iI a0 &&& iI 31)
        rcases (show ((iI a0 &&& iI 31).toInt) = 0 ∨ ((iI a0 &&& iI 31).toInt) = 1 ∨ ((iI a0 &&& iI 31).toInt) = 2 ∨ ((iI a0 &&& iI 31).toInt) = 3 ∨ ((iI a0 &&& iI 31).toInt) = 4 ∨ ((iI a0 &&& iI 31).toInt) = 5 ∨ ((iI a0 &&& iI 31).toInt) = 6 ∨ ((iI a0 &&& iI 31).toInt) = 7 ∨ ((iI a0 &&& iI 31).toInt) = 8 ∨ ((iI a0 &&& iI 31).toInt) = 9 ∨ ((iI a0 &&& iI 31).toInt) = 10 ∨ ((iI a0 &&& iI 31).toInt) = 11 ∨ ((iI a0 &&& iI 31).toInt) = 12 ∨ ((iI a0 &&& iI 31).toInt) = 13 ∨ ((iI a0 &&& iI 31).toInt) = 14 ∨ ((iI a0 &&& iI 31).toInt) = 15 ∨ ((iI a0 &&& iI 31).toInt) = 16 ∨ (((iI a0 &&& iI 31).toInt) < 0 ∨ 16 < ((iI a0 &&& iI 31).toInt)) by omega) with cs6680 | cs6680 | cs6680 | cs6680 | cs6680 | cs6680 | cs6680 | cs6680 | cs6680 | cs6680 | cs6680 | cs6680 | cs6680 | cs6680 | cs6680 | cs6680 | cs6680 | cs6680
        · skip
          refine T_tsk xr_203_33 cs6680 (by decide) (by decide) (off := 83) rfl (t := 116) rfl ?_
          refine T_p xr_203_116 xn_203 (pc' := 117) (ls' := [(3, .int (iI i)), (2, .ref 530), (1, .ref 1), (0, .ref 0)]) (st' := [.ref 1]) rfl ?_
          refine T_p xr_203_117 xn_203 (pc' := 118) (ls' := [(3, .int (iI i)), (2, .ref 530), (1, .ref 1), (0, .ref 0)]) (st' := [.ref 0, .ref 1]) rfl ?_
          refine T_p xr_203_118 xn_203 (pc' := 119) (ls' := [(3, .int (iI i)), (2, .ref 530), (1, .ref 1), (0, .ref 0)]) (st' := [.int (iI i), .ref 0, .ref 1]) rfl ?_
          refine T_p xr_203_119 xn_203 (pc' := 120) (ls' := [(3, .int (iI i)), (2, .ref 530), (1, .ref 1), (0, .ref 0)]) (st' := [.int (iI 1), .int (iI i), .ref 0, .ref 1]) rfl ?_
          refine T_ziadd xr_203_120 (z := i + 1) rfl (pc' := 121) rfl ?_
          refine T_zsald xr_203_121 (pc' := 122) rfl ?_
          refine T_ie (y := iI a1) (by rw [ha1]) ?_
          refine T_p xr_203_122 xn_203 (pc' := 123) (ls' := [(3, .int (iI i)), (2, .ref 530), (1, .ref 1), (0, .ref 0)]) (st' := [.ref 0, .int (iI a1), .ref 1]) rfl ?_
          refine T_p xr_203_123 xn_203 (pc' := 124) (ls' := [(3, .int (iI i)), (2, .ref 530), (1, .ref 1), (0, .ref 0)]) (st' := [.int (iI i), .ref 0, .int (iI a1), .ref 1]) rfl ?_
          refine T_p xr_203_124 xn_203 (pc' := 125) (ls' := [(3, .int (iI i)), (2, .ref 530), (1, .ref 1), (0, .ref 0)]) (st' := [.int (iI 2), .int (iI i), .ref 0, .int (iI a1), .ref 1]) rfl ?_
          refine T_ziadd xr_203_125 (z := i + 2) rfl (pc' := 126) rfl ?_
          refine T_zsald xr_203_126 (pc' := 127) rfl ?_
          refine T_ie (y := iI a2) (by rw [ha2]) ?_
          refine T_p xr_203_127 xn_203 (pc' := 128) (ls' := [(3, .int (iI i)), (2, .ref 530), (1, .ref 1), (0, .ref 0)]) (st' := [.ref 0, .int (iI a2), .int (iI a1), .ref 1]) rfl ?_
          refine T_p xr_203_128 xn_203 (pc' := 129) (ls' := [(3, .int (iI i)), (2, .ref 530), (1, .ref 1), (0, .ref 0)]) (st' := [.int (iI i), .ref 0, .int (iI a2), .int (iI a1), .ref 1]) rfl ?_
          refine T_p xr_203_129 xn_203 (pc' := 130) (ls' := [(3, .int (iI i)), (2, .ref 530), (1, .ref 1), (0, .ref 0)]) (st' := [.int (iI 3), .int (iI i), .ref 0, .int (iI a2), .int (iI a1), .ref 1]) rfl ?_
          refine T_ziadd xr_203_130 (z := i + 3) rfl (pc' := 131) rfl ?_
          refine T_zsald xr_203_131 (pc' := 132) rfl ?_
          refine T_ie (y := iI a3) (by rw [ha3]) ?_
          refine T_p xr_203_132 xn_203 (pc' := 133) (ls' := [(3, .int (iI i)), (2, .ref 530), (1, .ref 1), (0, .ref 0)]) (st' := [.ref 0, .int (iI a3), .int (iI a2), .int (iI a1), .ref 1]) rfl ?_
          refine T_p xr_203_133 xn_203 (pc' := 134) (ls' := [(3, .int (iI i)), (2, .ref 530), (1, .ref 1), (0, .ref 0)]) (st' := [.int (iI i), .ref 0, .int (iI a3), .int (iI a2), .int (iI a1), .ref 1]) rfl ?_
          refine T_p xr_203_134 xn_203 (pc' := 135) (ls' := [(3, .int (iI i)), (2, .ref 530), (1, .ref 1), (0, .ref 0)]) (st' := [.int (iI 4), .int (iI i), .ref 0, .int (iI a3), .int (iI a2), .int (iI a1), .ref 1]) rfl ?_
          refine T_ziadd xr_203_135 (z := i + 4) rfl (pc' := 136) rfl ?_
          refine T_zsald xr_203_136 (pc' := 137) rfl ?_
          refine T_ie (y := iI a4) (by rw [ha4]) ?_
          refine T_p xr_203_137 xn_203 (pc' := 138) (ls' := [(3, .int (iI i)), (2, .ref 530), (1, .ref 1), (0, .ref 0)]) (st' := [.ref 0, .int (iI a4), .int (iI a3), .int (iI a2), .int (iI a1), .ref 1]) rfl ?_
          refine T_p xr_203_138 xn_203 (pc' := 139) (ls' := [(3, .int (iI i)), (2, .ref 530), (1, .ref 1), (0, .ref 0)]) (st' := [.int (iI i), .ref 0, .int (iI a4), .int (iI a3), .int (iI a2), .int (iI a1), .ref 1]) rfl ?_
          refine T_p xr_203_139 xn_203 (pc' := 140) (ls' := [(3, .int (iI i)), (2, .ref 530), (1, .ref 1), (0, .ref 0)]) (st' := [.int (iI 5), .int (iI i), .ref 0, .int (iI a4), .int (iI a3), .int (iI a2), .int (iI a1), .ref 1]) rfl ?_
          refine T_ziadd xr_203_140 (z := i + 5) rfl (pc' := 141) rfl ?_
          refine T_zsald xr_203_141 (pc' := 142) rfl ?_
          refine T_ie (y := iI a5) (by rw [ha5]) ?_
          obtain ⟨f6681, ho6682⟩ := hIC.o1
          refine T_cv (S := Sl) (q := 1) xr_203_142 xf_113.1 xf_113.2.1 xn_113 (as := [.int (iI a1), .int (iI a2), .int (iI a3), .int (iI a4), .int (iI a5)]) (r := []) rfl ho6682 (Nat.le_of_ble_eq_true rfl) (Nat.le_of_ble_eq_true rfl) (pc' := 145) rfl (ls' := [(0, .ref 1), (1, .int (iI a1)), (2, .int (iI a2)), (3, .int (iI a3)), (4, .int (iI a4)), (5, .int (iI a5))]) rfl ?_
          refine T_mono (k_feed sc Sl len tb rc G tn nc N rs re a1 a2 a3 a4 a5 hIC hA) (fun v6683 S6684 h6685 => ?_)
          rcases h6685 with ⟨hv6686, hp6687, hp6688, hf6689⟩ | ⟨hv6690, hp6691, hp6692, hf6693⟩
          · skip
            rw [hv6686]
            have hmv6694 := hIR.fr (⟨hf6689.1, hf6689.2⟩ : X_Fr _ Sl S6684) (fun q h1 h2 => by omega)
            show X_T sc 203 (145, [(3, .int (iI i)), (2, .ref 530), (1, .ref 1), (0, .ref 0)], [.int (iI (-1))], S6684) _
            refine T_p xr_203_145 xn_203 (pc' := 146) (ls' := [(3, .int (iI i)), (2, .ref 530), (1, .ref 1), (0, .ref 0)]) (st' := []) rfl ?_
            refine T_p xr_203_146 xn_203 (pc' := 147) (ls' := [(3, .int (iI i)), (2, .ref 530), (1, .ref 1), (0, .ref 0)]) (st' := [.ref 530]) rfl ?_
            refine T_p xr_203_147 xn_203 (pc' := 148) (ls' := [(3, .int (iI i)), (2, .ref 530), (1, .ref 1), (0, .ref 0)]) (st' := [.ref 0, .ref 530]) rfl ?_
            refine T_p xr_203_148 xn_203 (pc' := 149) (ls' := [(3, .int (iI i)), (2, .ref 530), (1, .ref 1), (0, .ref 0)]) (st' := [.int (iI i), .ref 0, .ref 530]) rfl ?_
            refine T_p xr_203_149 xn_203 (pc' := 150) (ls' := [(3, .int (iI i)), (2, .ref 530), (1, .ref 1), (0, .ref 0)]) (st' := [.int (iI 1), .int (iI i), .ref 0, .ref 530]) rfl ?_
            refine T_ziadd xr_203_150 (z := i + 1) rfl (pc' := 151) rfl ?_
            refine T_zsald xr_203_151 (pc' := 152) rfl ?_
            refine T_ie (y := iI a1) (by rw [ha1]) ?_
            refine T_p xr_203_152 xn_203 (pc' := 153) (ls' := [(3, .int (iI i)), (2, .ref 530), (1, .ref 1), (0, .ref 0)]) (st' := [.ref 0, .int (iI a1), .ref 530]) rfl ?_
            refine T_p xr_203_153 xn_203 (pc' := 154) (ls' := [(3, .int (iI i)), (2, .ref 530), (1, .ref 1), (0, .ref 0)]) (st' := [.int (iI i), .ref 0, .int (iI a1), .ref 530]) rfl ?_
            refine T_p xr_203_154 xn_203 (pc' := 155) (ls' := [(3, .int (iI i)), (2, .ref 530), (1, .ref 1), (0, .ref 0)]) (st' := [.int (iI 2), .int (iI i), .ref 0, .int (iI a1), .ref 530]) rfl ?_
            refine T_ziadd xr_203_155 (z := i + 2) rfl (pc' := 156) rfl ?_
            refine T_zsald xr_203_156 (pc' := 157) rfl ?_
            refine T_ie (y := iI a2) (by rw [ha2]) ?_
            refine T_p xr_203_157 xn_203 (pc' := 158) (ls' := [(3, .int (iI i)), (2, .ref 530), (1, .ref 1), (0, .ref 0)]) (st' := [.ref 0, .int (iI a2), .int (iI a1), .ref 530]) rfl ?_
            refine T_p xr_203_158 xn_203 (pc' := 159) (ls' := [(3, .int (iI i)), (2, .ref 530), (1, .ref 1), (0, .ref 0)]) (st' := [.int (iI i), .ref 0, .int (iI a2), .int (iI a1), .ref 530]) rfl ?_
            refine T_p xr_203_159 xn_203 (pc' := 160) (ls' := [(3, .int (iI i)), (2, .ref 530), (1, .ref 1), (0, .ref 0)]) (st' := [.int (iI 3), .int (iI i), .ref 0, .int (iI a2), .int (iI a1), .ref 530]) rfl ?_
            refine T_ziadd xr_203_160 (z := i + 3) rfl (pc' := 161) rfl ?_
            refine T_zsald xr_203_161 (pc' := 162) rfl ?_
            refine T_ie (y := iI a3) (by rw [ha3]) ?_
            refine T_p xr_203_162 xn_203 (pc' := 163) (ls' := [(3, .int (iI i)), (2, .ref 530), (1, .ref 1), (0, .ref 0)]) (st' := [.ref 0, .int (iI a3), .int (iI a2), .int (iI a1), .ref 530]) rfl ?_
            refine T_p xr_203_163 xn_203 (pc' := 164) (ls' := [(3, .int (iI i)), (2, .ref 530), (1, .ref 1), (0, .ref 0)]) (st' := [.int (iI i), .ref 0, .int (iI a3), .int (iI a2), .int (iI a1), .ref 530]) rfl ?_
            refine T_p xr_203_164 xn_203 (pc' := 165) (ls' := [(3, .int (iI i)), (2, .ref 530), (1, .ref 1), (0, .ref 0)]) (st' := [.int (iI 4), .int (iI i), .ref 0, .int (iI a3), .int (iI a2), .int (iI a1), .ref 530]) rfl ?_
            refine T_ziadd xr_203_165 (z := i + 4) rfl (pc' := 166) rfl ?_
            refine T_zsald xr_203_166 (pc' := 167) rfl ?_
            refine T_ie (y := iI a4) (by rw [ha4]) ?_
            refine T_p xr_203_167 xn_203 (pc' := 168) (ls' := [(3, .int (iI i)), (2, .ref 530), (1, .ref 1), (0, .ref 0)]) (st' := [.ref 0, .int (iI a4), .int (iI a3), .int (iI a2), .int (iI a1), .ref 530]) rfl ?_
            refine T_p xr_203_168 xn_203 (pc' := 169) (ls' := [(3, .int (iI i)), (2, .ref 530), (1, .ref 1), (0, .ref 0)]) (st' := [.int (iI i), .ref 0, .int (iI a4), .int (iI a3), .int (iI a2), .int (iI a1), .ref 530]) rfl ?_
            refine T_p xr_203_169 xn_203 (pc' := 170) (ls' := [(3, .int (iI i)), (2, .ref 530), (1, .ref 1), (0, .ref 0)]) (st' := [.int (iI 5), .int (iI i), .ref 0, .int (iI a4), .int (iI a3), .int (iI a2), .int (iI a1), .ref 530]) rfl ?_
            refine T_ziadd xr_203_170 (z := i + 5) rfl (pc' := 171) rfl ?_
            refine T_zsald xr_203_171 (pc' := 172) rfl ?_
            refine T_ie (y := iI a5) (by rw [ha5]) ?_
            obtain ⟨f6696, ho6697⟩ := hmv6694.o5
            refine T_cv (S := S6684) (q := 530) xr_203_172 xf_201.1 xf_201.2.1 xn_201 (as := [.int (iI a1), .int (iI a2), .int (iI a3), .int (iI a4), .int (iI a5)]) (r := []) rfl ho6697 (Nat.le_of_ble_eq_true rfl) (Nat.le_of_ble_eq_true rfl) (pc' := 175) rfl (ls' := [(0, .ref 530), (1, .int (iI a1)), (2, .int (iI a2)), (3, .int (iI a3)), (4, .int (iI a4)), (5, .int (iI a5))]) rfl ?_
            refine T_mono (m_feed sc S6684 len tb rc G tn nc N rs re a1 a2 a3 a4 a5 hmv6694 hA) (fun v6698 S6699 h6700 => ?_)
            rcases h6700 with ⟨hv6701, hp6702, hp6703, hf6704⟩ | ⟨hv6705, hp6706, hp6707, hf6708⟩
            · skip
              rw [hv6701]
              have hmv6709 := hp6688.fr (⟨hf6704.1, hf6704.2⟩ : X_Fr _ S6684 S6699) (fun q h1 h2 => by omega)
              show X_T sc 203 (175, [(3, .int (iI i)), (2, .ref 530), (1, .ref 1), (0, .ref 0)], [.int (iI (-1))], S6699) _
              refine T_p xr_203_175 xn_203 (pc' := 176) (ls' := [(3, .int (iI i)), (2, .ref 530), (1, .ref 1), (0, .ref 0)]) (st' := []) rfl ?_
              refine T_p xr_203_176 xn_203 (pc' := 587) (ls' := [(3, .int (iI i)), (2, .ref 530), (1, .ref 1), (0, .ref 0)]) (st' := []) rfl ?_
              refine T_ziinc xr_203_587 xn_203 (a := i) (z := i + 6) rfl (Nat.le_of_ble_eq_true rfl) (by omega) (ls' := [(3, .int (iI (i + 6))), (2, .ref 530), (1, .ref 1), (0, .ref 0)]) rfl (pc' := 590) rfl ?_
              refine T_p xr_203_590 xn_203 (pc' := 18) (ls' := [(3, .int (iI (i + 6))), (2, .ref 530), (1, .ref 1), (0, .ref 0)]) (st' := []) rfl ?_
              exact ih6675 S6699 (i + 6) len tb rc G tn nc N rs re (hF6678.tr (((X_Fr.rf).tr (X_Fr.mono ⟨hf6689.1, hf6689.2⟩ (fun q hq => (by omega)))).tr (X_Fr.mono ⟨hf6704.1, hf6704.2⟩ (fun q hq => (by omega))))) (by omega) hA hmv6709 hp6703 (by omega)
            · skip
              rw [hv6705]
              have hmv6710 := hp6688.fr (⟨hf6708.1, hf6708.2⟩ : X_Fr _ S6684 S6699) (fun q h1 h2 => by omega)
              show X_T sc 203 (175, [(3, .int (iI i)), (2, .ref 530), (1, .ref 1), (0, .ref 0)], [.int (iI (len + 20))], S6699) _
              exact (show False by omega).elim
          · skip
            rw [hv6690]
            have hmv6695 := hIR.fr (⟨hf6693.1, hf6693.2⟩ : X_Fr _ Sl S6684) (fun q h1 h2 => by omega)
            show X_T sc 203 (145, [(3, .int (iI i)), (2, .ref 530), (1, .ref 1), (0, .ref 0)], [.int (iI (len + 20))], S6684) _
            refine T_p xr_203_145 xn_203 (pc' := 146) (ls' := [(3, .int (iI i)), (2, .ref 530), (1, .ref 1), (0, .ref 0)]) (st' := []) rfl ?_
            refine T_p xr_203_146 xn_203 (pc' := 147) (ls' := [(3, .int (iI i)), (2, .ref 530), (1, .ref 1), (0, .ref 0)]) (st' := [.ref 530]) rfl ?_
            refine T_p xr_203_147 xn_203 (pc' := 148) (ls' := [(3, .int (iI i)), (2, .ref 530), (1, .ref 1), (0, .ref 0)]) (st' := [.ref 0, .ref 530]) rfl ?_
            refine T_p xr_203_148 xn_203 (pc' := 149) (ls' := [(3, .int (iI i)), (2, .ref 530), (1, .ref 1), (0, .ref 0)]) (st' := [.int (iI i), .ref 0, .ref 530]) rfl ?_
            refine T_p xr_203_149 xn_203 (pc' := 150) (ls' := [(3, .int (iI i)), (2, .ref 530), (1, .ref 1), (0, .ref 0)]) (st' := [.int (iI 1), .int (iI i), .ref 0, .ref 530]) rfl ?_
            refine T_ziadd xr_203_150 (z := i + 1) rfl (pc' := 151) rfl ?_
            refine T_zsald xr_203_151 (pc' := 152) rfl ?_
            refine T_ie (y := iI a1) (by rw [ha1]) ?_
            refine T_p xr_203_152 xn_203 (pc' := 153) (ls' := [(3, .int (iI i)), (2, .ref 530), (1, .ref 1), (0, .ref 0)]) (st' := [.ref 0, .int (iI a1), .ref 530]) rfl ?_
            refine T_p xr_203_153 xn_203 (pc' := 154) (ls' := [(3, .int (iI i)), (2, .ref 530), (1, .ref 1), (0, .ref 0)]) (st' := [.int (iI i), .ref 0, .int (iI a1), .ref 530]) rfl ?_
            refine T_p xr_203_154 xn_203 (pc' := 155) (ls' := [(3, .int (iI i)), (2, .ref 530), (1, .ref 1), (0, .ref 0)]) (st' := [.int (iI 2), .int (iI i), .ref 0, .int (iI a1), .ref 530]) rfl ?_
            refine T_ziadd xr_203_155 (z := i + 2) rfl (pc' := 156) rfl ?_
            refine T_zsald xr_203_156 (pc' := 157) rfl ?_
            refine T_ie (y := iI a2) (by rw [ha2]) ?_
            refine T_p xr_203_157 xn_203 (pc' := 158) (ls' := [(3, .int (iI i)), (2, .ref 530), (1, .ref 1), (0, .ref 0)]) (st' := [.ref 0, .int (iI a2), .int (iI a1), .ref 530]) rfl ?_
            refine T_p xr_203_158 xn_203 (pc' := 159) (ls' := [(3, .int (iI i)), (2, .ref 530), (1, .ref 1), (0, .ref 0)]) (st' := [.int (iI i), .ref 0, .int (iI a2), .int (iI a1), .ref 530]) rfl ?_
            refine T_p xr_203_159 xn_203 (pc' := 160) (ls' := [(3, .int (iI i)), (2, .ref 530), (1, .ref 1), (0, .ref 0)]) (st' := [.int (iI 3), .int (iI i), .ref 0, .int (iI a2), .int (iI a1), .ref 530]) rfl ?_
            refine T_ziadd xr_203_160 (z := i + 3) rfl (pc' := 161) rfl ?_
            refine T_zsald xr_203_161 (pc' := 162) rfl ?_
            refine T_ie (y := iI a3) (by rw [ha3]) ?_
            refine T_p xr_203_162 xn_203 (pc' := 163) (ls' := [(3, .int (iI i)), (2, .ref 530), (1, .ref 1), (0, .ref 0)]) (st' := [.ref 0, .int (iI a3), .int (iI a2), .int (iI a1), .ref 530]) rfl ?_
            refine T_p xr_203_163 xn_203 (pc' := 164) (ls' := [(3, .int (iI i)), (2, .ref 530), (1, .ref 1), (0, .ref 0)]) (st' := [.int (iI i), .ref 0, .int (iI a3), .int (iI a2), .int (iI a1), .ref 530]) rfl ?_
            refine T_p xr_203_164 xn_203 (pc' := 165) (ls' := [(3, .int (iI i)), (2, .ref 530), (1, .ref 1), (0, .ref 0)]) (st' := [.int (iI 4), .int (iI i), .ref 0, .int (iI a3), .int (iI a2), .int (iI a1), .ref 530]) rfl ?_
            refine T_ziadd xr_203_165 (z := i + 4) rfl (pc' := 166) rfl ?_
            refine T_zsald xr_203_166 (pc' := 167) rfl ?_
            refine T_ie (y := iI a4) (by rw [ha4]) ?_
            refine T_p xr_203_167 xn_203 (pc' := 168) (ls' := [(3, .int (iI i)), (2, .ref 530), (1, .ref 1), (0, .ref 0)]) (st' := [.ref 0, .int (iI a4), .int (iI a3), .int (iI a2), .int (iI a1), .ref 530]) rfl ?_
            refine T_p xr_203_168 xn_203 (pc' := 169) (ls' := [(3, .int (iI i)), (2, .ref 530), (1, .ref 1), (0, .ref 0)]) (st' := [.int (iI i), .ref 0, .int (iI a4), .int (iI a3), .int (iI a2), .int (iI a1), .ref 530]) rfl ?_
            refine T_p xr_203_169 xn_203 (pc' := 170) (ls' := [(3, .int (iI i)), (2, .ref 530), (1, .ref 1), (0, .ref 0)]) (st' := [.int (iI 5), .int (iI i), .ref 0, .int (iI a4), .int (iI a3), .int (iI a2), .int (iI a1), .ref 530]) rfl ?_
            refine T_ziadd xr_203_170 (z := i + 5) rfl (pc' := 171) rfl ?_
            refine T_zsald xr_203_171 (pc' := 172) rfl ?_
            refine T_ie (y := iI a5) (by rw [ha5]) ?_
            obtain ⟨f6711, ho6712⟩ := hmv6695.o5
            refine T_cv (S := S6684) (q := 530) xr_203_172 xf_201.1 xf_201.2.1 xn_201 (as := [.int (iI a1), .int (iI a2), .int (iI a3), .int (iI a4), .int (iI a5)]) (r := []) rfl ho6712 (Nat.le_of_ble_eq_true rfl) (Nat.le_of_ble_eq_true rfl) (pc' := 175) rfl (ls' := [(0, .ref 530), (1, .int (iI a1)), (2, .int (iI a2)), (3, .int (iI a3)), (4, .int (iI a4)), (5, .int (iI a5))]) rfl ?_
            refine T_mono (m_feed sc S6684 len tb rc G tn nc N rs re a1 a2 a3 a4 a5 hmv6695 hA) (fun v6713 S6714 h6715 => ?_)
            rcases h6715 with ⟨hv6716, hp6717, hp6718, hf6719⟩ | ⟨hv6720, hp6721, hp6722, hf6723⟩
            · skip
              rw [hv6716]
              have hmv6724 := hp6692.fr (⟨hf6719.1, hf6719.2⟩ : X_Fr _ S6684 S6714) (fun q h1 h2 => by omega)
              show X_T sc 203 (175, [(3, .int (iI i)), (2, .ref 530), (1, .ref 1), (0, .ref 0)], [.int (iI (-1))], S6714) _
              exact (show False by omega).elim
            · skip
              rw [hv6720]
              have hmv6725 := hp6692.fr (⟨hf6723.1, hf6723.2⟩ : X_Fr _ S6684 S6714) (fun q h1 h2 => by omega)
              show X_T sc 203 (175, [(3, .int (iI i)), (2, .ref 530), (1, .ref 1), (0, .ref 0)], [.int (iI (len + 20))], S6714) _
              refine T_p xr_203_175 xn_203 (pc' := 176) (ls' := [(3, .int (iI i)), (2, .ref 530), (1, .ref 1), (0, .ref 0)]) (st' := []) rfl ?_
              refine T_p xr_203_176 xn_203 (pc' := 587) (ls' := [(3, .int (iI i)), (2, .ref 530), (1, .ref 1), (0, .ref 0)]) (st' := []) rfl ?_
              refine T_ziinc xr_203_587 xn_203 (a := i) (z := i + 6) rfl (Nat.le_of_ble_eq_true rfl) (by omega) (ls' := [(3, .int (iI (i + 6))), (2, .ref 530), (1, .ref 1), (0, .ref 0)]) rfl (pc' := 590) rfl ?_
              refine T_p xr_203_590 xn_203 (pc' := 18) (ls' := [(3, .int (iI (i + 6))), (2, .ref 530), (1, .ref 1), (0, .ref 0)]) (st' := []) rfl ?_
              exact ih6675 S6714 (i + 6) (len + 20) (X_fd5 tb len a1 a2 a3 a4 a5) rc G tn nc N rs re (hF6678.tr (((X_Fr.rf).tr (X_Fr.mono ⟨hf6693.1, hf6693.2⟩ (fun q hq => (by omega)))).tr (X_Fr.mono ⟨hf6723.1, hf6723.2⟩ (fun q hq => (by omega))))) (by omega) (hA.feed hp6691) hmv6725 hp6722 (by omega)
        · skip
          refine T_tsk xr_203_33 cs6680 (by decide) (by decide) (off := 146) rfl (t := 179) rfl ?_
          refine T_p xr_203_179 xn_203 (pc' := 180) (ls' := [(3, .int (iI i)), (2, .ref 530), (1, .ref 1), (0, .ref 0)]) (st' := [.ref 1]) rfl ?_
          refine T_p xr_203_180 xn_203 (pc' := 181) (ls' := [(3, .int (iI i)), (2, .ref 530), (1, .ref 1), (0, .ref 0)]) (st' := [.ref 0, .ref 1]) rfl ?_
          refine T_p xr_203_181 xn_203 (pc' := 182) (ls' := [(3, .int (iI i)), (2, .ref 530), (1, .ref 1), (0, .ref 0)]) (st' := [.int (iI i), .ref 0, .ref 1]) rfl ?_
          refine T_p xr_203_182 xn_203 (pc' := 183) (ls' := [(3, .int (iI i)), (2, .ref 530), (1, .ref 1), (0, .ref 0)]) (st' := [.int (iI 1), .int (iI i), .ref 0, .ref 1]) rfl ?_
          refine T_ziadd xr_203_183 (z := i + 1) rfl (pc' := 184) rfl ?_
          refine T_zsald xr_203_184 (pc' := 185) rfl ?_
          refine T_ie (y := iI a1) (by rw [ha1]) ?_
          obtain ⟨f6726, ho6727⟩ := hIC.o1
          refine T_cv (S := Sl) (q := 1) xr_203_185 xf_114.1 xf_114.2.1 xn_114 (as := [.int (iI a1)]) (r := []) rfl ho6727 (Nat.le_of_ble_eq_true rfl) (Nat.le_of_ble_eq_true rfl) (pc' := 188) rfl (ls' := [(0, .ref 1), (1, .int (iI a1))]) rfl ?_
          refine T_mono (k_end sc Sl len tb rc G tn nc N rs re a1 hIC hA (by omega)) (fun v6728 S6729 h6730 => ?_)
          rcases h6730 with ⟨hv6731, hp6732, hp6733, hf6734⟩ | ⟨hv6735, hp6736, hp6737, hf6738⟩
          · skip
            rw [hv6731]
            have hmv6739 := hIR.fr (⟨hf6734.1, hf6734.2⟩ : X_Fr _ Sl S6729) (fun q h1 h2 => by omega)
            show X_T sc 203 (188, [(3, .int (iI i)), (2, .ref 530), (1, .ref 1), (0, .ref 0)], [.int (iI (-1))], S6729) _
            refine T_p xr_203_188 xn_203 (pc' := 189) (ls' := [(3, .int (iI i)), (2, .ref 530), (1, .ref 1), (0, .ref 0)]) (st' := []) rfl ?_
            refine T_p xr_203_189 xn_203 (pc' := 190) (ls' := [(3, .int (iI i)), (2, .ref 530), (1, .ref 1), (0, .ref 0)]) (st' := [.ref 530]) rfl ?_
            refine T_p xr_203_190 xn_203 (pc' := 191) (ls' := [(3, .int (iI i)), (2, .ref 530), (1, .ref 1), (0, .ref 0)]) (st' := [.ref 0, .ref 530]) rfl ?_
            refine T_p xr_203_191 xn_203 (pc' := 192) (ls' := [(3, .int (iI i)), (2, .ref 530), (1, .ref 1), (0, .ref 0)]) (st' := [.int (iI i), .ref 0, .ref 530]) rfl ?_
            refine T_p xr_203_192 xn_203 (pc' := 193) (ls' := [(3, .int (iI i)), (2, .ref 530), (1, .ref 1), (0, .ref 0)]) (st' := [.int (iI 1), .int (iI i), .ref 0, .ref 530]) rfl ?_
            refine T_ziadd xr_203_193 (z := i + 1) rfl (pc' := 194) rfl ?_
            refine T_zsald xr_203_194 (pc' := 195) rfl ?_
            refine T_ie (y := iI a1) (by rw [ha1]) ?_
            obtain ⟨f6741, ho6742⟩ := hmv6739.o5
            refine T_cv (S := S6729) (q := 530) xr_203_195 xf_202.1 xf_202.2.1 xn_202 (as := [.int (iI a1)]) (r := []) rfl ho6742 (Nat.le_of_ble_eq_true rfl) (Nat.le_of_ble_eq_true rfl) (pc' := 198) rfl (ls' := [(0, .ref 530), (1, .int (iI a1))]) rfl ?_
            refine T_mono (m_end sc S6729 len tb rc G tn nc N rs re a1 hmv6739 hA (by omega)) (fun v6743 S6744 h6745 => ?_)
            rcases h6745 with ⟨hv6746, hp6747, hp6748, hf6749⟩ | ⟨hv6750, hp6751, hp6752, hf6753⟩
            · skip
              rw [hv6746]
              have hmv6754 := hp6733.fr (⟨hf6749.1, hf6749.2⟩ : X_Fr _ S6729 S6744) (fun q h1 h2 => by omega)
              show X_T sc 203 (198, [(3, .int (iI i)), (2, .ref 530), (1, .ref 1), (0, .ref 0)], [.int (iI (-1))], S6744) _
              refine T_p xr_203_198 xn_203 (pc' := 199) (ls' := [(3, .int (iI i)), (2, .ref 530), (1, .ref 1), (0, .ref 0)]) (st' := []) rfl ?_
              refine T_p xr_203_199 xn_203 (pc' := 587) (ls' := [(3, .int (iI i)), (2, .ref 530), (1, .ref 1), (0, .ref 0)]) (st' := []) rfl ?_
              refine T_ziinc xr_203_587 xn_203 (a := i) (z := i + 6) rfl (Nat.le_of_ble_eq_true rfl) (by omega) (ls' := [(3, .int (iI (i + 6))), (2, .ref 530), (1, .ref 1), (0, .ref 0)]) rfl (pc' := 590) rfl ?_
              refine T_p xr_203_590 xn_203 (pc' := 18) (ls' := [(3, .int (iI (i + 6))), (2, .ref 530), (1, .ref 1), (0, .ref 0)]) (st' := []) rfl ?_
              exact ih6675 S6744 (i + 6) len tb rc G tn nc N rs re (hF6678.tr (((X_Fr.rf).tr (X_Fr.mono ⟨hf6734.1, hf6734.2⟩ (fun q hq => (by omega)))).tr (X_Fr.mono ⟨hf6749.1, hf6749.2⟩ (fun q hq => (by omega))))) (by omega) hA hmv6754 hp6748 (by omega)
            · skip
              rw [hv6750]
              have hmv6755 := hp6733.fr (⟨hf6753.1, hf6753.2⟩ : X_Fr _ S6729 S6744) (fun q h1 h2 => by omega)
              show X_T sc 203 (198, [(3, .int (iI i)), (2, .ref 530), (1, .ref 1), (0, .ref 0)], [.int (iI a1)], S6744) _
              exact (show False by omega).elim
          · skip
            rw [hv6735]
            have hmv6740 := hIR.fr (⟨hf6738.1, hf6738.2⟩ : X_Fr _ Sl S6729) (fun q h1 h2 => by omega)
            show X_T sc 203 (188, [(3, .int (iI i)), (2, .ref 530), (1, .ref 1), (0, .ref 0)], [.int (iI a1)], S6729) _
            refine T_p xr_203_188 xn_203 (pc' := 189) (ls' := [(3, .int (iI i)), (2, .ref 530), (1, .ref 1), (0, .ref 0)]) (st' := []) rfl ?_
            refine T_p xr_203_189 xn_203 (pc' := 190) (ls' := [(3, .int (iI i)), (2, .ref 530), (1, .ref 1), (0, .ref 0)]) (st' := [.ref 530]) rfl ?_
            refine T_p xr_203_190 xn_203 (pc' := 191) (ls' := [(3, .int (iI i)), (2, .ref 530), (1, .ref 1), (0, .ref 0)]) (st' := [.ref 0, .ref 530]) rfl ?_
            refine T_p xr_203_191 xn_203 (pc' := 192) (ls' := [(3, .int (iI i)), (2, .ref 530), (1, .ref 1), (0, .ref 0)]) (st' := [.int (iI i), .ref 0, .ref 530]) rfl ?_
            refine T_p xr_203_192 xn_203 (pc' := 193) (ls' := [(3, .int (iI i)), (2, .ref 530), (1, .ref 1), (0, .ref 0)]) (st' := [.int (iI 1), .int (iI i), .ref 0, .ref 530]) rfl ?_
            refine T_ziadd xr_203_193 (z := i + 1) rfl (pc' := 194) rfl ?_
            refine T_zsald xr_203_194 (pc' := 195) rfl ?_
            refine T_ie (y := iI a1) (by rw [ha1]) ?_
            obtain ⟨f6756, ho6757⟩ := hmv6740.o5
            refine T_cv (S := S6729) (q := 530) xr_203_195 xf_202.1 xf_202.2.1 xn_202 (as := [.int (iI a1)]) (r := []) rfl ho6757 (Nat.le_of_ble_eq_true rfl) (Nat.le_of_ble_eq_true rfl) (pc' := 198) rfl (ls' := [(0, .ref 530), (1, .int (iI a1))]) rfl ?_
            refine T_mono (m_end sc S6729 len tb rc G tn nc N rs re a1 hmv6740 hA (by omega)) (fun v6758 S6759 h6760 => ?_)
            rcases h6760 with ⟨hv6761, hp6762, hp6763, hf6764⟩ | ⟨hv6765, hp6766, hp6767, hf6768⟩
            · skip
              rw [hv6761]
              have hmv6769 := hp6737.fr (⟨hf6764.1, hf6764.2⟩ : X_Fr _ S6729 S6759) (fun q h1 h2 => by omega)
              show X_T sc 203 (198, [(3, .int (iI i)), (2, .ref 530), (1, .ref 1), (0, .ref 0)], [.int (iI (-1))], S6759) _
              exact (show False by omega).elim
            · skip
              rw [hv6765]
              have hmv6770 := hp6737.fr (⟨hf6768.1, hf6768.2⟩ : X_Fr _ S6729 S6759) (fun q h1 h2 => by omega)
              show X_T sc 203 (198, [(3, .int (iI i)), (2, .ref 530), (1, .ref 1), (0, .ref 0)], [.int (iI a1)], S6759) _
              refine T_p xr_203_198 xn_203 (pc' := 199) (ls' := [(3, .int (iI i)), (2, .ref 530), (1, .ref 1), (0, .ref 0)]) (st' := []) rfl ?_
              refine T_p xr_203_199 xn_203 (pc' := 587) (ls' := [(3, .int (iI i)), (2, .ref 530), (1, .ref 1), (0, .ref 0)]) (st' := []) rfl ?_
              refine T_ziinc xr_203_587 xn_203 (a := i) (z := i + 6) rfl (Nat.le_of_ble_eq_true rfl) (by omega) (ls' := [(3, .int (iI (i + 6))), (2, .ref 530), (1, .ref 1), (0, .ref 0)]) rfl (pc' := 590) rfl ?_
              refine T_p xr_203_590 xn_203 (pc' := 18) (ls' := [(3, .int (iI (i + 6))), (2, .ref 530), (1, .ref 1), (0, .ref 0)]) (st' := []) rfl ?_
              exact ih6675 S6759 (i + 6) a1 tb rc G tn nc N rs re (hF6678.tr (((X_Fr.rf).tr (X_Fr.mono ⟨hf6738.1, hf6738.2⟩ (fun q hq => (by omega)))).tr (X_Fr.mono ⟨hf6768.1, hf6768.2⟩ (fun q hq => (by omega))))) (by omega) (hA.len hp6736) hmv6770 hp6767 (by omega)
        · skip
          refine T_tsk xr_203_33 cs6680 (by decide) (by decide) (off := 169) rfl (t := 202) rfl ?_
          refine T_p xr_203_202 xn_203 (pc' := 203) (ls' := [(3, .int (iI i)), (2, .ref 530), (1, .ref 1), (0, .ref 0)]) (st' := [.ref 1]) rfl ?_
          obtain ⟨f6771, ho6772⟩ := hIC.o1
          refine T_cv (S := Sl) (q := 1) xr_203_203 xf_115.1 xf_115.2.1 xn_115 (as := []) (r := []) rfl ho6772 (Nat.le_of_ble_eq_true rfl) (Nat.le_of_ble_eq_true rfl) (pc' := 206) rfl (ls' := [(0, .ref 1)]) rfl ?_
          refine T_mono (k_book sc Sl len tb rc G tn nc N rs re hIC hA) (fun v6773 S6774 h6775 => ?_)
          rcases h6775 with ⟨n6776, so6777, pl6778, ct6779, rc6780, kc6781, wc6782, rn6783, lo6784, kn6785, ab6786, D6787, W6788, c6789, rc6790, kc6791, wc6792, rn6793, lo6794, kn6795, ab6796, D6797, W6798, D6799, hv6800, hp6801, hp6802, hp6803, hp6804, hp6805, hf6806⟩ | ⟨n6807, so6808, pl6809, ct6810, rc6811, kc6812, wc6813, rn6814, lo6815, kn6816, ab6817, D6818, W6819, hv6820, hp6821, hp6822, hp6823, hf6824⟩
          · skip
            rw [hv6800]
            have hmv6825 := hIR.fr (⟨hf6806.1, hf6806.2⟩ : X_Fr _ Sl S6774) (fun q h1 h2 => by omega)
            show X_T sc 203 (206, [(3, .int (iI i)), (2, .ref 530), (1, .ref 1), (0, .ref 0)], [.int (iI wc6792)], S6774) _
            have hbo := hA.book hp6801 hp6802 hp6803 hp6804
            refine T_p xr_203_206 xn_203 (pc' := 207) (ls' := [(3, .int (iI i)), (2, .ref 530), (1, .ref 1), (0, .ref 0)]) (st' := []) rfl ?_
            refine T_p xr_203_207 xn_203 (pc' := 208) (ls' := [(3, .int (iI i)), (2, .ref 530), (1, .ref 1), (0, .ref 0)]) (st' := [.ref 530]) rfl ?_
            obtain ⟨f6827, ho6828⟩ := hmv6825.o5
            refine T_cv (S := S6774) (q := 530) xr_203_208 xf_162.1 xf_162.2.1 xn_162 (as := []) (r := []) rfl ho6828 (Nat.le_of_ble_eq_true rfl) (Nat.le_of_ble_eq_true rfl) (pc' := 211) rfl (ls' := [(0, .ref 530)]) rfl ?_
            refine T_mono (m_book sc S6774 len tb rc G tn nc N rs re rc6790 (kc6791, wc6792, lo6794, ab6796, D6799, W6798, gt G) n6776 so6777 pl6778 ct6779 rn6783 lo6784 kn6785 ab6786 D6787 W6788 hmv6825 hA hp6801 (fun K2 h2 => by
                  have z := hp6802.symm.trans h2
                  cases z
                  exact hbo.2)) (fun v6829 S6830 h6831 => ?_)
            rcases h6831 with ⟨hv6832, hp6833, hp6834, hf6835⟩ | ⟨hv6836, hp6837, hp6838, hf6839⟩
            · skip
              rw [hv6832]
              have hmv6840 := hp6805.fr (⟨hf6835.1, hf6835.2⟩ : X_Fr _ S6774 S6830) (fun q h1 h2 => by omega)
              show X_T sc 203 (211, [(3, .int (iI i)), (2, .ref 530), (1, .ref 1), (0, .ref 0)], [.int (iI (gw (kc6791, wc6792, lo6794, ab6796, D6799, W6798, gt G)))], S6830) _
              refine T_p xr_203_211 xn_203 (pc' := 212) (ls' := [(3, .int (iI i)), (2, .ref 530), (1, .ref 1), (0, .ref 0)]) (st' := []) rfl ?_
              refine T_p xr_203_212 xn_203 (pc' := 587) (ls' := [(3, .int (iI i)), (2, .ref 530), (1, .ref 1), (0, .ref 0)]) (st' := []) rfl ?_
              refine T_ziinc xr_203_587 xn_203 (a := i) (z := i + 6) rfl (Nat.le_of_ble_eq_true rfl) (by omega) (ls' := [(3, .int (iI (i + 6))), (2, .ref 530), (1, .ref 1), (0, .ref 0)]) rfl (pc' := 590) rfl ?_
              refine T_p xr_203_590 xn_203 (pc' := 18) (ls' := [(3, .int (iI (i + 6))), (2, .ref 530), (1, .ref 1), (0, .ref 0)]) (st' := []) rfl ?_
              exact ih6675 S6830 (i + 6) 0 tb rc6790 (kc6791, wc6792, lo6794, ab6796, D6799, W6798, gt G) 0 0 N 0 (-1) (hF6678.tr (((X_Fr.rf).tr (X_Fr.mono ⟨hf6806.1, hf6806.2⟩ (fun q hq => (by omega)))).tr (X_Fr.mono ⟨hf6835.1, hf6835.2⟩ (fun q hq => (by omega))))) (by omega) hbo.1 hmv6840 hp6834 (by omega)
            · skip
              rw [hv6836]
              have hmv6841 := hp6805.fr (⟨hf6839.1, hf6839.2⟩ : X_Fr _ S6774 S6830) (fun q h1 h2 => by omega)
              show X_T sc 203 (211, [(3, .int (iI i)), (2, .ref 530), (1, .ref 1), (0, .ref 0)], [.int (iI (-1))], S6830) _
              exact absurd (hp6802.symm.trans hp6837) (by simp)
          · skip
            rw [hv6820]
            have hmv6826 := hIR.fr (⟨hf6824.1, hf6824.2⟩ : X_Fr _ Sl S6774) (fun q h1 h2 => by omega)
            show X_T sc 203 (206, [(3, .int (iI i)), (2, .ref 530), (1, .ref 1), (0, .ref 0)], [.int (iI (-1))], S6774) _
            refine T_p xr_203_206 xn_203 (pc' := 207) (ls' := [(3, .int (iI i)), (2, .ref 530), (1, .ref 1), (0, .ref 0)]) (st' := []) rfl ?_
            refine T_p xr_203_207 xn_203 (pc' := 208) (ls' := [(3, .int (iI i)), (2, .ref 530), (1, .ref 1), (0, .ref 0)]) (st' := [.ref 530]) rfl ?_
            obtain ⟨f6842, ho6843⟩ := hmv6826.o5
            refine T_cv (S := S6774) (q := 530) xr_203_208 xf_162.1 xf_162.2.1 xn_162 (as := []) (r := []) rfl ho6843 (Nat.le_of_ble_eq_true rfl) (Nat.le_of_ble_eq_true rfl) (pc' := 211) rfl (ls' := [(0, .ref 530)]) rfl ?_
            refine T_mono (m_book sc S6774 len tb rc G tn nc N rs re rc G n6807 so6808 pl6809 ct6810 rn6814 lo6815 kn6816 ab6817 D6818 W6819 hmv6826 hA hp6821 (fun K2 h2 => absurd (hp6822.symm.trans h2) (by simp))) (fun v6844 S6845 h6846 => ?_)
            rcases h6846 with ⟨hv6847, hp6848, hp6849, hf6850⟩ | ⟨hv6851, hp6852, hp6853, hf6854⟩
            · skip
              rw [hv6847]
              have hmv6855 := hp6823.fr (⟨hf6850.1, hf6850.2⟩ : X_Fr _ S6774 S6845) (fun q h1 h2 => by omega)
              show X_T sc 203 (211, [(3, .int (iI i)), (2, .ref 530), (1, .ref 1), (0, .ref 0)], [.int (iI (gw G))], S6845) _
              obtain ⟨K9, h9⟩ := hp6848
              exact absurd (hp6822.symm.trans h9) (by simp)
            · skip
              rw [hv6851]
              have hmv6856 := hp6823.fr (⟨hf6854.1, hf6854.2⟩ : X_Fr _ S6774 S6845) (fun q h1 h2 => by omega)
              show X_T sc 203 (211, [(3, .int (iI i)), (2, .ref 530), (1, .ref 1), (0, .ref 0)], [.int (iI (-1))], S6845) _
              refine T_p xr_203_211 xn_203 (pc' := 212) (ls' := [(3, .int (iI i)), (2, .ref 530), (1, .ref 1), (0, .ref 0)]) (st' := []) rfl ?_
              refine T_p xr_203_212 xn_203 (pc' := 587) (ls' := [(3, .int (iI i)), (2, .ref 530), (1, .ref 1), (0, .ref 0)]) (st' := []) rfl ?_
              refine T_ziinc xr_203_587 xn_203 (a := i) (z := i + 6) rfl (Nat.le_of_ble_eq_true rfl) (by omega) (ls' := [(3, .int (iI (i + 6))), (2, .ref 530), (1, .ref 1), (0, .ref 0)]) rfl (pc' := 590) rfl ?_
              refine T_p xr_203_590 xn_203 (pc' := 18) (ls' := [(3, .int (iI (i + 6))), (2, .ref 530), (1, .ref 1), (0, .ref 0)]) (st' := []) rfl ?_
              exact ih6675 S6845 (i + 6) 0 tb rc G tn nc N rs re (hF6678.tr (((X_Fr.rf).tr (X_Fr.mono ⟨hf6824.1, hf6824.2⟩ (fun q hq => (by omega)))).tr (X_Fr.mono ⟨hf6854.1, hf6854.2⟩ (fun q hq => (by omega))))) (by omega) (hA.len (by have := hA.1; omega)) hmv6856 hp6853 (by omega)
        · skip
          refine T_tsk xr_203_33 cs6680 (by decide) (by decide) (off := 182) rfl (t := 215) rfl ?_
          refine T_p xr_203_215 xn_203 (pc' := 216) (ls' := [(3, .int (iI i)), (2, .ref 530), (1, .ref 1), (0, .ref 0)]) (st' := [.ref 1]) rfl ?_
          refine T_p xr_203_216 xn_203 (pc' := 217) (ls' := [(3, .int (iI i)), (2, .ref 530), (1, .ref 1), (0, .ref 0)]) (st' := [.ref 0, .ref 1]) rfl ?_
          refine T_p xr_203_217 xn_203 (pc' := 218) (ls' := [(3, .int (iI i)), (2, .ref 530), (1, .ref 1), (0, .ref 0)]) (st' := [.int (iI i), .ref 0, .ref 1]) rfl ?_
          refine T_p xr_203_218 xn_203 (pc' := 219) (ls' := [(3, .int (iI i)), (2, .ref 530), (1, .ref 1), (0, .ref 0)]) (st' := [.int (iI 1), .int (iI i), .ref 0, .ref 1]) rfl ?_
          refine T_ziadd xr_203_219 (z := i + 1) rfl (pc' := 220) rfl ?_
          refine T_zsald xr_203_220 (pc' := 221) rfl ?_
          refine T_ie (y := iI a1) (by rw [ha1]) ?_
          obtain ⟨f6857, ho6858⟩ := hIC.o1
          refine T_cv (S := Sl) (q := 1) xr_203_221 xf_116.1 xf_116.2.1 xn_116 (as := [.int (iI a1)]) (r := []) rfl ho6858 (Nat.le_of_ble_eq_true rfl) (Nat.le_of_ble_eq_true rfl) (pc' := 224) rfl (ls' := [(0, .ref 1), (1, .int (iI a1))]) rfl ?_
          refine T_mono (k_fault sc Sl len tb rc G tn nc N rs re a1 hIC hA (by omega)) (fun v6859 S6860 h6861 => ?_)
          rcases h6861 with ⟨r6862, hv6863, hp6864, hf6865⟩
          rw [hv6863]
          have hmv6866 := hIR.fr (⟨hf6865.1, hf6865.2⟩ : X_Fr _ Sl S6860) (fun q h1 h2 => by omega)
          show X_T sc 203 (224, [(3, .int (iI i)), (2, .ref 530), (1, .ref 1), (0, .ref 0)], [.int (iI r6862)], S6860) _
          refine T_p xr_203_224 xn_203 (pc' := 225) (ls' := [(3, .int (iI i)), (2, .ref 530), (1, .ref 1), (0, .ref 0)]) (st' := []) rfl ?_
          refine T_p xr_203_225 xn_203 (pc' := 226) (ls' := [(3, .int (iI i)), (2, .ref 530), (1, .ref 1), (0, .ref 0)]) (st' := [.ref 530]) rfl ?_
          refine T_p xr_203_226 xn_203 (pc' := 227) (ls' := [(3, .int (iI i)), (2, .ref 530), (1, .ref 1), (0, .ref 0)]) (st' := [.ref 0, .ref 530]) rfl ?_
          refine T_p xr_203_227 xn_203 (pc' := 228) (ls' := [(3, .int (iI i)), (2, .ref 530), (1, .ref 1), (0, .ref 0)]) (st' := [.int (iI i), .ref 0, .ref 530]) rfl ?_
          refine T_p xr_203_228 xn_203 (pc' := 229) (ls' := [(3, .int (iI i)), (2, .ref 530), (1, .ref 1), (0, .ref 0)]) (st' := [.int (iI 1), .int (iI i), .ref 0, .ref 530]) rfl ?_
          refine T_ziadd xr_203_229 (z := i + 1) rfl (pc' := 230) rfl ?_
          refine T_zsald xr_203_230 (pc' := 231) rfl ?_
          refine T_ie (y := iI a1) (by rw [ha1]) ?_
          obtain ⟨f6867, ho6868⟩ := hmv6866.o5
          refine T_cv (S := S6860) (q := 530) xr_203_231 xf_163.1 xf_163.2.1 xn_163 (as := [.int (iI a1)]) (r := []) rfl ho6868 (Nat.le_of_ble_eq_true rfl) (Nat.le_of_ble_eq_true rfl) (pc' := 234) rfl (ls' := [(0, .ref 530), (1, .int (iI a1))]) rfl ?_
          refine T_mono (m_fault sc S6860 len tb rc G tn nc N rs re a1 hmv6866 hA (by omega)) (fun v6869 S6870 h6871 => ?_)
          rcases h6871 with ⟨r6872, hv6873, hp6874, hf6875⟩
          rw [hv6873]
          have hmv6876 := hp6864.fr (⟨hf6875.1, hf6875.2⟩ : X_Fr _ S6860 S6870) (fun q h1 h2 => by omega)
          show X_T sc 203 (234, [(3, .int (iI i)), (2, .ref 530), (1, .ref 1), (0, .ref 0)], [.int (iI r6872)], S6870) _
          refine T_p xr_203_234 xn_203 (pc' := 235) (ls' := [(3, .int (iI i)), (2, .ref 530), (1, .ref 1), (0, .ref 0)]) (st' := []) rfl ?_
          refine T_p xr_203_235 xn_203 (pc' := 587) (ls' := [(3, .int (iI i)), (2, .ref 530), (1, .ref 1), (0, .ref 0)]) (st' := []) rfl ?_
          refine T_ziinc xr_203_587 xn_203 (a := i) (z := i + 6) rfl (Nat.le_of_ble_eq_true rfl) (by omega) (ls' := [(3, .int (iI (i + 6))), (2, .ref 530), (1, .ref 1), (0, .ref 0)]) rfl (pc' := 590) rfl ?_
          refine T_p xr_203_590 xn_203 (pc' := 18) (ls' := [(3, .int (iI (i + 6))), (2, .ref 530), (1, .ref 1), (0, .ref 0)]) (st' := []) rfl ?_
          exact ih6675 S6870 (i + 6) len tb rc G tn nc N rs re (hF6678.tr (((X_Fr.rf).tr (X_Fr.mono ⟨hf6865.1, hf6865.2⟩ (fun q hq => (by omega)))).tr (X_Fr.mono ⟨hf6875.1, hf6875.2⟩ (fun q hq => (by omega))))) (by omega) hA hmv6876 hp6874 (by omega)
        · skip
          refine T_tsk xr_203_33 cs6680 (by decide) (by decide) (off := 205) rfl (t := 238) rfl ?_
          refine T_p xr_203_238 xn_203 (pc' := 239) (ls' := [(3, .int (iI i)), (2, .ref 530), (1, .ref 1), (0, .ref 0)]) (st' := [.ref 1]) rfl ?_
          refine T_p xr_203_239 xn_203 (pc' := 240) (ls' := [(3, .int (iI i)), (2, .ref 530), (1, .ref 1), (0, .ref 0)]) (st' := [.ref 0, .ref 1]) rfl ?_
          refine T_p xr_203_240 xn_203 (pc' := 241) (ls' := [(3, .int (iI i)), (2, .ref 530), (1, .ref 1), (0, .ref 0)]) (st' := [.int (iI i), .ref 0, .ref 1]) rfl ?_
          refine T_p xr_203_241 xn_203 (pc' := 242) (ls' := [(3, .int (iI i)), (2, .ref 530), (1, .ref 1), (0, .ref 0)]) (st' := [.int (iI 1), .int (iI i), .ref 0, .ref 1]) rfl ?_
          refine T_ziadd xr_203_242 (z := i + 1) rfl (pc' := 243) rfl ?_
          refine T_zsald xr_203_243 (pc' := 244) rfl ?_
          refine T_ie (y := iI a1) (by rw [ha1]) ?_
          obtain ⟨f6877, ho6878⟩ := hIC.o1
          refine T_cv (S := Sl) (q := 1) xr_203_244 xf_117.1 xf_117.2.1 xn_117 (as := [.int (iI a1)]) (r := []) rfl ho6878 (Nat.le_of_ble_eq_true rfl) (Nat.le_of_ble_eq_true rfl) (pc' := 247) rfl (ls' := [(0, .ref 1), (1, .int (iI a1))]) rfl ?_
          refine T_mono (k_about sc Sl len tb rc G tn nc N rs re a1 hIC hA (by omega)) (fun v6879 S6880 h6881 => ?_)
          rcases h6881 with ⟨hv6882, hp6883, hf6884⟩
          rw [hv6882]
          have hmv6885 := hIR.fr (⟨hf6884.1, hf6884.2⟩ : X_Fr _ Sl S6880) (fun q h1 h2 => by omega)
          show X_T sc 203 (247, [(3, .int (iI i)), (2, .ref 530), (1, .ref 1), (0, .ref 0)], [.int (iI (X_qAb rc (gk G) (gw G) tn nc len a1))], S6880) _
          refine T_p xr_203_247 xn_203 (pc' := 248) (ls' := [(3, .int (iI i)), (2, .ref 530), (1, .ref 1), (0, .ref 0)]) (st' := []) rfl ?_
          refine T_p xr_203_248 xn_203 (pc' := 249) (ls' := [(3, .int (iI i)), (2, .ref 530), (1, .ref 1), (0, .ref 0)]) (st' := [.ref 530]) rfl ?_
          refine T_p xr_203_249 xn_203 (pc' := 250) (ls' := [(3, .int (iI i)), (2, .ref 530), (1, .ref 1), (0, .ref 0)]) (st' := [.ref 0, .ref 530]) rfl ?_
          refine T_p xr_203_250 xn_203 (pc' := 251) (ls' := [(3, .int (iI i)), (2, .ref 530), (1, .ref 1), (0, .ref 0)]) (st' := [.int (iI i), .ref 0, .ref 530]) rfl ?_
          refine T_p xr_203_251 xn_203 (pc' := 252) (ls' := [(3, .int (iI i)), (2, .ref 530), (1, .ref 1), (0, .ref 0)]) (st' := [.int (iI 1), .int (iI i), .ref 0, .ref 530]) rfl ?_
          refine T_ziadd xr_203_252 (z := i + 1) rfl (pc' := 253) rfl ?_
          refine T_zsald xr_203_253 (pc' := 254) rfl ?_
          refine T_ie (y := iI a1) (by rw [ha1]) ?_
          obtain ⟨f6886, ho6887⟩ := hmv6885.o5
          refine T_cv (S := S6880) (q := 530) xr_203_254 xf_164.1 xf_164.2.1 xn_164 (as := [.int (iI a1)]) (r := []) rfl ho6887 (Nat.le_of_ble_eq_true rfl) (Nat.le_of_ble_eq_true rfl) (pc' := 257) rfl (ls' := [(0, .ref 530), (1, .int (iI a1))]) rfl ?_
          refine T_mono (m_about sc S6880 len tb rc G tn nc N rs re a1 hmv6885 hA (by omega)) (fun v6888 S6889 h6890 => ?_)
          rcases h6890 with ⟨hv6891, hp6892, hf6893⟩
          rw [hv6891]
          have hmv6894 := hp6883.fr (⟨hf6893.1, hf6893.2⟩ : X_Fr _ S6880 S6889) (fun q h1 h2 => by omega)
          show X_T sc 203 (257, [(3, .int (iI i)), (2, .ref 530), (1, .ref 1), (0, .ref 0)], [.int (iI (X_qAb rc (gk G) (gw G) tn nc len a1))], S6889) _
          refine T_p xr_203_257 xn_203 (pc' := 258) (ls' := [(3, .int (iI i)), (2, .ref 530), (1, .ref 1), (0, .ref 0)]) (st' := []) rfl ?_
          refine T_p xr_203_258 xn_203 (pc' := 587) (ls' := [(3, .int (iI i)), (2, .ref 530), (1, .ref 1), (0, .ref 0)]) (st' := []) rfl ?_
          refine T_ziinc xr_203_587 xn_203 (a := i) (z := i + 6) rfl (Nat.le_of_ble_eq_true rfl) (by omega) (ls' := [(3, .int (iI (i + 6))), (2, .ref 530), (1, .ref 1), (0, .ref 0)]) rfl (pc' := 590) rfl ?_
          refine T_p xr_203_590 xn_203 (pc' := 18) (ls' := [(3, .int (iI (i + 6))), (2, .ref 530), (1, .ref 1), (0, .ref 0)]) (st' := []) rfl ?_
          exact ih6675 S6889 (i + 6) len tb rc G tn nc N rs re (hF6678.tr (((X_Fr.rf).tr (X_Fr.mono ⟨hf6884.1, hf6884.2⟩ (fun q hq => (by omega)))).tr (X_Fr.mono ⟨hf6893.1, hf6893.2⟩ (fun q hq => (by omega))))) (by omega) hA hmv6894 hp6892 (by omega)
        · skip
          refine T_tsk xr_203_33 cs6680 (by decide) (by decide) (off := 228) rfl (t := 261) rfl ?_
          refine T_p xr_203_261 xn_203 (pc' := 262) (ls' := [(3, .int (iI i)), (2, .ref 530), (1, .ref 1), (0, .ref 0)]) (st' := [.ref 1]) rfl ?_
          refine T_p xr_203_262 xn_203 (pc' := 263) (ls' := [(3, .int (iI i)), (2, .ref 530), (1, .ref 1), (0, .ref 0)]) (st' := [.ref 0, .ref 1]) rfl ?_
          refine T_p xr_203_263 xn_203 (pc' := 264) (ls' := [(3, .int (iI i)), (2, .ref 530), (1, .ref 1), (0, .ref 0)]) (st' := [.int (iI i), .ref 0, .ref 1]) rfl ?_
          refine T_p xr_203_264 xn_203 (pc' := 265) (ls' := [(3, .int (iI i)), (2, .ref 530), (1, .ref 1), (0, .ref 0)]) (st' := [.int (iI 1), .int (iI i), .ref 0, .ref 1]) rfl ?_
          refine T_ziadd xr_203_265 (z := i + 1) rfl (pc' := 266) rfl ?_
          refine T_zsald xr_203_266 (pc' := 267) rfl ?_
          refine T_ie (y := iI a1) (by rw [ha1]) ?_
          refine T_p xr_203_267 xn_203 (pc' := 268) (ls' := [(3, .int (iI i)), (2, .ref 530), (1, .ref 1), (0, .ref 0)]) (st' := [.ref 0, .int (iI a1), .ref 1]) rfl ?_
          refine T_p xr_203_268 xn_203 (pc' := 269) (ls' := [(3, .int (iI i)), (2, .ref 530), (1, .ref 1), (0, .ref 0)]) (st' := [.int (iI i), .ref 0, .int (iI a1), .ref 1]) rfl ?_
          refine T_p xr_203_269 xn_203 (pc' := 270) (ls' := [(3, .int (iI i)), (2, .ref 530), (1, .ref 1), (0, .ref 0)]) (st' := [.int (iI 2), .int (iI i), .ref 0, .int (iI a1), .ref 1]) rfl ?_
          refine T_ziadd xr_203_270 (z := i + 2) rfl (pc' := 271) rfl ?_
          refine T_zsald xr_203_271 (pc' := 272) rfl ?_
          refine T_ie (y := iI a2) (by rw [ha2]) ?_
          obtain ⟨f6895, ho6896⟩ := hIC.o1
          refine T_cv (S := Sl) (q := 1) xr_203_272 xf_118.1 xf_118.2.1 xn_118 (as := [.int (iI a1), .int (iI a2)]) (r := []) rfl ho6896 (Nat.le_of_ble_eq_true rfl) (Nat.le_of_ble_eq_true rfl) (pc' := 275) rfl (ls' := [(0, .ref 1), (1, .int (iI a1)), (2, .int (iI a2))]) rfl ?_
          refine T_mono (k_word sc Sl len tb rc G tn nc N rs re a1 a2 hIC hA (by omega) (by omega)) (fun v6897 S6898 h6899 => ?_)
          rcases h6899 with ⟨hv6900, hp6901, hf6902⟩
          rw [hv6900]
          have hmv6903 := hIR.fr (⟨hf6902.1, hf6902.2⟩ : X_Fr _ Sl S6898) (fun q h1 h2 => by omega)
          show X_T sc 203 (275, [(3, .int (iI i)), (2, .ref 530), (1, .ref 1), (0, .ref 0)], [.int (iI (X_qWd G a1 a2))], S6898) _
          refine T_p xr_203_275 xn_203 (pc' := 276) (ls' := [(3, .int (iI i)), (2, .ref 530), (1, .ref 1), (0, .ref 0)]) (st' := []) rfl ?_
          refine T_p xr_203_276 xn_203 (pc' := 277) (ls' := [(3, .int (iI i)), (2, .ref 530), (1, .ref 1), (0, .ref 0)]) (st' := [.ref 530]) rfl ?_
          refine T_p xr_203_277 xn_203 (pc' := 278) (ls' := [(3, .int (iI i)), (2, .ref 530), (1, .ref 1), (0, .ref 0)]) (st' := [.ref 0, .ref 530]) rfl ?_
          refine T_p xr_203_278 xn_203 (pc' := 279) (ls' := [(3, .int (iI i)), (2, .ref 530), (1, .ref 1), (0, .ref 0)]) (st' := [.int (iI i), .ref 0, .ref 530]) rfl ?_
          refine T_p xr_203_279 xn_203 (pc' := 280) (ls' := [(3, .int (iI i)), (2, .ref 530), (1, .ref 1), (0, .ref 0)]) (st' := [.int (iI 1), .int (iI i), .ref 0, .ref 530]) rfl ?_
          refine T_ziadd xr_203_280 (z := i + 1) rfl (pc' := 281) rfl ?_
          refine T_zsald xr_203_281 (pc' := 282) rfl ?_
          refine T_ie (y := iI a1) (by rw [ha1]) ?_
          refine T_p xr_203_282 xn_203 (pc' := 283) (ls' := [(3, .int (iI i)), (2, .ref 530), (1, .ref 1), (0, .ref 0)]) (st' := [.ref 0, .int (iI a1), .ref 530]) rfl ?_
          refine T_p xr_203_283 xn_203 (pc' := 284) (ls' := [(3, .int (iI i)), (2, .ref 530), (1, .ref 1), (0, .ref 0)]) (st' := [.int (iI i), .ref 0, .int (iI a1), .ref 530]) rfl ?_
          refine T_p xr_203_284 xn_203 (pc' := 285) (ls' := [(3, .int (iI i)), (2, .ref 530), (1, .ref 1), (0, .ref 0)]) (st' := [.int (iI 2), .int (iI i), .ref 0, .int (iI a1), .ref 530]) rfl ?_
          refine T_ziadd xr_203_285 (z := i + 2) rfl (pc' := 286) rfl ?_
          refine T_zsald xr_203_286 (pc' := 287) rfl ?_
          refine T_ie (y := iI a2) (by rw [ha2]) ?_
          obtain ⟨f6904, ho6905⟩ := hmv6903.o5
          refine T_cv (S := S6898) (q := 530) xr_203_287 xf_166.1 xf_166.2.1 xn_166 (as := [.int (iI a1), .int (iI a2)]) (r := []) rfl ho6905 (Nat.le_of_ble_eq_true rfl) (Nat.le_of_ble_eq_true rfl) (pc' := 290) rfl (ls' := [(0, .ref 530), (1, .int (iI a1)), (2, .int (iI a2))]) rfl ?_
          refine T_mono (m_word sc S6898 len tb rc G tn nc N rs re a1 a2 hmv6903 hA (by omega) (by omega)) (fun v6906 S6907 h6908 => ?_)
          rcases h6908 with ⟨hv6909, hp6910, hf6911⟩
          rw [hv6909]
          have hmv6912 := hp6901.fr (⟨hf6911.1, hf6911.2⟩ : X_Fr _ S6898 S6907) (fun q h1 h2 => by omega)
          show X_T sc 203 (290, [(3, .int (iI i)), (2, .ref 530), (1, .ref 1), (0, .ref 0)], [.int (iI (X_qWd G a1 a2))], S6907) _
          refine T_p xr_203_290 xn_203 (pc' := 291) (ls' := [(3, .int (iI i)), (2, .ref 530), (1, .ref 1), (0, .ref 0)]) (st' := []) rfl ?_
          refine T_p xr_203_291 xn_203 (pc' := 587) (ls' := [(3, .int (iI i)), (2, .ref 530), (1, .ref 1), (0, .ref 0)]) (st' := []) rfl ?_
          refine T_ziinc xr_203_587 xn_203 (a := i) (z := i + 6) rfl (Nat.le_of_ble_eq_true rfl) (by omega) (ls' := [(3, .int (iI (i + 6))), (2, .ref 530), (1, .ref 1), (0, .ref 0)]) rfl (pc' := 590) rfl ?_
          refine T_p xr_203_590 xn_203 (pc' := 18) (ls' := [(3, .int (iI (i + 6))), (2, .ref 530), (1, .ref 1), (0, .ref 0)]) (st' := []) rfl ?_
          exact ih6675 S6907 (i + 6) len tb rc G tn nc N rs re (hF6678.tr (((X_Fr.rf).tr (X_Fr.mono ⟨hf6902.1, hf6902.2⟩ (fun q hq => (by omega)))).tr (X_Fr.mono ⟨hf6911.1, hf6911.2⟩ (fun q hq => (by omega))))) (by omega) hA hmv6912 hp6910 (by omega)
        · skip
          refine T_tsk xr_203_33 cs6680 (by decide) (by decide) (off := 261) rfl (t := 294) rfl ?_
          refine T_p xr_203_294 xn_203 (pc' := 295) (ls' := [(3, .int (iI i)), (2, .ref 530), (1, .ref 1), (0, .ref 0)]) (st' := [.ref 1]) rfl ?_
          refine T_p xr_203_295 xn_203 (pc' := 296) (ls' := [(3, .int (iI i)), (2, .ref 530), (1, .ref 1), (0, .ref 0)]) (st' := [.ref 0, .ref 1]) rfl ?_
          refine T_p xr_203_296 xn_203 (pc' := 297) (ls' := [(3, .int (iI i)), (2, .ref 530), (1, .ref 1), (0, .ref 0)]) (st' := [.int (iI i), .ref 0, .ref 1]) rfl ?_
          refine T_p xr_203_297 xn_203 (pc' := 298) (ls' := [(3, .int (iI i)), (2, .ref 530), (1, .ref 1), (0, .ref 0)]) (st' := [.int (iI 1), .int (iI i), .ref 0, .ref 1]) rfl ?_
          refine T_ziadd xr_203_298 (z := i + 1) rfl (pc' := 299) rfl ?_
          refine T_zsald xr_203_299 (pc' := 300) rfl ?_
          refine T_ie (y := iI a1) (by rw [ha1]) ?_
          refine T_p xr_203_300 xn_203 (pc' := 301) (ls' := [(3, .int (iI i)), (2, .ref 530), (1, .ref 1), (0, .ref 0)]) (st' := [.ref 0, .int (iI a1), .ref 1]) rfl ?_
          refine T_p xr_203_301 xn_203 (pc' := 302) (ls' := [(3, .int (iI i)), (2, .ref 530), (1, .ref 1), (0, .ref 0)]) (st' := [.int (iI i), .ref 0, .int (iI a1), .ref 1]) rfl ?_
          refine T_p xr_203_302 xn_203 (pc' := 303) (ls' := [(3, .int (iI i)), (2, .ref 530), (1, .ref 1), (0, .ref 0)]) (st' := [.int (iI 2), .int (iI i), .ref 0, .int (iI a1), .ref 1]) rfl ?_
          refine T_ziadd xr_203_303 (z := i + 2) rfl (pc' := 304) rfl ?_
          refine T_zsald xr_203_304 (pc' := 305) rfl ?_
          refine T_ie (y := iI a2) (by rw [ha2]) ?_
          obtain ⟨f6913, ho6914⟩ := hIC.o1
          refine T_cv (S := Sl) (q := 1) xr_203_305 xf_119.1 xf_119.2.1 xn_119 (as := [.int (iI a1), .int (iI a2)]) (r := []) rfl ho6914 (Nat.le_of_ble_eq_true rfl) (Nat.le_of_ble_eq_true rfl) (pc' := 308) rfl (ls' := [(0, .ref 1), (1, .int (iI a1)), (2, .int (iI a2))]) rfl ?_
          refine T_mono (k_tighter sc Sl len tb rc G tn nc N rs re a1 a2 hIC hA (by omega) (by omega)) (fun v6915 S6916 h6917 => ?_)
          rcases h6917 with ⟨hv6918, hp6919, hf6920⟩
          rw [hv6918]
          have hmv6921 := hIR.fr (⟨hf6920.1, hf6920.2⟩ : X_Fr _ Sl S6916) (fun q h1 h2 => by omega)
          show X_T sc 203 (308, [(3, .int (iI i)), (2, .ref 530), (1, .ref 1), (0, .ref 0)], [.int (iI (X_qTi G rc a1 a2))], S6916) _
          refine T_p xr_203_308 xn_203 (pc' := 309) (ls' := [(3, .int (iI i)), (2, .ref 530), (1, .ref 1), (0, .ref 0)]) (st' := []) rfl ?_
          refine T_p xr_203_309 xn_203 (pc' := 310) (ls' := [(3, .int (iI i)), (2, .ref 530), (1, .ref 1), (0, .ref 0)]) (st' := [.ref 530]) rfl ?_
          refine T_p xr_203_310 xn_203 (pc' := 311) (ls' := [(3, .int (iI i)), (2, .ref 530), (1, .ref 1), (0, .ref 0)]) (st' := [.ref 0, .ref 530]) rfl ?_
          refine T_p xr_203_311 xn_203 (pc' := 312) (ls' := [(3, .int (iI i)), (2, .ref 530), (1, .ref 1), (0, .ref 0)]) (st' := [.int (iI i), .ref 0, .ref 530]) rfl ?_
          refine T_p xr_203_312 xn_203 (pc' := 313) (ls' := [(3, .int (iI i)), (2, .ref 530), (1, .ref 1), (0, .ref 0)]) (st' := [.int (iI 1), .int (iI i), .ref 0, .ref 530]) rfl ?_
          refine T_ziadd xr_203_313 (z := i + 1) rfl (pc' := 314) rfl ?_
          refine T_zsald xr_203_314 (pc' := 315) rfl ?_
          refine T_ie (y := iI a1) (by rw [ha1]) ?_
          refine T_p xr_203_315 xn_203 (pc' := 316) (ls' := [(3, .int (iI i)), (2, .ref 530), (1, .ref 1), (0, .ref 0)]) (st' := [.ref 0, .int (iI a1), .ref 530]) rfl ?_
          refine T_p xr_203_316 xn_203 (pc' := 317) (ls' := [(3, .int (iI i)), (2, .ref 530), (1, .ref 1), (0, .ref 0)]) (st' := [.int (iI i), .ref 0, .int (iI a1), .ref 530]) rfl ?_
          refine T_p xr_203_317 xn_203 (pc' := 318) (ls' := [(3, .int (iI i)), (2, .ref 530), (1, .ref 1), (0, .ref 0)]) (st' := [.int (iI 2), .int (iI i), .ref 0, .int (iI a1), .ref 530]) rfl ?_
          refine T_ziadd xr_203_318 (z := i + 2) rfl (pc' := 319) rfl ?_
          refine T_zsald xr_203_319 (pc' := 320) rfl ?_
          refine T_ie (y := iI a2) (by rw [ha2]) ?_
          obtain ⟨f6922, ho6923⟩ := hmv6921.o5
          refine T_cv (S := S6916) (q := 530) xr_203_320 xf_167.1 xf_167.2.1 xn_167 (as := [.int (iI a1), .int (iI a2)]) (r := []) rfl ho6923 (Nat.le_of_ble_eq_true rfl) (Nat.le_of_ble_eq_true rfl) (pc' := 323) rfl (ls' := [(0, .ref 530), (1, .int (iI a1)), (2, .int (iI a2))]) rfl ?_
          refine T_mono (m_tighter sc S6916 len tb rc G tn nc N rs re a1 a2 hmv6921 hA (by omega) (by omega)) (fun v6924 S6925 h6926 => ?_)
          rcases h6926 with ⟨hv6927, hp6928, hf6929⟩
          rw [hv6927]
          have hmv6930 := hp6919.fr (⟨hf6929.1, hf6929.2⟩ : X_Fr _ S6916 S6925) (fun q h1 h2 => by omega)
          show X_T sc 203 (323, [(3, .int (iI i)), (2, .ref 530), (1, .ref 1), (0, .ref 0)], [.int (iI (X_qTi G rc a1 a2))], S6925) _
          refine T_p xr_203_323 xn_203 (pc' := 324) (ls' := [(3, .int (iI i)), (2, .ref 530), (1, .ref 1), (0, .ref 0)]) (st' := []) rfl ?_
          refine T_p xr_203_324 xn_203 (pc' := 587) (ls' := [(3, .int (iI i)), (2, .ref 530), (1, .ref 1), (0, .ref 0)]) (st' := []) rfl ?_
          refine T_ziinc xr_203_587 xn_203 (a := i) (z := i + 6) rfl (Nat.le_of_ble_eq_true rfl) (by omega) (ls' := [(3, .int (iI (i + 6))), (2, .ref 530), (1, .ref 1), (0, .ref 0)]) rfl (pc' := 590) rfl ?_
          refine T_p xr_203_590 xn_203 (pc' := 18) (ls' := [(3, .int (iI (i + 6))), (2, .ref 530), (1, .ref 1), (0, .ref 0)]) (st' := []) rfl ?_
          exact ih6675 S6925 (i + 6) len tb rc G tn nc N rs re (hF6678.tr (((X_Fr.rf).tr (X_Fr.mono ⟨hf6920.1, hf6920.2⟩ (fun q hq => (by omega)))).tr (X_Fr.mono ⟨hf6929.1, hf6929.2⟩ (fun q hq => (by omega))))) (by omega) hA hmv6930 hp6928 (by omega)
        · skip
          refine T_tsk xr_203_33 cs6680 (by decide) (by decide) (off := 294) rfl (t := 327) rfl ?_
          refine T_p xr_203_327 xn_203 (pc' := 328) (ls' := [(3, .int (iI i)), (2, .ref 530), (1, .ref 1), (0, .ref 0)]) (st' := [.ref 1]) rfl ?_
          refine T_p xr_203_328 xn_203 (pc' := 329) (ls' := [(3, .int (iI i)), (2, .ref 530), (1, .ref 1), (0, .ref 0)]) (st' := [.ref 0, .ref 1]) rfl ?_
          refine T_p xr_203_329 xn_203 (pc' := 330) (ls' := [(3, .int (iI i)), (2, .ref 530), (1, .ref 1), (0, .ref 0)]) (st' := [.int (iI i), .ref 0, .ref 1]) rfl ?_
          refine T_p xr_203_330 xn_203 (pc' := 331) (ls' := [(3, .int (iI i)), (2, .ref 530), (1, .ref 1), (0, .ref 0)]) (st' := [.int (iI 1), .int (iI i), .ref 0, .ref 1]) rfl ?_
          refine T_ziadd xr_203_331 (z := i + 1) rfl (pc' := 332) rfl ?_
          refine T_zsald xr_203_332 (pc' := 333) rfl ?_
          refine T_ie (y := iI a1) (by rw [ha1]) ?_
          refine T_p xr_203_333 xn_203 (pc' := 334) (ls' := [(3, .int (iI i)), (2, .ref 530), (1, .ref 1), (0, .ref 0)]) (st' := [.ref 0, .int (iI a1), .ref 1]) rfl ?_
          refine T_p xr_203_334 xn_203 (pc' := 335) (ls' := [(3, .int (iI i)), (2, .ref 530), (1, .ref 1), (0, .ref 0)]) (st' := [.int (iI i), .ref 0, .int (iI a1), .ref 1]) rfl ?_
          refine T_p xr_203_335 xn_203 (pc' := 336) (ls' := [(3, .int (iI i)), (2, .ref 530), (1, .ref 1), (0, .ref 0)]) (st' := [.int (iI 2), .int (iI i), .ref 0, .int (iI a1), .ref 1]) rfl ?_
          refine T_ziadd xr_203_336 (z := i + 2) rfl (pc' := 337) rfl ?_
          refine T_zsald xr_203_337 (pc' := 338) rfl ?_
          refine T_ie (y := iI a2) (by rw [ha2]) ?_
          obtain ⟨f6931, ho6932⟩ := hIC.o1
          refine T_cv (S := Sl) (q := 1) xr_203_338 xf_120.1 xf_120.2.1 xn_120 (as := [.int (iI a1), .int (iI a2)]) (r := []) rfl ho6932 (Nat.le_of_ble_eq_true rfl) (Nat.le_of_ble_eq_true rfl) (pc' := 341) rfl (ls' := [(0, .ref 1), (1, .int (iI a1)), (2, .int (iI a2))]) rfl ?_
          refine T_mono (k_under sc Sl len tb rc G tn nc N rs re a1 a2 hIC hA (by omega) (by omega)) (fun v6933 S6934 h6935 => ?_)
          rcases h6935 with ⟨hv6936, hp6937, hf6938⟩
          rw [hv6936]
          have hmv6939 := hIR.fr (⟨hf6938.1, hf6938.2⟩ : X_Fr _ Sl S6934) (fun q h1 h2 => by omega)
          show X_T sc 203 (341, [(3, .int (iI i)), (2, .ref 530), (1, .ref 1), (0, .ref 0)], [.int (iI (X_qUn G a1 a2))], S6934) _
          refine T_p xr_203_341 xn_203 (pc' := 342) (ls' := [(3, .int (iI i)), (2, .ref 530), (1, .ref 1), (0, .ref 0)]) (st' := []) rfl ?_
          refine T_p xr_203_342 xn_203 (pc' := 343) (ls' := [(3, .int (iI i)), (2, .ref 530), (1, .ref 1), (0, .ref 0)]) (st' := [.ref 530]) rfl ?_
          refine T_p xr_203_343 xn_203 (pc' := 344) (ls' := [(3, .int (iI i)), (2, .ref 530), (1, .ref 1), (0, .ref 0)]) (st' := [.ref 0, .ref 530]) rfl ?_
          refine T_p xr_203_344 xn_203 (pc' := 345) (ls' := [(3, .int (iI i)), (2, .ref 530), (1, .ref 1), (0, .ref 0)]) (st' := [.int (iI i), .ref 0, .ref 530]) rfl ?_
          refine T_p xr_203_345 xn_203 (pc' := 346) (ls' := [(3, .int (iI i)), (2, .ref 530), (1, .ref 1), (0, .ref 0)]) (st' := [.int (iI 1), .int (iI i), .ref 0, .ref 530]) rfl ?_
          refine T_ziadd xr_203_346 (z := i + 1) rfl (pc' := 347) rfl ?_
          refine T_zsald xr_203_347 (pc' := 348) rfl ?_
          refine T_ie (y := iI a1) (by rw [ha1]) ?_
          refine T_p xr_203_348 xn_203 (pc' := 349) (ls' := [(3, .int (iI i)), (2, .ref 530), (1, .ref 1), (0, .ref 0)]) (st' := [.ref 0, .int (iI a1), .ref 530]) rfl ?_
          refine T_p xr_203_349 xn_203 (pc' := 350) (ls' := [(3, .int (iI i)), (2, .ref 530), (1, .ref 1), (0, .ref 0)]) (st' := [.int (iI i), .ref 0, .int (iI a1), .ref 530]) rfl ?_
          refine T_p xr_203_350 xn_203 (pc' := 351) (ls' := [(3, .int (iI i)), (2, .ref 530), (1, .ref 1), (0, .ref 0)]) (st' := [.int (iI 2), .int (iI i), .ref 0, .int (iI a1), .ref 530]) rfl ?_
          refine T_ziadd xr_203_351 (z := i + 2) rfl (pc' := 352) rfl ?_
          refine T_zsald xr_203_352 (pc' := 353) rfl ?_
          refine T_ie (y := iI a2) (by rw [ha2]) ?_
          obtain ⟨f6940, ho6941⟩ := hmv6939.o5
          refine T_cv (S := S6934) (q := 530) xr_203_353 xf_169.1 xf_169.2.1 xn_169 (as := [.int (iI a1), .int (iI a2)]) (r := []) rfl ho6941 (Nat.le_of_ble_eq_true rfl) (Nat.le_of_ble_eq_true rfl) (pc' := 356) rfl (ls' := [(0, .ref 530), (1, .int (iI a1)), (2, .int (iI a2))]) rfl ?_
          refine T_mono (m_under sc S6934 len tb rc G tn nc N rs re a1 a2 hmv6939 hA (by omega) (by omega)) (fun v6942 S6943 h6944 => ?_)
          rcases h6944 with ⟨hv6945, hp6946, hf6947⟩
          rw [hv6945]
          have hmv6948 := hp6937.fr (⟨hf6947.1, hf6947.2⟩ : X_Fr _ S6934 S6943) (fun q h1 h2 => by omega)
          show X_T sc 203 (356, [(3, .int (iI i)), (2, .ref 530), (1, .ref 1), (0, .ref 0)], [.int (iI (X_qUn G a1 a2))], S6943) _
          refine T_p xr_203_356 xn_203 (pc' := 357) (ls' := [(3, .int (iI i)), (2, .ref 530), (1, .ref 1), (0, .ref 0)]) (st' := []) rfl ?_
          refine T_p xr_203_357 xn_203 (pc' := 587) (ls' := [(3, .int (iI i)), (2, .ref 530), (1, .ref 1), (0, .ref 0)]) (st' := []) rfl ?_
          refine T_ziinc xr_203_587 xn_203 (a := i) (z := i + 6) rfl (Nat.le_of_ble_eq_true rfl) (by omega) (ls' := [(3, .int (iI (i + 6))), (2, .ref 530), (1, .ref 1), (0, .ref 0)]) rfl (pc' := 590) rfl ?_
          refine T_p xr_203_590 xn_203 (pc' := 18) (ls' := [(3, .int (iI (i + 6))), (2, .ref 530), (1, .ref 1), (0, .ref 0)]) (st' := []) rfl ?_
          exact ih6675 S6943 (i + 6) len tb rc G tn nc N rs re (hF6678.tr (((X_Fr.rf).tr (X_Fr.mono ⟨hf6938.1, hf6938.2⟩ (fun q hq => (by omega)))).tr (X_Fr.mono ⟨hf6947.1, hf6947.2⟩ (fun q hq => (by omega))))) (by omega) hA hmv6948 hp6946 (by omega)
        · skip
          refine T_tsk xr_203_33 cs6680 (by decide) (by decide) (off := 327) rfl (t := 360) rfl ?_
          refine T_p xr_203_360 xn_203 (pc' := 361) (ls' := [(3, .int (iI i)), (2, .ref 530), (1, .ref 1), (0, .ref 0)]) (st' := [.ref 1]) rfl ?_
          obtain ⟨f6949, ho6950⟩ := hIC.o1
          refine T_cv (S := Sl) (q := 1) xr_203_361 xf_121.1 xf_121.2.1 xn_121 (as := []) (r := []) rfl ho6950 (Nat.le_of_ble_eq_true rfl) (Nat.le_of_ble_eq_true rfl) (pc' := 364) rfl (ls' := [(0, .ref 1)]) rfl ?_
          refine T_mono (k_sentence sc Sl len tb rc G tn nc N rs re hIC hA) (fun v6951 S6952 h6953 => ?_)
          rcases h6953 with ⟨hv6954, hp6955, hp6956, hf6957⟩ | ⟨n6958, z6959, t6960, ot6961, hv6962, hp6963, hp6964, hp6965, hp6966, hf6967⟩
          · skip
            rw [hv6954]
            have hmv6968 := hIR.fr (⟨hf6957.1, hf6957.2⟩ : X_Fr _ Sl S6952) (fun q h1 h2 => by omega)
            show X_T sc 203 (364, [(3, .int (iI i)), (2, .ref 530), (1, .ref 1), (0, .ref 0)], [.int (iI (-1))], S6952) _
            refine T_p xr_203_364 xn_203 (pc' := 365) (ls' := [(3, .int (iI i)), (2, .ref 530), (1, .ref 1), (0, .ref 0)]) (st' := []) rfl ?_
            refine T_p xr_203_365 xn_203 (pc' := 366) (ls' := [(3, .int (iI i)), (2, .ref 530), (1, .ref 1), (0, .ref 0)]) (st' := [.ref 530]) rfl ?_
            obtain ⟨f6970, ho6971⟩ := hmv6968.o5
            refine T_cv (S := S6952) (q := 530) xr_203_366 xf_170.1 xf_170.2.1 xn_170 (as := []) (r := []) rfl ho6971 (Nat.le_of_ble_eq_true rfl) (Nat.le_of_ble_eq_true rfl) (pc' := 369) rfl (ls' := [(0, .ref 530)]) rfl ?_
            refine T_mono (m_sentence sc S6952 len tb rc G tn nc N rs re (fun _ => 0) hmv6968 hA (fun n2 z2 t2 hs => absurd (hp6955.symm.trans hs) (by simp))) (fun v6972 S6973 h6974 => ?_)
            rcases h6974 with ⟨hv6975, hp6976, hp6977, hf6978⟩ | ⟨n6979, z6980, t6981, hv6982, hp6983, hp6984, hp6985, hf6986⟩
            · skip
              rw [hv6975]
              have hmv6987 := hp6956.fr (⟨hf6978.1, hf6978.2⟩ : X_Fr _ S6952 S6973) (fun q h1 h2 => by omega)
              show X_T sc 203 (369, [(3, .int (iI i)), (2, .ref 530), (1, .ref 1), (0, .ref 0)], [.int (iI (-1))], S6973) _
              refine T_p xr_203_369 xn_203 (pc' := 370) (ls' := [(3, .int (iI i)), (2, .ref 530), (1, .ref 1), (0, .ref 0)]) (st' := []) rfl ?_
              refine T_p xr_203_370 xn_203 (pc' := 587) (ls' := [(3, .int (iI i)), (2, .ref 530), (1, .ref 1), (0, .ref 0)]) (st' := []) rfl ?_
              refine T_ziinc xr_203_587 xn_203 (a := i) (z := i + 6) rfl (Nat.le_of_ble_eq_true rfl) (by omega) (ls' := [(3, .int (iI (i + 6))), (2, .ref 530), (1, .ref 1), (0, .ref 0)]) rfl (pc' := 590) rfl ?_
              refine T_p xr_203_590 xn_203 (pc' := 18) (ls' := [(3, .int (iI (i + 6))), (2, .ref 530), (1, .ref 1), (0, .ref 0)]) (st' := []) rfl ?_
              exact ih6675 S6973 (i + 6) 0 tb rc G tn nc N rs re (hF6678.tr (((X_Fr.rf).tr (X_Fr.mono ⟨hf6957.1, hf6957.2⟩ (fun q hq => (by omega)))).tr (X_Fr.mono ⟨hf6978.1, hf6978.2⟩ (fun q hq => (by omega))))) (by omega) (hA.len (by have := hA.1; omega)) hmv6987 hp6977 (by omega)
            · skip
              rw [hv6982]
              have hmv6988 := hp6956.fr (⟨hf6986.1, hf6986.2⟩ : X_Fr _ S6952 S6973) (fun q h1 h2 => by omega)
              show X_T sc 203 (369, [(3, .int (iI i)), (2, .ref 530), (1, .ref 1), (0, .ref 0)], [.int (iI n6979)], S6973) _
              exact absurd (hp6955.symm.trans hp6983) (by simp)
          · skip
            rw [hv6962]
            have hmv6969 := hIR.fr (⟨hf6967.1, hf6967.2⟩ : X_Fr _ Sl S6952) (fun q h1 h2 => by omega)
            show X_T sc 203 (364, [(3, .int (iI i)), (2, .ref 530), (1, .ref 1), (0, .ref 0)], [.int (iI n6958)], S6952) _
            refine T_p xr_203_364 xn_203 (pc' := 365) (ls' := [(3, .int (iI i)), (2, .ref 530), (1, .ref 1), (0, .ref 0)]) (st' := []) rfl ?_
            refine T_p xr_203_365 xn_203 (pc' := 366) (ls' := [(3, .int (iI i)), (2, .ref 530), (1, .ref 1), (0, .ref 0)]) (st' := [.ref 530]) rfl ?_
            obtain ⟨f6989, ho6990⟩ := hmv6969.o5
            refine T_cv (S := S6952) (q := 530) xr_203_366 xf_170.1 xf_170.2.1 xn_170 (as := []) (r := []) rfl ho6990 (Nat.le_of_ble_eq_true rfl) (Nat.le_of_ble_eq_true rfl) (pc' := 369) rfl (ls' := [(0, .ref 530)]) rfl ?_
            refine T_mono (m_sentence sc S6952 len tb rc G tn nc N rs re ot6961 hmv6969 hA (fun n2 z2 t2 hs i h1 h2 => by
                  have z := hp6963.symm.trans hs
                  simp only [Option.some.injEq, Prod.mk.injEq] at z
                  rw [← z.2.2]
                  exact hp6965 i h1 (by rw [z.1]; exact h2))) (fun v6991 S6992 h6993 => ?_)
            rcases h6993 with ⟨hv6994, hp6995, hp6996, hf6997⟩ | ⟨n6998, z6999, t7000, hv7001, hp7002, hp7003, hp7004, hf7005⟩
            · skip
              rw [hv6994]
              have hmv7006 := hp6966.fr (⟨hf6997.1, hf6997.2⟩ : X_Fr _ S6952 S6992) (fun q h1 h2 => by omega)
              show X_T sc 203 (369, [(3, .int (iI i)), (2, .ref 530), (1, .ref 1), (0, .ref 0)], [.int (iI (-1))], S6992) _
              exact absurd (hp6963.symm.trans hp6995) (by simp)
            · skip
              rw [hv7001]
              have hmv7007 := hp6966.fr (⟨hf7005.1, hf7005.2⟩ : X_Fr _ S6952 S6992) (fun q h1 h2 => by omega)
              show X_T sc 203 (369, [(3, .int (iI i)), (2, .ref 530), (1, .ref 1), (0, .ref 0)], [.int (iI n6998)], S6992) _
              have hz := hp6963.symm.trans hp7002
              simp only [Option.some.injEq, Prod.mk.injEq] at hz
              have hir7008 := hp7004
              rw [← hz.1] at hir7008
              refine T_p xr_203_369 xn_203 (pc' := 370) (ls' := [(3, .int (iI i)), (2, .ref 530), (1, .ref 1), (0, .ref 0)]) (st' := []) rfl ?_
              refine T_p xr_203_370 xn_203 (pc' := 587) (ls' := [(3, .int (iI i)), (2, .ref 530), (1, .ref 1), (0, .ref 0)]) (st' := []) rfl ?_
              refine T_ziinc xr_203_587 xn_203 (a := i) (z := i + 6) rfl (Nat.le_of_ble_eq_true rfl) (by omega) (ls' := [(3, .int (iI (i + 6))), (2, .ref 530), (1, .ref 1), (0, .ref 0)]) rfl (pc' := 590) rfl ?_
              refine T_p xr_203_590 xn_203 (pc' := 18) (ls' := [(3, .int (iI (i + 6))), (2, .ref 530), (1, .ref 1), (0, .ref 0)]) (st' := []) rfl ?_
              exact ih6675 S6992 (i + 6) 0 tb rc (X_Gt G ot6961) n6958 0 N 0 (-1) (hF6678.tr (((X_Fr.rf).tr (X_Fr.mono ⟨hf6967.1, hf6967.2⟩ (fun q hq => (by omega)))).tr (X_Fr.mono ⟨hf7005.1, hf7005.2⟩ (fun q hq => (by omega))))) (by omega) (hA.text hp6964) hmv7007 hir7008 (by omega)
        · skip
          refine T_tsk xr_203_33 cs6680 (by decide) (by decide) (off := 340) rfl (t := 373) rfl ?_
          refine T_p xr_203_373 xn_203 (pc' := 374) (ls' := [(3, .int (iI i)), (2, .ref 530), (1, .ref 1), (0, .ref 0)]) (st' := [.ref 1]) rfl ?_
          refine T_p xr_203_374 xn_203 (pc' := 375) (ls' := [(3, .int (iI i)), (2, .ref 530), (1, .ref 1), (0, .ref 0)]) (st' := [.ref 0, .ref 1]) rfl ?_
          refine T_p xr_203_375 xn_203 (pc' := 376) (ls' := [(3, .int (iI i)), (2, .ref 530), (1, .ref 1), (0, .ref 0)]) (st' := [.int (iI i), .ref 0, .ref 1]) rfl ?_
          refine T_p xr_203_376 xn_203 (pc' := 377) (ls' := [(3, .int (iI i)), (2, .ref 530), (1, .ref 1), (0, .ref 0)]) (st' := [.int (iI 1), .int (iI i), .ref 0, .ref 1]) rfl ?_
          refine T_ziadd xr_203_377 (z := i + 1) rfl (pc' := 378) rfl ?_
          refine T_zsald xr_203_378 (pc' := 379) rfl ?_
          refine T_ie (y := iI a1) (by rw [ha1]) ?_
          refine T_p xr_203_379 xn_203 (pc' := 380) (ls' := [(3, .int (iI i)), (2, .ref 530), (1, .ref 1), (0, .ref 0)]) (st' := [.ref 0, .int (iI a1), .ref 1]) rfl ?_
          refine T_p xr_203_380 xn_203 (pc' := 381) (ls' := [(3, .int (iI i)), (2, .ref 530), (1, .ref 1), (0, .ref 0)]) (st' := [.int (iI i), .ref 0, .int (iI a1), .ref 1]) rfl ?_
          refine T_p xr_203_381 xn_203 (pc' := 382) (ls' := [(3, .int (iI i)), (2, .ref 530), (1, .ref 1), (0, .ref 0)]) (st' := [.int (iI 2), .int (iI i), .ref 0, .int (iI a1), .ref 1]) rfl ?_
          refine T_ziadd xr_203_382 (z := i + 2) rfl (pc' := 383) rfl ?_
          refine T_zsald xr_203_383 (pc' := 384) rfl ?_
          refine T_ie (y := iI a2) (by rw [ha2]) ?_
          obtain ⟨f7009, ho7010⟩ := hIC.o1
          refine T_cv (S := Sl) (q := 1) xr_203_384 xf_122.1 xf_122.2.1 xn_122 (as := [.int (iI a1), .int (iI a2)]) (r := []) rfl ho7010 (Nat.le_of_ble_eq_true rfl) (Nat.le_of_ble_eq_true rfl) (pc' := 387) rfl (ls' := [(0, .ref 1), (1, .int (iI a1)), (2, .int (iI a2))]) rfl ?_
          refine T_mono (k_count sc Sl len tb rc G tn nc N rs re a1 a2 hIC hA (by omega) (by omega)) (fun v7011 S7012 h7013 => ?_)
          rcases h7013 with ⟨hv7014, hp7015, hf7016⟩
          rw [hv7014]
          have hmv7017 := hIR.fr (⟨hf7016.1, hf7016.2⟩ : X_Fr _ Sl S7012) (fun q h1 h2 => by omega)
          show X_T sc 203 (387, [(3, .int (iI i)), (2, .ref 530), (1, .ref 1), (0, .ref 0)], [.long (X_qCt G tn a1 a2)], S7012) _
          refine T_p xr_203_387 xn_203 (pc' := 388) (ls' := [(3, .int (iI i)), (2, .ref 530), (1, .ref 1), (0, .ref 0)]) (st' := []) rfl ?_
          refine T_p xr_203_388 xn_203 (pc' := 389) (ls' := [(3, .int (iI i)), (2, .ref 530), (1, .ref 1), (0, .ref 0)]) (st' := [.ref 530]) rfl ?_
          refine T_p xr_203_389 xn_203 (pc' := 390) (ls' := [(3, .int (iI i)), (2, .ref 530), (1, .ref 1), (0, .ref 0)]) (st' := [.ref 0, .ref 530]) rfl ?_
          refine T_p xr_203_390 xn_203 (pc' := 391) (ls' := [(3, .int (iI i)), (2, .ref 530), (1, .ref 1), (0, .ref 0)]) (st' := [.int (iI i), .ref 0, .ref 530]) rfl ?_
          refine T_p xr_203_391 xn_203 (pc' := 392) (ls' := [(3, .int (iI i)), (2, .ref 530), (1, .ref 1), (0, .ref 0)]) (st' := [.int (iI 1), .int (iI i), .ref 0, .ref 530]) rfl ?_
          refine T_ziadd xr_203_392 (z := i + 1) rfl (pc' := 393) rfl ?_
          refine T_zsald xr_203_393 (pc' := 394) rfl ?_
          refine T_ie (y := iI a1) (by rw [ha1]) ?_
          refine T_p xr_203_394 xn_203 (pc' := 395) (ls' := [(3, .int (iI i)), (2, .ref 530), (1, .ref 1), (0, .ref 0)]) (st' := [.ref 0, .int (iI a1), .ref 530]) rfl ?_
          refine T_p xr_203_395 xn_203 (pc' := 396) (ls' := [(3, .int (iI i)), (2, .ref 530), (1, .ref 1), (0, .ref 0)]) (st' := [.int (iI i), .ref 0, .int (iI a1), .ref 530]) rfl ?_
          refine T_p xr_203_396 xn_203 (pc' := 397) (ls' := [(3, .int (iI i)), (2, .ref 530), (1, .ref 1), (0, .ref 0)]) (st' := [.int (iI 2), .int (iI i), .ref 0, .int (iI a1), .ref 530]) rfl ?_
          refine T_ziadd xr_203_397 (z := i + 2) rfl (pc' := 398) rfl ?_
          refine T_zsald xr_203_398 (pc' := 399) rfl ?_
          refine T_ie (y := iI a2) (by rw [ha2]) ?_
          obtain ⟨f7018, ho7019⟩ := hmv7017.o5
          refine T_cv (S := S7012) (q := 530) xr_203_399 xf_183.1 xf_183.2.1 xn_183 (as := [.int (iI a1), .int (iI a2)]) (r := []) rfl ho7019 (Nat.le_of_ble_eq_true rfl) (Nat.le_of_ble_eq_true rfl) (pc' := 402) rfl (ls' := [(0, .ref 530), (1, .int (iI a1)), (2, .int (iI a2))]) rfl ?_
          refine T_mono (m_count sc S7012 len tb rc G tn nc N rs re a1 a2 hmv7017 hA (by omega) (by omega)) (fun v7020 S7021 h7022 => ?_)
          rcases h7022 with ⟨hv7023, hp7024, hf7025⟩
          rw [hv7023]
          have hmv7026 := hp7015.fr (⟨hf7025.1, hf7025.2⟩ : X_Fr _ S7012 S7021) (fun q h1 h2 => by omega)
          show X_T sc 203 (402, [(3, .int (iI i)), (2, .ref 530), (1, .ref 1), (0, .ref 0)], [.long (X_qCt G tn a1 a2)], S7021) _
          refine T_p xr_203_402 xn_203 (pc' := 403) (ls' := [(3, .int (iI i)), (2, .ref 530), (1, .ref 1), (0, .ref 0)]) (st' := []) rfl ?_
          refine T_p xr_203_403 xn_203 (pc' := 587) (ls' := [(3, .int (iI i)), (2, .ref 530), (1, .ref 1), (0, .ref 0)]) (st' := []) rfl ?_
          refine T_ziinc xr_203_587 xn_203 (a := i) (z := i + 6) rfl (Nat.le_of_ble_eq_true rfl) (by omega) (ls' := [(3, .int (iI (i + 6))), (2, .ref 530), (1, .ref 1), (0, .ref 0)]) rfl (pc' := 590) rfl ?_
          refine T_p xr_203_590 xn_203 (pc' := 18) (ls' := [(3, .int (iI (i + 6))), (2, .ref 530), (1, .ref 1), (0, .ref 0)]) (st' := []) rfl ?_
          exact ih6675 S7021 (i + 6) len tb rc G tn nc N rs re (hF6678.tr (((X_Fr.rf).tr (X_Fr.mono ⟨hf7016.1, hf7016.2⟩ (fun q hq => (by omega)))).tr (X_Fr.mono ⟨hf7025.1, hf7025.2⟩ (fun q hq => (by omega))))) (by omega) hA hmv7026 hp7024 (by omega)
        · skip
          refine T_tsk xr_203_33 cs6680 (by decide) (by decide) (off := 373) rfl (t := 406) rfl ?_
          refine T_p xr_203_406 xn_203 (pc' := 407) (ls' := [(3, .int (iI i)), (2, .ref 530), (1, .ref 1), (0, .ref 0)]) (st' := [.ref 1]) rfl ?_
          obtain ⟨f7027, ho7028⟩ := hIC.o1
          refine T_cv (S := Sl) (q := 1) xr_203_407 xf_123.1 xf_123.2.1 xn_123 (as := []) (r := []) rfl ho7028 (Nat.le_of_ble_eq_true rfl) (Nat.le_of_ble_eq_true rfl) (pc' := 410) rfl (ls' := [(0, .ref 1)]) rfl ?_
          refine T_mono (k_quarrel sc Sl len tb rc G tn nc N rs re hIC hA) (fun v7029 S7030 h7031 => ?_)
          rcases h7031 with ⟨r7032, hv7033, hp7034, hp7035, hf7036⟩
          rw [hv7033]
          have hmv7037 := hIR.fr (⟨hf7036.1, hf7036.2⟩ : X_Fr _ Sl S7030) (fun q h1 h2 => by omega)
          show X_T sc 203 (410, [(3, .int (iI i)), (2, .ref 530), (1, .ref 1), (0, .ref 0)], [.int (iI r7032)], S7030) _
          refine T_p xr_203_410 xn_203 (pc' := 411) (ls' := [(3, .int (iI i)), (2, .ref 530), (1, .ref 1), (0, .ref 0)]) (st' := []) rfl ?_
          refine T_p xr_203_411 xn_203 (pc' := 412) (ls' := [(3, .int (iI i)), (2, .ref 530), (1, .ref 1), (0, .ref 0)]) (st' := [.ref 530]) rfl ?_
          obtain ⟨f7038, ho7039⟩ := hmv7037.o5
          refine T_cv (S := S7030) (q := 530) xr_203_412 xf_184.1 xf_184.2.1 xn_184 (as := []) (r := []) rfl ho7039 (Nat.le_of_ble_eq_true rfl) (Nat.le_of_ble_eq_true rfl) (pc' := 415) rfl (ls' := [(0, .ref 530)]) rfl ?_
          refine T_mono (m_quarrel sc S7030 len tb rc G tn nc N rs re hmv7037 hA) (fun v7040 S7041 h7042 => ?_)
          rcases h7042 with ⟨r7043, hv7044, hp7045, hp7046, hf7047⟩
          rw [hv7044]
          have hmv7048 := hp7035.fr (⟨hf7047.1, hf7047.2⟩ : X_Fr _ S7030 S7041) (fun q h1 h2 => by omega)
          show X_T sc 203 (415, [(3, .int (iI i)), (2, .ref 530), (1, .ref 1), (0, .ref 0)], [.int (iI r7043)], S7041) _
          refine T_p xr_203_415 xn_203 (pc' := 416) (ls' := [(3, .int (iI i)), (2, .ref 530), (1, .ref 1), (0, .ref 0)]) (st' := []) rfl ?_
          refine T_p xr_203_416 xn_203 (pc' := 587) (ls' := [(3, .int (iI i)), (2, .ref 530), (1, .ref 1), (0, .ref 0)]) (st' := []) rfl ?_
          refine T_ziinc xr_203_587 xn_203 (a := i) (z := i + 6) rfl (Nat.le_of_ble_eq_true rfl) (by omega) (ls' := [(3, .int (iI (i + 6))), (2, .ref 530), (1, .ref 1), (0, .ref 0)]) rfl (pc' := 590) rfl ?_
          refine T_p xr_203_590 xn_203 (pc' := 18) (ls' := [(3, .int (iI (i + 6))), (2, .ref 530), (1, .ref 1), (0, .ref 0)]) (st' := []) rfl ?_
          exact ih6675 S7041 (i + 6) len tb rc G tn nc N rs re (hF6678.tr (((X_Fr.rf).tr (X_Fr.mono ⟨hf7036.1, hf7036.2⟩ (fun q hq => (by omega)))).tr (X_Fr.mono ⟨hf7047.1, hf7047.2⟩ (fun q hq => (by omega))))) (by omega) hA hmv7048 hp7046 (by omega)
        · skip
          refine T_tsk xr_203_33 cs6680 (by decide) (by decide) (off := 386) rfl (t := 419) rfl ?_
          refine T_p xr_203_419 xn_203 (pc' := 420) (ls' := [(3, .int (iI i)), (2, .ref 530), (1, .ref 1), (0, .ref 0)]) (st' := [.ref 1]) rfl ?_
          refine T_p xr_203_420 xn_203 (pc' := 421) (ls' := [(3, .int (iI i)), (2, .ref 530), (1, .ref 1), (0, .ref 0)]) (st' := [.ref 0, .ref 1]) rfl ?_
          refine T_p xr_203_421 xn_203 (pc' := 422) (ls' := [(3, .int (iI i)), (2, .ref 530), (1, .ref 1), (0, .ref 0)]) (st' := [.int (iI i), .ref 0, .ref 1]) rfl ?_
          refine T_p xr_203_422 xn_203 (pc' := 423) (ls' := [(3, .int (iI i)), (2, .ref 530), (1, .ref 1), (0, .ref 0)]) (st' := [.int (iI 1), .int (iI i), .ref 0, .ref 1]) rfl ?_
          refine T_ziadd xr_203_423 (z := i + 1) rfl (pc' := 424) rfl ?_
          refine T_zsald xr_203_424 (pc' := 425) rfl ?_
          refine T_ie (y := iI a1) (by rw [ha1]) ?_
          refine T_p xr_203_425 xn_203 (pc' := 426) (ls' := [(3, .int (iI i)), (2, .ref 530), (1, .ref 1), (0, .ref 0)]) (st' := [.long ((iI a1).toInt64), .ref 1]) rfl ?_
          refine T_p xr_203_426 xn_203 (pc' := 428) (ls' := [(3, .int (iI i)), (2, .ref 530), (1, .ref 1), (0, .ref 0)]) (st' := [.int (iI 32), .long ((iI a1).toInt64), .ref 1]) rfl ?_
          refine T_p xr_203_428 xn_203 (pc' := 429) (ls' := [(3, .int (iI i)), (2, .ref 530), (1, .ref 1), (0, .ref 0)]) (st' := [.long (((iI a1).toInt64) <<< ((iI 32).toInt64 &&& 63)), .ref 1]) rfl ?_
          refine T_p xr_203_429 xn_203 (pc' := 430) (ls' := [(3, .int (iI i)), (2, .ref 530), (1, .ref 1), (0, .ref 0)]) (st' := [.ref 0, .long (((iI a1).toInt64) <<< ((iI 32).toInt64 &&& 63)), .ref 1]) rfl ?_
          refine T_p xr_203_430 xn_203 (pc' := 431) (ls' := [(3, .int (iI i)), (2, .ref 530), (1, .ref 1), (0, .ref 0)]) (st' := [.int (iI i), .ref 0, .long (((iI a1).toInt64) <<< ((iI 32).toInt64 &&& 63)), .ref 1]) rfl ?_
          refine T_p xr_203_431 xn_203 (pc' := 432) (ls' := [(3, .int (iI i)), (2, .ref 530), (1, .ref 1), (0, .ref 0)]) (st' := [.int (iI 2), .int (iI i), .ref 0, .long (((iI a1).toInt64) <<< ((iI 32).toInt64 &&& 63)), .ref 1]) rfl ?_
          refine T_ziadd xr_203_432 (z := i + 2) rfl (pc' := 433) rfl ?_
          refine T_zsald xr_203_433 (pc' := 434) rfl ?_
          refine T_ie (y := iI a2) (by rw [ha2]) ?_
          refine T_p xr_203_434 xn_203 (pc' := 435) (ls' := [(3, .int (iI i)), (2, .ref 530), (1, .ref 1), (0, .ref 0)]) (st' := [.long ((iI a2).toInt64), .long (((iI a1).toInt64) <<< ((iI 32).toInt64 &&& 63)), .ref 1]) rfl ?_
          refine T_p xr_203_435 xn_203 (pc' := 438) (ls' := [(3, .int (iI i)), (2, .ref 530), (1, .ref 1), (0, .ref 0)]) (st' := [.long (iL 4294967295), .long ((iI a2).toInt64), .long (((iI a1).toInt64) <<< ((iI 32).toInt64 &&& 63)), .ref 1]) rfl ?_
          refine T_p xr_203_438 xn_203 (pc' := 439) (ls' := [(3, .int (iI i)), (2, .ref 530), (1, .ref 1), (0, .ref 0)]) (st' := [.long (((iI a2).toInt64) &&& (iL 4294967295)), .long (((iI a1).toInt64) <<< ((iI 32).toInt64 &&& 63)), .ref 1]) rfl ?_
          refine T_p xr_203_439 xn_203 (pc' := 440) (ls' := [(3, .int (iI i)), (2, .ref 530), (1, .ref 1), (0, .ref 0)]) (st' := [.long ((((iI a1).toInt64) <<< ((iI 32).toInt64 &&& 63)) ||| (((iI a2).toInt64) &&& (iL 4294967295))), .ref 1]) rfl ?_
          obtain ⟨kk, hkk⟩ : ∃ kk : Int, kk = ((((((iI a1).toInt64) <<< ((iI 32).toInt64 &&& 63)) ||| (((iI a2).toInt64) &&& (iL 4294967295)))) : Int64).toInt := ⟨_, rfl⟩
          have hkr : -9223372036854775808 ≤ kk ∧ kk ≤ 9223372036854775807 := by rw [hkk]; exact ⟨Int64.le_toInt _, by have := Int64.toInt_lt (((((iI a1).toInt64) <<< ((iI 32).toInt64 &&& 63)) ||| (((iI a2).toInt64) &&& (iL 4294967295)))); omega⟩
          refine T_le (y := (iL kk)) (by rw [hkk]; exact (Int64.ofInt_toInt _).symm) ?_
          obtain ⟨f7049, ho7050⟩ := hIC.o1
          refine T_cv (S := Sl) (q := 1) xr_203_440 xf_124.1 xf_124.2.1 xn_124 (as := [.long (iL kk)]) (r := []) rfl ho7050 (Nat.le_of_ble_eq_true rfl) (Nat.le_of_ble_eq_true rfl) (pc' := 443) rfl (ls' := [(0, .ref 1), (1, .long (iL kk))]) rfl ?_
          refine T_mono (k_read sc Sl len tb rc G tn nc N rs re kk hIC hA (by omega)) (fun v7051 S7052 h7053 => ?_)
          rcases h7053 with ⟨hv7054, hp7055, hp7056, hf7057⟩ | ⟨r7058, St7059, nc7060, N7061, hv7062, hp7063, hp7064, hp7065, hf7066⟩
          · skip
            rw [hv7054]
            have hmv7067 := hIR.fr (⟨hf7057.1, hf7057.2⟩ : X_Fr _ Sl S7052) (fun q h1 h2 => by omega)
            show X_T sc 203 (443, [(3, .int (iI i)), (2, .ref 530), (1, .ref 1), (0, .ref 0)], [.int (iI (-1))], S7052) _
            refine T_p xr_203_443 xn_203 (pc' := 444) (ls' := [(3, .int (iI i)), (2, .ref 530), (1, .ref 1), (0, .ref 0)]) (st' := []) rfl ?_
            refine T_p xr_203_444 xn_203 (pc' := 445) (ls' := [(3, .int (iI i)), (2, .ref 530), (1, .ref 1), (0, .ref 0)]) (st' := [.ref 530]) rfl ?_
            refine T_p xr_203_445 xn_203 (pc' := 446) (ls' := [(3, .int (iI i)), (2, .ref 530), (1, .ref 1), (0, .ref 0)]) (st' := [.ref 0, .ref 530]) rfl ?_
            refine T_p xr_203_446 xn_203 (pc' := 447) (ls' := [(3, .int (iI i)), (2, .ref 530), (1, .ref 1), (0, .ref 0)]) (st' := [.int (iI i), .ref 0, .ref 530]) rfl ?_
            refine T_p xr_203_447 xn_203 (pc' := 448) (ls' := [(3, .int (iI i)), (2, .ref 530), (1, .ref 1), (0, .ref 0)]) (st' := [.int (iI 1), .int (iI i), .ref 0, .ref 530]) rfl ?_
            refine T_ziadd xr_203_448 (z := i + 1) rfl (pc' := 449) rfl ?_
            refine T_zsald xr_203_449 (pc' := 450) rfl ?_
            refine T_ie (y := iI a1) (by rw [ha1]) ?_
            refine T_p xr_203_450 xn_203 (pc' := 451) (ls' := [(3, .int (iI i)), (2, .ref 530), (1, .ref 1), (0, .ref 0)]) (st' := [.long ((iI a1).toInt64), .ref 530]) rfl ?_
            refine T_p xr_203_451 xn_203 (pc' := 453) (ls' := [(3, .int (iI i)), (2, .ref 530), (1, .ref 1), (0, .ref 0)]) (st' := [.int (iI 32), .long ((iI a1).toInt64), .ref 530]) rfl ?_
            refine T_p xr_203_453 xn_203 (pc' := 454) (ls' := [(3, .int (iI i)), (2, .ref 530), (1, .ref 1), (0, .ref 0)]) (st' := [.long (((iI a1).toInt64) <<< ((iI 32).toInt64 &&& 63)), .ref 530]) rfl ?_
            refine T_p xr_203_454 xn_203 (pc' := 455) (ls' := [(3, .int (iI i)), (2, .ref 530), (1, .ref 1), (0, .ref 0)]) (st' := [.ref 0, .long (((iI a1).toInt64) <<< ((iI 32).toInt64 &&& 63)), .ref 530]) rfl ?_
            refine T_p xr_203_455 xn_203 (pc' := 456) (ls' := [(3, .int (iI i)), (2, .ref 530), (1, .ref 1), (0, .ref 0)]) (st' := [.int (iI i), .ref 0, .long (((iI a1).toInt64) <<< ((iI 32).toInt64 &&& 63)), .ref 530]) rfl ?_
            refine T_p xr_203_456 xn_203 (pc' := 457) (ls' := [(3, .int (iI i)), (2, .ref 530), (1, .ref 1), (0, .ref 0)]) (st' := [.int (iI 2), .int (iI i), .ref 0, .long (((iI a1).toInt64) <<< ((iI 32).toInt64 &&& 63)), .ref 530]) rfl ?_
            refine T_ziadd xr_203_457 (z := i + 2) rfl (pc' := 458) rfl ?_
            refine T_zsald xr_203_458 (pc' := 459) rfl ?_
            refine T_ie (y := iI a2) (by rw [ha2]) ?_
            refine T_p xr_203_459 xn_203 (pc' := 460) (ls' := [(3, .int (iI i)), (2, .ref 530), (1, .ref 1), (0, .ref 0)]) (st' := [.long ((iI a2).toInt64), .long (((iI a1).toInt64) <<< ((iI 32).toInt64 &&& 63)), .ref 530]) rfl ?_
            refine T_p xr_203_460 xn_203 (pc' := 463) (ls' := [(3, .int (iI i)), (2, .ref 530), (1, .ref 1), (0, .ref 0)]) (st' := [.long (iL 4294967295), .long ((iI a2).toInt64), .long (((iI a1).toInt64) <<< ((iI 32).toInt64 &&& 63)), .ref 530]) rfl ?_
            refine T_p xr_203_463 xn_203 (pc' := 464) (ls' := [(3, .int (iI i)), (2, .ref 530), (1, .ref 1), (0, .ref 0)]) (st' := [.long (((iI a2).toInt64) &&& (iL 4294967295)), .long (((iI a1).toInt64) <<< ((iI 32).toInt64 &&& 63)), .ref 530]) rfl ?_
            refine T_p xr_203_464 xn_203 (pc' := 465) (ls' := [(3, .int (iI i)), (2, .ref 530), (1, .ref 1), (0, .ref 0)]) (st' := [.long ((((iI a1).toInt64) <<< ((iI 32).toInt64 &&& 63)) ||| (((iI a2).toInt64) &&& (iL 4294967295))), .ref 530]) rfl ?_
            refine T_le (y := (iL kk)) (by rw [hkk]; exact (Int64.ofInt_toInt _).symm) ?_
            obtain ⟨f7069, ho7070⟩ := hmv7067.o5
            refine T_cv (S := S7052) (q := 530) xr_203_465 xf_186.1 xf_186.2.1 xn_186 (as := [.long (iL kk)]) (r := []) rfl ho7070 (Nat.le_of_ble_eq_true rfl) (Nat.le_of_ble_eq_true rfl) (pc' := 468) rfl (ls' := [(0, .ref 530), (1, .long (iL kk))]) rfl ?_
            refine T_mono (m_read sc S7052 len tb rc G tn nc N rs re kk hmv7067 hA (by omega)) (fun v7071 S7072 h7073 => ?_)
            rcases h7073 with ⟨hv7074, hp7075, hp7076, hf7077⟩ | ⟨r7078, St7079, nc7080, N7081, hv7082, hp7083, hp7084, hp7085, hf7086⟩
            · skip
              rw [hv7074]
              have hmv7087 := hp7056.fr (⟨hf7077.1, hf7077.2⟩ : X_Fr _ S7052 S7072) (fun q h1 h2 => by omega)
              show X_T sc 203 (468, [(3, .int (iI i)), (2, .ref 530), (1, .ref 1), (0, .ref 0)], [.int (iI (-1))], S7072) _
              refine T_p xr_203_468 xn_203 (pc' := 469) (ls' := [(3, .int (iI i)), (2, .ref 530), (1, .ref 1), (0, .ref 0)]) (st' := []) rfl ?_
              refine T_p xr_203_469 xn_203 (pc' := 587) (ls' := [(3, .int (iI i)), (2, .ref 530), (1, .ref 1), (0, .ref 0)]) (st' := []) rfl ?_
              refine T_ziinc xr_203_587 xn_203 (a := i) (z := i + 6) rfl (Nat.le_of_ble_eq_true rfl) (by omega) (ls' := [(3, .int (iI (i + 6))), (2, .ref 530), (1, .ref 1), (0, .ref 0)]) rfl (pc' := 590) rfl ?_
              refine T_p xr_203_590 xn_203 (pc' := 18) (ls' := [(3, .int (iI (i + 6))), (2, .ref 530), (1, .ref 1), (0, .ref 0)]) (st' := []) rfl ?_
              exact ih6675 S7072 (i + 6) len tb rc G tn nc N rs re (hF6678.tr (((X_Fr.rf).tr (X_Fr.mono ⟨hf7057.1, hf7057.2⟩ (fun q hq => (by omega)))).tr (X_Fr.mono ⟨hf7077.1, hf7077.2⟩ (fun q hq => (by omega))))) (by omega) hA hmv7087 hp7076 (by omega)
            · skip
              rw [hv7082]
              have hmv7088 := hp7056.fr (⟨hf7086.1, hf7086.2⟩ : X_Fr _ S7052 S7072) (fun q h1 h2 => by omega)
              show X_T sc 203 (468, [(3, .int (iI i)), (2, .ref 530), (1, .ref 1), (0, .ref 0)], [.int (iI nc7080)], S7072) _
              exact absurd hp7083 hp7055
          · skip
            rw [hv7062]
            have hmv7068 := hIR.fr (⟨hf7066.1, hf7066.2⟩ : X_Fr _ Sl S7052) (fun q h1 h2 => by omega)
            show X_T sc 203 (443, [(3, .int (iI i)), (2, .ref 530), (1, .ref 1), (0, .ref 0)], [.int (iI nc7060)], S7052) _
            refine T_p xr_203_443 xn_203 (pc' := 444) (ls' := [(3, .int (iI i)), (2, .ref 530), (1, .ref 1), (0, .ref 0)]) (st' := []) rfl ?_
            refine T_p xr_203_444 xn_203 (pc' := 445) (ls' := [(3, .int (iI i)), (2, .ref 530), (1, .ref 1), (0, .ref 0)]) (st' := [.ref 530]) rfl ?_
            refine T_p xr_203_445 xn_203 (pc' := 446) (ls' := [(3, .int (iI i)), (2, .ref 530), (1, .ref 1), (0, .ref 0)]) (st' := [.ref 0, .ref 530]) rfl ?_
            refine T_p xr_203_446 xn_203 (pc' := 447) (ls' := [(3, .int (iI i)), (2, .ref 530), (1, .ref 1), (0, .ref 0)]) (st' := [.int (iI i), .ref 0, .ref 530]) rfl ?_
            refine T_p xr_203_447 xn_203 (pc' := 448) (ls' := [(3, .int (iI i)), (2, .ref 530), (1, .ref 1), (0, .ref 0)]) (st' := [.int (iI 1), .int (iI i), .ref 0, .ref 530]) rfl ?_
            refine T_ziadd xr_203_448 (z := i + 1) rfl (pc' := 449) rfl ?_
            refine T_zsald xr_203_449 (pc' := 450) rfl ?_
            refine T_ie (y := iI a1) (by rw [ha1]) ?_
            refine T_p xr_203_450 xn_203 (pc' := 451) (ls' := [(3, .int (iI i)), (2, .ref 530), (1, .ref 1), (0, .ref 0)]) (st' := [.long ((iI a1).toInt64), .ref 530]) rfl ?_
            refine T_p xr_203_451 xn_203 (pc' := 453) (ls' := [(3, .int (iI i)), (2, .ref 530), (1, .ref 1), (0, .ref 0)]) (st' := [.int (iI 32), .long ((iI a1).toInt64), .ref 530]) rfl ?_
            refine T_p xr_203_453 xn_203 (pc' := 454) (ls' := [(3, .int (iI i)), (2, .ref 530), (1, .ref 1), (0, .ref 0)]) (st' := [.long (((iI a1).toInt64) <<< ((iI 32).toInt64 &&& 63)), .ref 530]) rfl ?_
            refine T_p xr_203_454 xn_203 (pc' := 455) (ls' := [(3, .int (iI i)), (2, .ref 530), (1, .ref 1), (0, .ref 0)]) (st' := [.ref 0, .long (((iI a1).toInt64) <<< ((iI 32).toInt64 &&& 63)), .ref 530]) rfl ?_
            refine T_p xr_203_455 xn_203 (pc' := 456) (ls' := [(3, .int (iI i)), (2, .ref 530), (1, .ref 1), (0, .ref 0)]) (st' := [.int (iI i), .ref 0, .long (((iI a1).toInt64) <<< ((iI 32).toInt64 &&& 63)), .ref 530]) rfl ?_
            refine T_p xr_203_456 xn_203 (pc' := 457) (ls' := [(3, .int (iI i)), (2, .ref 530), (1, .ref 1), (0, .ref 0)]) (st' := [.int (iI 2), .int (iI i), .ref 0, .long (((iI a1).toInt64) <<< ((iI 32).toInt64 &&& 63)), .ref 530]) rfl ?_
            refine T_ziadd xr_203_457 (z := i + 2) rfl (pc' := 458) rfl ?_
            refine T_zsald xr_203_458 (pc' := 459) rfl ?_
            refine T_ie (y := iI a2) (by rw [ha2]) ?_
            refine T_p xr_203_459 xn_203 (pc' := 460) (ls' := [(3, .int (iI i)), (2, .ref 530), (1, .ref 1), (0, .ref 0)]) (st' := [.long ((iI a2).toInt64), .long (((iI a1).toInt64) <<< ((iI 32).toInt64 &&& 63)), .ref 530]) rfl ?_
            refine T_p xr_203_460 xn_203 (pc' := 463) (ls' := [(3, .int (iI i)), (2, .ref 530), (1, .ref 1), (0, .ref 0)]) (st' := [.long (iL 4294967295), .long ((iI a2).toInt64), .long (((iI a1).toInt64) <<< ((iI 32).toInt64 &&& 63)), .ref 530]) rfl ?_
            refine T_p xr_203_463 xn_203 (pc' := 464) (ls' := [(3, .int (iI i)), (2, .ref 530), (1, .ref 1), (0, .ref 0)]) (st' := [.long (((iI a2).toInt64) &&& (iL 4294967295)), .long (((iI a1).toInt64) <<< ((iI 32).toInt64 &&& 63)), .ref 530]) rfl ?_
            refine T_p xr_203_464 xn_203 (pc' := 465) (ls' := [(3, .int (iI i)), (2, .ref 530), (1, .ref 1), (0, .ref 0)]) (st' := [.long ((((iI a1).toInt64) <<< ((iI 32).toInt64 &&& 63)) ||| (((iI a2).toInt64) &&& (iL 4294967295))), .ref 530]) rfl ?_
            refine T_le (y := (iL kk)) (by rw [hkk]; exact (Int64.ofInt_toInt _).symm) ?_
            obtain ⟨f7089, ho7090⟩ := hmv7068.o5
            refine T_cv (S := S7052) (q := 530) xr_203_465 xf_186.1 xf_186.2.1 xn_186 (as := [.long (iL kk)]) (r := []) rfl ho7090 (Nat.le_of_ble_eq_true rfl) (Nat.le_of_ble_eq_true rfl) (pc' := 468) rfl (ls' := [(0, .ref 530), (1, .long (iL kk))]) rfl ?_
            refine T_mono (m_read sc S7052 len tb rc G tn nc N rs re kk hmv7068 hA (by omega)) (fun v7091 S7092 h7093 => ?_)
            rcases h7093 with ⟨hv7094, hp7095, hp7096, hf7097⟩ | ⟨r7098, St7099, nc7100, N7101, hv7102, hp7103, hp7104, hp7105, hf7106⟩
            · skip
              rw [hv7094]
              have hmv7107 := hp7065.fr (⟨hf7097.1, hf7097.2⟩ : X_Fr _ S7052 S7092) (fun q h1 h2 => by omega)
              show X_T sc 203 (468, [(3, .int (iI i)), (2, .ref 530), (1, .ref 1), (0, .ref 0)], [.int (iI (-1))], S7092) _
              exact absurd hp7063 hp7095
            · skip
              rw [hv7102]
              have hmv7108 := hp7065.fr (⟨hf7106.1, hf7106.2⟩ : X_Fr _ S7052 S7092) (fun q h1 h2 => by omega)
              show X_T sc 203 (468, [(3, .int (iI i)), (2, .ref 530), (1, .ref 1), (0, .ref 0)], [.int (iI nc7100)], S7092) _
              have hz := hp7064.symm.trans hp7104
              simp only [Prod.mk.injEq] at hz
              have hir7109 := hp7105
              rw [← hz.2.2.1, ← hz.2.2.2] at hir7109
              refine T_p xr_203_468 xn_203 (pc' := 469) (ls' := [(3, .int (iI i)), (2, .ref 530), (1, .ref 1), (0, .ref 0)]) (st' := []) rfl ?_
              refine T_p xr_203_469 xn_203 (pc' := 587) (ls' := [(3, .int (iI i)), (2, .ref 530), (1, .ref 1), (0, .ref 0)]) (st' := []) rfl ?_
              refine T_ziinc xr_203_587 xn_203 (a := i) (z := i + 6) rfl (Nat.le_of_ble_eq_true rfl) (by omega) (ls' := [(3, .int (iI (i + 6))), (2, .ref 530), (1, .ref 1), (0, .ref 0)]) rfl (pc' := 590) rfl ?_
              refine T_p xr_203_590 xn_203 (pc' := 18) (ls' := [(3, .int (iI (i + 6))), (2, .ref 530), (1, .ref 1), (0, .ref 0)]) (st' := []) rfl ?_
              exact ih6675 S7092 (i + 6) len tb rc G tn nc7060 N7061 0 (-1) (hF6678.tr (((X_Fr.rf).tr (X_Fr.mono ⟨hf7066.1, hf7066.2⟩ (fun q hq => (by omega)))).tr (X_Fr.mono ⟨hf7106.1, hf7106.2⟩ (fun q hq => (by omega))))) (by omega) (hA.read (by omega) hp7063 hp7064) hmv7108 hir7109 (by omega)
        · skip
          refine T_tsk xr_203_33 cs6680 (by decide) (by decide) (off := 439) rfl (t := 472) rfl ?_
          refine T_p xr_203_472 xn_203 (pc' := 473) (ls' := [(3, .int (iI i)), (2, .ref 530), (1, .ref 1), (0, .ref 0)]) (st' := [.ref 1]) rfl ?_
          refine T_p xr_203_473 xn_203 (pc' := 474) (ls' := [(3, .int (iI i)), (2, .ref 530), (1, .ref 1), (0, .ref 0)]) (st' := [.ref 0, .ref 1]) rfl ?_
          refine T_p xr_203_474 xn_203 (pc' := 475) (ls' := [(3, .int (iI i)), (2, .ref 530), (1, .ref 1), (0, .ref 0)]) (st' := [.int (iI i), .ref 0, .ref 1]) rfl ?_
          refine T_p xr_203_475 xn_203 (pc' := 476) (ls' := [(3, .int (iI i)), (2, .ref 530), (1, .ref 1), (0, .ref 0)]) (st' := [.int (iI 1), .int (iI i), .ref 0, .ref 1]) rfl ?_
          refine T_ziadd xr_203_476 (z := i + 1) rfl (pc' := 477) rfl ?_
          refine T_zsald xr_203_477 (pc' := 478) rfl ?_
          refine T_ie (y := iI a1) (by rw [ha1]) ?_
          refine T_p xr_203_478 xn_203 (pc' := 479) (ls' := [(3, .int (iI i)), (2, .ref 530), (1, .ref 1), (0, .ref 0)]) (st' := [.ref 0, .int (iI a1), .ref 1]) rfl ?_
          refine T_p xr_203_479 xn_203 (pc' := 480) (ls' := [(3, .int (iI i)), (2, .ref 530), (1, .ref 1), (0, .ref 0)]) (st' := [.int (iI i), .ref 0, .int (iI a1), .ref 1]) rfl ?_
          refine T_p xr_203_480 xn_203 (pc' := 481) (ls' := [(3, .int (iI i)), (2, .ref 530), (1, .ref 1), (0, .ref 0)]) (st' := [.int (iI 2), .int (iI i), .ref 0, .int (iI a1), .ref 1]) rfl ?_
          refine T_ziadd xr_203_481 (z := i + 2) rfl (pc' := 482) rfl ?_
          refine T_zsald xr_203_482 (pc' := 483) rfl ?_
          refine T_ie (y := iI a2) (by rw [ha2]) ?_
          obtain ⟨f7110, ho7111⟩ := hIC.o1
          refine T_cv (S := Sl) (q := 1) xr_203_483 xf_125.1 xf_125.2.1 xn_125 (as := [.int (iI a1), .int (iI a2)]) (r := []) rfl ho7111 (Nat.le_of_ble_eq_true rfl) (Nat.le_of_ble_eq_true rfl) (pc' := 486) rfl (ls' := [(0, .ref 1), (1, .int (iI a1)), (2, .int (iI a2))]) rfl ?_
          refine T_mono (k_node sc Sl len tb rc G tn nc N rs re a1 a2 hIC hA (by omega) (by omega)) (fun v7112 S7113 h7114 => ?_)
          rcases h7114 with ⟨hv7115, hp7116, hf7117⟩
          rw [hv7115]
          have hmv7118 := hIR.fr (⟨hf7117.1, hf7117.2⟩ : X_Fr _ Sl S7113) (fun q h1 h2 => by omega)
          show X_T sc 203 (486, [(3, .int (iI i)), (2, .ref 530), (1, .ref 1), (0, .ref 0)], [.int (iI (X_qNd nc N a1 a2))], S7113) _
          refine T_p xr_203_486 xn_203 (pc' := 487) (ls' := [(3, .int (iI i)), (2, .ref 530), (1, .ref 1), (0, .ref 0)]) (st' := []) rfl ?_
          refine T_p xr_203_487 xn_203 (pc' := 488) (ls' := [(3, .int (iI i)), (2, .ref 530), (1, .ref 1), (0, .ref 0)]) (st' := [.ref 530]) rfl ?_
          refine T_p xr_203_488 xn_203 (pc' := 489) (ls' := [(3, .int (iI i)), (2, .ref 530), (1, .ref 1), (0, .ref 0)]) (st' := [.ref 0, .ref 530]) rfl ?_
          refine T_p xr_203_489 xn_203 (pc' := 490) (ls' := [(3, .int (iI i)), (2, .ref 530), (1, .ref 1), (0, .ref 0)]) (st' := [.int (iI i), .ref 0, .ref 530]) rfl ?_
          refine T_p xr_203_490 xn_203 (pc' := 491) (ls' := [(3, .int (iI i)), (2, .ref 530), (1, .ref 1), (0, .ref 0)]) (st' := [.int (iI 1), .int (iI i), .ref 0, .ref 530]) rfl ?_
          refine T_ziadd xr_203_491 (z := i + 1) rfl (pc' := 492) rfl ?_
          refine T_zsald xr_203_492 (pc' := 493) rfl ?_
          refine T_ie (y := iI a1) (by rw [ha1]) ?_
          refine T_p xr_203_493 xn_203 (pc' := 494) (ls' := [(3, .int (iI i)), (2, .ref 530), (1, .ref 1), (0, .ref 0)]) (st' := [.ref 0, .int (iI a1), .ref 530]) rfl ?_
          refine T_p xr_203_494 xn_203 (pc' := 495) (ls' := [(3, .int (iI i)), (2, .ref 530), (1, .ref 1), (0, .ref 0)]) (st' := [.int (iI i), .ref 0, .int (iI a1), .ref 530]) rfl ?_
          refine T_p xr_203_495 xn_203 (pc' := 496) (ls' := [(3, .int (iI i)), (2, .ref 530), (1, .ref 1), (0, .ref 0)]) (st' := [.int (iI 2), .int (iI i), .ref 0, .int (iI a1), .ref 530]) rfl ?_
          refine T_ziadd xr_203_496 (z := i + 2) rfl (pc' := 497) rfl ?_
          refine T_zsald xr_203_497 (pc' := 498) rfl ?_
          refine T_ie (y := iI a2) (by rw [ha2]) ?_
          obtain ⟨f7119, ho7120⟩ := hmv7118.o5
          refine T_cv (S := S7113) (q := 530) xr_203_498 xf_190.1 xf_190.2.1 xn_190 (as := [.int (iI a1), .int (iI a2)]) (r := []) rfl ho7120 (Nat.le_of_ble_eq_true rfl) (Nat.le_of_ble_eq_true rfl) (pc' := 501) rfl (ls' := [(0, .ref 530), (1, .int (iI a1)), (2, .int (iI a2))]) rfl ?_
          refine T_mono (m_node sc S7113 len tb rc G tn nc N rs re a1 a2 hmv7118 hA (by omega) (by omega)) (fun v7121 S7122 h7123 => ?_)
          rcases h7123 with ⟨hv7124, hp7125, hf7126⟩
          rw [hv7124]
          have hmv7127 := hp7116.fr (⟨hf7126.1, hf7126.2⟩ : X_Fr _ S7113 S7122) (fun q h1 h2 => by omega)
          show X_T sc 203 (501, [(3, .int (iI i)), (2, .ref 530), (1, .ref 1), (0, .ref 0)], [.int (iI (X_qNd nc N a1 a2))], S7122) _
          refine T_p xr_203_501 xn_203 (pc' := 502) (ls' := [(3, .int (iI i)), (2, .ref 530), (1, .ref 1), (0, .ref 0)]) (st' := []) rfl ?_
          refine T_p xr_203_502 xn_203 (pc' := 587) (ls' := [(3, .int (iI i)), (2, .ref 530), (1, .ref 1), (0, .ref 0)]) (st' := []) rfl ?_
          refine T_ziinc xr_203_587 xn_203 (a := i) (z := i + 6) rfl (Nat.le_of_ble_eq_true rfl) (by omega) (ls' := [(3, .int (iI (i + 6))), (2, .ref 530), (1, .ref 1), (0, .ref 0)]) rfl (pc' := 590) rfl ?_
          refine T_p xr_203_590 xn_203 (pc' := 18) (ls' := [(3, .int (iI (i + 6))), (2, .ref 530), (1, .ref 1), (0, .ref 0)]) (st' := []) rfl ?_
          exact ih6675 S7122 (i + 6) len tb rc G tn nc N rs re (hF6678.tr (((X_Fr.rf).tr (X_Fr.mono ⟨hf7117.1, hf7117.2⟩ (fun q hq => (by omega)))).tr (X_Fr.mono ⟨hf7126.1, hf7126.2⟩ (fun q hq => (by omega))))) (by omega) hA hmv7127 hp7125 (by omega)
        · skip
          refine T_tsk xr_203_33 cs6680 (by decide) (by decide) (off := 472) rfl (t := 505) rfl ?_
          refine T_p xr_203_505 xn_203 (pc' := 506) (ls' := [(3, .int (iI i)), (2, .ref 530), (1, .ref 1), (0, .ref 0)]) (st' := [.ref 1]) rfl ?_
          refine T_p xr_203_506 xn_203 (pc' := 507) (ls' := [(3, .int (iI i)), (2, .ref 530), (1, .ref 1), (0, .ref 0)]) (st' := [.ref 0, .ref 1]) rfl ?_
          refine T_p xr_203_507 xn_203 (pc' := 508) (ls' := [(3, .int (iI i)), (2, .ref 530), (1, .ref 1), (0, .ref 0)]) (st' := [.int (iI i), .ref 0, .ref 1]) rfl ?_
          refine T_p xr_203_508 xn_203 (pc' := 509) (ls' := [(3, .int (iI i)), (2, .ref 530), (1, .ref 1), (0, .ref 0)]) (st' := [.int (iI 1), .int (iI i), .ref 0, .ref 1]) rfl ?_
          refine T_ziadd xr_203_509 (z := i + 1) rfl (pc' := 510) rfl ?_
          refine T_zsald xr_203_510 (pc' := 511) rfl ?_
          refine T_ie (y := iI a1) (by rw [ha1]) ?_
          refine T_p xr_203_511 xn_203 (pc' := 512) (ls' := [(3, .int (iI i)), (2, .ref 530), (1, .ref 1), (0, .ref 0)]) (st' := [.ref 0, .int (iI a1), .ref 1]) rfl ?_
          refine T_p xr_203_512 xn_203 (pc' := 513) (ls' := [(3, .int (iI i)), (2, .ref 530), (1, .ref 1), (0, .ref 0)]) (st' := [.int (iI i), .ref 0, .int (iI a1), .ref 1]) rfl ?_
          refine T_p xr_203_513 xn_203 (pc' := 514) (ls' := [(3, .int (iI i)), (2, .ref 530), (1, .ref 1), (0, .ref 0)]) (st' := [.int (iI 2), .int (iI i), .ref 0, .int (iI a1), .ref 1]) rfl ?_
          refine T_ziadd xr_203_514 (z := i + 2) rfl (pc' := 515) rfl ?_
          refine T_zsald xr_203_515 (pc' := 516) rfl ?_
          refine T_ie (y := iI a2) (by rw [ha2]) ?_
          obtain ⟨f7128, ho7129⟩ := hIC.o1
          refine T_cv (S := Sl) (q := 1) xr_203_516 xf_126.1 xf_126.2.1 xn_126 (as := [.int (iI a1), .int (iI a2)]) (r := []) rfl ho7129 (Nat.le_of_ble_eq_true rfl) (Nat.le_of_ble_eq_true rfl) (pc' := 519) rfl (ls' := [(0, .ref 1), (1, .int (iI a1)), (2, .int (iI a2))]) rfl ?_
          refine T_mono (k_bind sc Sl len tb rc G tn nc N rs re a1 a2 hIC hA (by omega) (by omega)) (fun v7130 S7131 h7132 => ?_)
          rcases h7132 with ⟨hv7133, hp7134, hp7135, hf7136⟩ | ⟨hv7137, hp7138, hp7139, hf7140⟩
          · skip
            rw [hv7133]
            have hmv7141 := hIR.fr (⟨hf7136.1, hf7136.2⟩ : X_Fr _ Sl S7131) (fun q h1 h2 => by omega)
            show X_T sc 203 (519, [(3, .int (iI i)), (2, .ref 530), (1, .ref 1), (0, .ref 0)], [.int (iI 0)], S7131) _
            refine T_p xr_203_519 xn_203 (pc' := 520) (ls' := [(3, .int (iI i)), (2, .ref 530), (1, .ref 1), (0, .ref 0)]) (st' := []) rfl ?_
            refine T_p xr_203_520 xn_203 (pc' := 521) (ls' := [(3, .int (iI i)), (2, .ref 530), (1, .ref 1), (0, .ref 0)]) (st' := [.ref 530]) rfl ?_
            refine T_p xr_203_521 xn_203 (pc' := 522) (ls' := [(3, .int (iI i)), (2, .ref 530), (1, .ref 1), (0, .ref 0)]) (st' := [.ref 0, .ref 530]) rfl ?_
            refine T_p xr_203_522 xn_203 (pc' := 523) (ls' := [(3, .int (iI i)), (2, .ref 530), (1, .ref 1), (0, .ref 0)]) (st' := [.int (iI i), .ref 0, .ref 530]) rfl ?_
            refine T_p xr_203_523 xn_203 (pc' := 524) (ls' := [(3, .int (iI i)), (2, .ref 530), (1, .ref 1), (0, .ref 0)]) (st' := [.int (iI 1), .int (iI i), .ref 0, .ref 530]) rfl ?_
            refine T_ziadd xr_203_524 (z := i + 1) rfl (pc' := 525) rfl ?_
            refine T_zsald xr_203_525 (pc' := 526) rfl ?_
            refine T_ie (y := iI a1) (by rw [ha1]) ?_
            refine T_p xr_203_526 xn_203 (pc' := 527) (ls' := [(3, .int (iI i)), (2, .ref 530), (1, .ref 1), (0, .ref 0)]) (st' := [.ref 0, .int (iI a1), .ref 530]) rfl ?_
            refine T_p xr_203_527 xn_203 (pc' := 528) (ls' := [(3, .int (iI i)), (2, .ref 530), (1, .ref 1), (0, .ref 0)]) (st' := [.int (iI i), .ref 0, .int (iI a1), .ref 530]) rfl ?_
            refine T_p xr_203_528 xn_203 (pc' := 529) (ls' := [(3, .int (iI i)), (2, .ref 530), (1, .ref 1), (0, .ref 0)]) (st' := [.int (iI 2), .int (iI i), .ref 0, .int (iI a1), .ref 530]) rfl ?_
            refine T_ziadd xr_203_529 (z := i + 2) rfl (pc' := 530) rfl ?_
            refine T_zsald xr_203_530 (pc' := 531) rfl ?_
            refine T_ie (y := iI a2) (by rw [ha2]) ?_
            obtain ⟨f7143, ho7144⟩ := hmv7141.o5
            refine T_cv (S := S7131) (q := 530) xr_203_531 xf_191.1 xf_191.2.1 xn_191 (as := [.int (iI a1), .int (iI a2)]) (r := []) rfl ho7144 (Nat.le_of_ble_eq_true rfl) (Nat.le_of_ble_eq_true rfl) (pc' := 534) rfl (ls' := [(0, .ref 530), (1, .int (iI a1)), (2, .int (iI a2))]) rfl ?_
            refine T_mono (m_bind sc S7131 len tb rc G tn nc N rs re a1 a2 hmv7141 hA (by omega) (by omega)) (fun v7145 S7146 h7147 => ?_)
            rcases h7147 with ⟨hv7148, hp7149, hp7150, hf7151⟩ | ⟨hv7152, hp7153, hp7154, hf7155⟩
            · skip
              rw [hv7148]
              have hmv7156 := hp7135.fr (⟨hf7151.1, hf7151.2⟩ : X_Fr _ S7131 S7146) (fun q h1 h2 => by omega)
              show X_T sc 203 (534, [(3, .int (iI i)), (2, .ref 530), (1, .ref 1), (0, .ref 0)], [.int (iI 0)], S7146) _
              refine T_p xr_203_534 xn_203 (pc' := 535) (ls' := [(3, .int (iI i)), (2, .ref 530), (1, .ref 1), (0, .ref 0)]) (st' := []) rfl ?_
              refine T_p xr_203_535 xn_203 (pc' := 587) (ls' := [(3, .int (iI i)), (2, .ref 530), (1, .ref 1), (0, .ref 0)]) (st' := []) rfl ?_
              refine T_ziinc xr_203_587 xn_203 (a := i) (z := i + 6) rfl (Nat.le_of_ble_eq_true rfl) (by omega) (ls' := [(3, .int (iI (i + 6))), (2, .ref 530), (1, .ref 1), (0, .ref 0)]) rfl (pc' := 590) rfl ?_
              refine T_p xr_203_590 xn_203 (pc' := 18) (ls' := [(3, .int (iI (i + 6))), (2, .ref 530), (1, .ref 1), (0, .ref 0)]) (st' := []) rfl ?_
              exact ih6675 S7146 (i + 6) len tb rc G tn nc N rs re (hF6678.tr (((X_Fr.rf).tr (X_Fr.mono ⟨hf7136.1, hf7136.2⟩ (fun q hq => (by omega)))).tr (X_Fr.mono ⟨hf7151.1, hf7151.2⟩ (fun q hq => (by omega))))) (by omega) hA hmv7156 hp7150 (by omega)
            · skip
              rw [hv7152]
              have hmv7157 := hp7135.fr (⟨hf7155.1, hf7155.2⟩ : X_Fr _ S7131 S7146) (fun q h1 h2 => by omega)
              show X_T sc 203 (534, [(3, .int (iI i)), (2, .ref 530), (1, .ref 1), (0, .ref 0)], [.int (iI 1)], S7146) _
              exact absurd hp7153 hp7134
          · skip
            rw [hv7137]
            have hmv7142 := hIR.fr (⟨hf7140.1, hf7140.2⟩ : X_Fr _ Sl S7131) (fun q h1 h2 => by omega)
            show X_T sc 203 (519, [(3, .int (iI i)), (2, .ref 530), (1, .ref 1), (0, .ref 0)], [.int (iI 1)], S7131) _
            refine T_p xr_203_519 xn_203 (pc' := 520) (ls' := [(3, .int (iI i)), (2, .ref 530), (1, .ref 1), (0, .ref 0)]) (st' := []) rfl ?_
            refine T_p xr_203_520 xn_203 (pc' := 521) (ls' := [(3, .int (iI i)), (2, .ref 530), (1, .ref 1), (0, .ref 0)]) (st' := [.ref 530]) rfl ?_
            refine T_p xr_203_521 xn_203 (pc' := 522) (ls' := [(3, .int (iI i)), (2, .ref 530), (1, .ref 1), (0, .ref 0)]) (st' := [.ref 0, .ref 530]) rfl ?_
            refine T_p xr_203_522 xn_203 (pc' := 523) (ls' := [(3, .int (iI i)), (2, .ref 530), (1, .ref 1), (0, .ref 0)]) (st' := [.int (iI i), .ref 0, .ref 530]) rfl ?_
            refine T_p xr_203_523 xn_203 (pc' := 524) (ls' := [(3, .int (iI i)), (2, .ref 530), (1, .ref 1), (0, .ref 0)]) (st' := [.int (iI 1), .int (iI i), .ref 0, .ref 530]) rfl ?_
            refine T_ziadd xr_203_524 (z := i + 1) rfl (pc' := 525) rfl ?_
            refine T_zsald xr_203_525 (pc' := 526) rfl ?_
            refine T_ie (y := iI a1) (by rw [ha1]) ?_
            refine T_p xr_203_526 xn_203 (pc' := 527) (ls' := [(3, .int (iI i)), (2, .ref 530), (1, .ref 1), (0, .ref 0)]) (st' := [.ref 0, .int (iI a1), .ref 530]) rfl ?_
            refine T_p xr_203_527 xn_203 (pc' := 528) (ls' := [(3, .int (iI i)), (2, .ref 530), (1, .ref 1), (0, .ref 0)]) (st' := [.int (iI i), .ref 0, .int (iI a1), .ref 530]) rfl ?_
            refine T_p xr_203_528 xn_203 (pc' := 529) (ls' := [(3, .int (iI i)), (2, .ref 530), (1, .ref 1), (0, .ref 0)]) (st' := [.int (iI 2), .int (iI i), .ref 0, .int (iI a1), .ref 530]) rfl ?_
            refine T_ziadd xr_203_529 (z := i + 2) rfl (pc' := 530) rfl ?_
            refine T_zsald xr_203_530 (pc' := 531) rfl ?_
            refine T_ie (y := iI a2) (by rw [ha2]) ?_
            obtain ⟨f7158, ho7159⟩ := hmv7142.o5
            refine T_cv (S := S7131) (q := 530) xr_203_531 xf_191.1 xf_191.2.1 xn_191 (as := [.int (iI a1), .int (iI a2)]) (r := []) rfl ho7159 (Nat.le_of_ble_eq_true rfl) (Nat.le_of_ble_eq_true rfl) (pc' := 534) rfl (ls' := [(0, .ref 530), (1, .int (iI a1)), (2, .int (iI a2))]) rfl ?_
            refine T_mono (m_bind sc S7131 len tb rc G tn nc N rs re a1 a2 hmv7142 hA (by omega) (by omega)) (fun v7160 S7161 h7162 => ?_)
            rcases h7162 with ⟨hv7163, hp7164, hp7165, hf7166⟩ | ⟨hv7167, hp7168, hp7169, hf7170⟩
            · skip
              rw [hv7163]
              have hmv7171 := hp7139.fr (⟨hf7166.1, hf7166.2⟩ : X_Fr _ S7131 S7161) (fun q h1 h2 => by omega)
              show X_T sc 203 (534, [(3, .int (iI i)), (2, .ref 530), (1, .ref 1), (0, .ref 0)], [.int (iI 0)], S7161) _
              exact absurd hp7138 hp7164
            · skip
              rw [hv7167]
              have hmv7172 := hp7139.fr (⟨hf7170.1, hf7170.2⟩ : X_Fr _ S7131 S7161) (fun q h1 h2 => by omega)
              show X_T sc 203 (534, [(3, .int (iI i)), (2, .ref 530), (1, .ref 1), (0, .ref 0)], [.int (iI 1)], S7161) _
              refine T_p xr_203_534 xn_203 (pc' := 535) (ls' := [(3, .int (iI i)), (2, .ref 530), (1, .ref 1), (0, .ref 0)]) (st' := []) rfl ?_
              refine T_p xr_203_535 xn_203 (pc' := 587) (ls' := [(3, .int (iI i)), (2, .ref 530), (1, .ref 1), (0, .ref 0)]) (st' := []) rfl ?_
              refine T_ziinc xr_203_587 xn_203 (a := i) (z := i + 6) rfl (Nat.le_of_ble_eq_true rfl) (by omega) (ls' := [(3, .int (iI (i + 6))), (2, .ref 530), (1, .ref 1), (0, .ref 0)]) rfl (pc' := 590) rfl ?_
              refine T_p xr_203_590 xn_203 (pc' := 18) (ls' := [(3, .int (iI (i + 6))), (2, .ref 530), (1, .ref 1), (0, .ref 0)]) (st' := []) rfl ?_
              exact ih6675 S7161 (i + 6) len tb rc (X_Gb G a1 a2) tn nc N rs re (hF6678.tr (((X_Fr.rf).tr (X_Fr.mono ⟨hf7140.1, hf7140.2⟩ (fun q hq => (by omega)))).tr (X_Fr.mono ⟨hf7170.1, hf7170.2⟩ (fun q hq => (by omega))))) (by omega) hA.bind hmv7172 hp7169 (by omega)
        · skip
          refine T_tsk xr_203_33 cs6680 (by decide) (by decide) (off := 505) rfl (t := 538) rfl ?_
          refine T_p xr_203_538 xn_203 (pc' := 539) (ls' := [(3, .int (iI i)), (2, .ref 530), (1, .ref 1), (0, .ref 0)]) (st' := [.ref 1]) rfl ?_
          obtain ⟨f7173, ho7174⟩ := hIC.o1
          refine T_cv (S := Sl) (q := 1) xr_203_539 xf_127.1 xf_127.2.1 xn_127 (as := []) (r := []) rfl ho7174 (Nat.le_of_ble_eq_true rfl) (Nat.le_of_ble_eq_true rfl) (pc' := 542) rfl (ls' := [(0, .ref 1)]) rfl ?_
          refine T_mono (k_work sc Sl len tb rc G tn nc N rs re hIC hA) (fun v7175 S7176 h7177 => ?_)
          rcases h7177 with ⟨hv7178, hp7179, hp7180, hf7181⟩ | ⟨hv7182, hp7183, hp7184, hf7185⟩
          · skip
            rw [hv7178]
            have hmv7186 := hIR.fr (⟨hf7181.1, hf7181.2⟩ : X_Fr _ Sl S7176) (fun q h1 h2 => by omega)
            show X_T sc 203 (542, [(3, .int (iI i)), (2, .ref 530), (1, .ref 1), (0, .ref 0)], [.int (iI (-1))], S7176) _
            refine T_p xr_203_542 xn_203 (pc' := 543) (ls' := [(3, .int (iI i)), (2, .ref 530), (1, .ref 1), (0, .ref 0)]) (st' := [.ref 530, .int (iI (-1))]) rfl ?_
            obtain ⟨f7188, ho7189⟩ := hmv7186.o5
            refine T_cv (S := S7176) (q := 530) xr_203_543 xf_193.1 xf_193.2.1 xn_193 (as := []) (r := [.int (iI (-1))]) rfl ho7189 (Nat.le_of_ble_eq_true rfl) (Nat.le_of_ble_eq_true rfl) (pc' := 546) rfl (ls' := [(0, .ref 530)]) rfl ?_
            refine T_mono (m_work sc S7176 len tb rc G tn nc N rs re hmv7186 hA) (fun v7190 S7191 h7192 => ?_)
            rcases h7192 with ⟨hv7193, hp7194, hp7195, hf7196⟩ | ⟨hv7197, hp7198, hp7199, hf7200⟩
            · skip
              rw [hv7193]
              have hmv7201 := hp7180.fr (⟨hf7196.1, hf7196.2⟩ : X_Fr _ S7176 S7191) (fun q h1 h2 => by omega)
              show X_T sc 203 (546, [(3, .int (iI i)), (2, .ref 530), (1, .ref 1), (0, .ref 0)], [.int (iI (-1)), .int (iI (-1))], S7191) _
              refine T_b2t xr_203_546 (show X_cd .eq (iI (-1)) (iI (-1)) = true from decide_eq_true (congrArg iI (show (-1) = (-1) by first | rfl | omega | exact rfl))) (t := 587) rfl ?_
              refine T_ziinc xr_203_587 xn_203 (a := i) (z := i + 6) rfl (Nat.le_of_ble_eq_true rfl) (by omega) (ls' := [(3, .int (iI (i + 6))), (2, .ref 530), (1, .ref 1), (0, .ref 0)]) rfl (pc' := 590) rfl ?_
              refine T_p xr_203_590 xn_203 (pc' := 18) (ls' := [(3, .int (iI (i + 6))), (2, .ref 530), (1, .ref 1), (0, .ref 0)]) (st' := []) rfl ?_
              exact ih6675 S7191 (i + 6) len tb rc G tn nc N rs re (hF6678.tr (((X_Fr.rf).tr (X_Fr.mono ⟨hf7181.1, hf7181.2⟩ (fun q hq => (by omega)))).tr (X_Fr.mono ⟨hf7196.1, hf7196.2⟩ (fun q hq => (by omega))))) (by omega) hA hmv7201 hp7195 (by omega)
            · skip
              rw [hv7197]
              have hmv7202 := hp7180.fr (⟨hf7200.1, hf7200.2⟩ : X_Fr _ S7176 S7191) (fun q h1 h2 => by omega)
              show X_T sc 203 (546, [(3, .int (iI i)), (2, .ref 530), (1, .ref 1), (0, .ref 0)], [.int (iI ((X_wk G (fun w => gD G w 6 0) (fun w => gD G w 7 0) N nc).1)), .int (iI (-1))], S7191) _
              exact (show False by omega).elim
          · skip
            rw [hv7182]
            have hmv7187 := hIR.fr (⟨hf7185.1, hf7185.2⟩ : X_Fr _ Sl S7176) (fun q h1 h2 => by omega)
            show X_T sc 203 (542, [(3, .int (iI i)), (2, .ref 530), (1, .ref 1), (0, .ref 0)], [.int (iI ((X_wk G (fun w => gD G w 6 0) (fun w => gD G w 7 0) N nc).1))], S7176) _
            refine T_p xr_203_542 xn_203 (pc' := 543) (ls' := [(3, .int (iI i)), (2, .ref 530), (1, .ref 1), (0, .ref 0)]) (st' := [.ref 530, .int (iI ((X_wk G (fun w => gD G w 6 0) (fun w => gD G w 7 0) N nc).1))]) rfl ?_
            obtain ⟨f7203, ho7204⟩ := hmv7187.o5
            refine T_cv (S := S7176) (q := 530) xr_203_543 xf_193.1 xf_193.2.1 xn_193 (as := []) (r := [.int (iI ((X_wk G (fun w => gD G w 6 0) (fun w => gD G w 7 0) N nc).1))]) rfl ho7204 (Nat.le_of_ble_eq_true rfl) (Nat.le_of_ble_eq_true rfl) (pc' := 546) rfl (ls' := [(0, .ref 530)]) rfl ?_
            refine T_mono (m_work sc S7176 len tb rc G tn nc N rs re hmv7187 hA) (fun v7205 S7206 h7207 => ?_)
            rcases h7207 with ⟨hv7208, hp7209, hp7210, hf7211⟩ | ⟨hv7212, hp7213, hp7214, hf7215⟩
            · skip
              rw [hv7208]
              have hmv7216 := hp7184.fr (⟨hf7211.1, hf7211.2⟩ : X_Fr _ S7176 S7206) (fun q h1 h2 => by omega)
              show X_T sc 203 (546, [(3, .int (iI i)), (2, .ref 530), (1, .ref 1), (0, .ref 0)], [.int (iI (-1)), .int (iI ((X_wk G (fun w => gD G w 6 0) (fun w => gD G w 7 0) N nc).1))], S7206) _
              exact (show False by omega).elim
            · skip
              rw [hv7212]
              have hmv7217 := hp7184.fr (⟨hf7215.1, hf7215.2⟩ : X_Fr _ S7176 S7206) (fun q h1 h2 => by omega)
              show X_T sc 203 (546, [(3, .int (iI i)), (2, .ref 530), (1, .ref 1), (0, .ref 0)], [.int (iI ((X_wk G (fun w => gD G w 6 0) (fun w => gD G w 7 0) N nc).1)), .int (iI ((X_wk G (fun w => gD G w 6 0) (fun w => gD G w 7 0) N nc).1))], S7206) _
              refine T_b2t xr_203_546 (show X_cd .eq (iI ((X_wk G (fun w => gD G w 6 0) (fun w => gD G w 7 0) N nc).1)) (iI ((X_wk G (fun w => gD G w 6 0) (fun w => gD G w 7 0) N nc).1)) = true from decide_eq_true (congrArg iI (show ((X_wk G (fun w => gD G w 6 0) (fun w => gD G w 7 0) N nc).1) = ((X_wk G (fun w => gD G w 6 0) (fun w => gD G w 7 0) N nc).1) by first | rfl | omega | exact rfl))) (t := 587) rfl ?_
              refine T_ziinc xr_203_587 xn_203 (a := i) (z := i + 6) rfl (Nat.le_of_ble_eq_true rfl) (by omega) (ls' := [(3, .int (iI (i + 6))), (2, .ref 530), (1, .ref 1), (0, .ref 0)]) rfl (pc' := 590) rfl ?_
              refine T_p xr_203_590 xn_203 (pc' := 18) (ls' := [(3, .int (iI (i + 6))), (2, .ref 530), (1, .ref 1), (0, .ref 0)]) (st' := []) rfl ?_
              exact ih6675 S7206 (i + 6) len tb rc G tn nc N ((X_wk G (fun w => gD G w 6 0) (fun w => gD G w 7 0) N nc).2.2) ((X_wk G (fun w => gD G w 6 0) (fun w => gD G w 7 0) N nc).2.1) (hF6678.tr (((X_Fr.rf).tr (X_Fr.mono ⟨hf7185.1, hf7185.2⟩ (fun q hq => (by omega)))).tr (X_Fr.mono ⟨hf7215.1, hf7215.2⟩ (fun q hq => (by omega))))) (by omega) hA hmv7217 hp7214 (by omega)
        · skip
          refine T_tsk xr_203_33 cs6680 (by decide) (by decide) (off := 518) rfl (t := 551) rfl ?_
          refine T_p xr_203_551 xn_203 (pc' := 552) (ls' := [(3, .int (iI i)), (2, .ref 530), (1, .ref 1), (0, .ref 0)]) (st' := [.ref 1]) rfl ?_
          refine T_p xr_203_552 xn_203 (pc' := 553) (ls' := [(3, .int (iI i)), (2, .ref 530), (1, .ref 1), (0, .ref 0)]) (st' := [.ref 0, .ref 1]) rfl ?_
          refine T_p xr_203_553 xn_203 (pc' := 554) (ls' := [(3, .int (iI i)), (2, .ref 530), (1, .ref 1), (0, .ref 0)]) (st' := [.int (iI i), .ref 0, .ref 1]) rfl ?_
          refine T_p xr_203_554 xn_203 (pc' := 555) (ls' := [(3, .int (iI i)), (2, .ref 530), (1, .ref 1), (0, .ref 0)]) (st' := [.int (iI 1), .int (iI i), .ref 0, .ref 1]) rfl ?_
          refine T_ziadd xr_203_555 (z := i + 1) rfl (pc' := 556) rfl ?_
          refine T_zsald xr_203_556 (pc' := 557) rfl ?_
          refine T_ie (y := iI a1) (by rw [ha1]) ?_
          obtain ⟨f7218, ho7219⟩ := hIC.o1
          refine T_cv (S := Sl) (q := 1) xr_203_557 xf_128.1 xf_128.2.1 xn_128 (as := [.int (iI a1)]) (r := []) rfl ho7219 (Nat.le_of_ble_eq_true rfl) (Nat.le_of_ble_eq_true rfl) (pc' := 560) rfl (ls' := [(0, .ref 1), (1, .int (iI a1))]) rfl ?_
          refine T_mono (k_worked sc Sl len tb rc G tn nc N rs re a1 hIC hA (by omega)) (fun v7220 S7221 h7222 => ?_)
          rcases h7222 with ⟨hv7223, hp7224, hf7225⟩
          rw [hv7223]
          have hmv7226 := hIR.fr (⟨hf7225.1, hf7225.2⟩ : X_Fr _ Sl S7221) (fun q h1 h2 => by omega)
          show X_T sc 203 (560, [(3, .int (iI i)), (2, .ref 530), (1, .ref 1), (0, .ref 0)], [.int (iI (if a1 = 0 then rs else if a1 = 1 then re else -1))], S7221) _
          refine T_p xr_203_560 xn_203 (pc' := 561) (ls' := [(3, .int (iI i)), (2, .ref 530), (1, .ref 1), (0, .ref 0)]) (st' := []) rfl ?_
          refine T_p xr_203_561 xn_203 (pc' := 562) (ls' := [(3, .int (iI i)), (2, .ref 530), (1, .ref 1), (0, .ref 0)]) (st' := [.ref 530]) rfl ?_
          refine T_p xr_203_562 xn_203 (pc' := 563) (ls' := [(3, .int (iI i)), (2, .ref 530), (1, .ref 1), (0, .ref 0)]) (st' := [.ref 0, .ref 530]) rfl ?_
          refine T_p xr_203_563 xn_203 (pc' := 564) (ls' := [(3, .int (iI i)), (2, .ref 530), (1, .ref 1), (0, .ref 0)]) (st' := [.int (iI i), .ref 0, .ref 530]) rfl ?_
          refine T_p xr_203_564 xn_203 (pc' := 565) (ls' := [(3, .int (iI i)), (2, .ref 530), (1, .ref 1), (0, .ref 0)]) (st' := [.int (iI 1), .int (iI i), .ref 0, .ref 530]) rfl ?_
          refine T_ziadd xr_203_565 (z := i + 1) rfl (pc' := 566) rfl ?_
          refine T_zsald xr_203_566 (pc' := 567) rfl ?_
          refine T_ie (y := iI a1) (by rw [ha1]) ?_
          obtain ⟨f7227, ho7228⟩ := hmv7226.o5
          refine T_cv (S := S7221) (q := 530) xr_203_567 xf_198.1 xf_198.2.1 xn_198 (as := [.int (iI a1)]) (r := []) rfl ho7228 (Nat.le_of_ble_eq_true rfl) (Nat.le_of_ble_eq_true rfl) (pc' := 570) rfl (ls' := [(0, .ref 530), (1, .int (iI a1))]) rfl ?_
          refine T_mono (m_worked sc S7221 len tb rc G tn nc N rs re a1 hmv7226 hA (by omega)) (fun v7229 S7230 h7231 => ?_)
          rcases h7231 with ⟨hv7232, hp7233, hf7234⟩
          rw [hv7232]
          have hmv7235 := hp7224.fr (⟨hf7234.1, hf7234.2⟩ : X_Fr _ S7221 S7230) (fun q h1 h2 => by omega)
          show X_T sc 203 (570, [(3, .int (iI i)), (2, .ref 530), (1, .ref 1), (0, .ref 0)], [.int (iI (if a1 = 0 then rs else if a1 = 1 then re else -1))], S7230) _
          refine T_p xr_203_570 xn_203 (pc' := 571) (ls' := [(3, .int (iI i)), (2, .ref 530), (1, .ref 1), (0, .ref 0)]) (st' := []) rfl ?_
          refine T_p xr_203_571 xn_203 (pc' := 587) (ls' := [(3, .int (iI i)), (2, .ref 530), (1, .ref 1), (0, .ref 0)]) (st' := []) rfl ?_
          refine T_ziinc xr_203_587 xn_203 (a := i) (z := i + 6) rfl (Nat.le_of_ble_eq_true rfl) (by omega) (ls' := [(3, .int (iI (i + 6))), (2, .ref 530), (1, .ref 1), (0, .ref 0)]) rfl (pc' := 590) rfl ?_
          refine T_p xr_203_590 xn_203 (pc' := 18) (ls' := [(3, .int (iI (i + 6))), (2, .ref 530), (1, .ref 1), (0, .ref 0)]) (st' := []) rfl ?_
          exact ih6675 S7230 (i + 6) len tb rc G tn nc N rs re (hF6678.tr (((X_Fr.rf).tr (X_Fr.mono ⟨hf7225.1, hf7225.2⟩ (fun q hq => (by omega)))).tr (X_Fr.mono ⟨hf7234.1, hf7234.2⟩ (fun q hq => (by omega))))) (by omega) hA hmv7235 hp7233 (by omega)
        · skip
          refine T_tsk xr_203_33 cs6680 (by decide) (by decide) (off := 541) rfl (t := 574) rfl ?_
          refine T_p xr_203_574 xn_203 (pc' := 575) (ls' := [(3, .int (iI i)), (2, .ref 530), (1, .ref 1), (0, .ref 0)]) (st' := [.ref 1]) rfl ?_
          obtain ⟨f7236, ho7237⟩ := hIC.o1
          refine T_cv (S := Sl) (q := 1) xr_203_575 xf_129.1 xf_129.2.1 xn_129 (as := []) (r := []) rfl ho7237 (Nat.le_of_ble_eq_true rfl) (Nat.le_of_ble_eq_true rfl) (pc' := 578) rfl (ls' := [(0, .ref 1)]) rfl ?_
          refine T_mono (k_sure sc Sl len tb rc G tn nc N rs re hIC hA) (fun v7238 S7239 h7240 => ?_)
          rcases h7240 with ⟨r7241, hv7242, hp7243, hp7244, hf7245⟩
          rw [hv7242]
          have hmv7246 := hIR.fr (⟨hf7245.1, hf7245.2⟩ : X_Fr _ Sl S7239) (fun q h1 h2 => by omega)
          show X_T sc 203 (578, [(3, .int (iI i)), (2, .ref 530), (1, .ref 1), (0, .ref 0)], [.int (iI r7241)], S7239) _
          refine T_p xr_203_578 xn_203 (pc' := 579) (ls' := [(3, .int (iI i)), (2, .ref 530), (1, .ref 1), (0, .ref 0)]) (st' := []) rfl ?_
          refine T_p xr_203_579 xn_203 (pc' := 580) (ls' := [(3, .int (iI i)), (2, .ref 530), (1, .ref 1), (0, .ref 0)]) (st' := [.ref 530]) rfl ?_
          obtain ⟨f7247, ho7248⟩ := hmv7246.o5
          refine T_cv (S := S7239) (q := 530) xr_203_580 xf_199.1 xf_199.2.1 xn_199 (as := []) (r := []) rfl ho7248 (Nat.le_of_ble_eq_true rfl) (Nat.le_of_ble_eq_true rfl) (pc' := 583) rfl (ls' := [(0, .ref 530)]) rfl ?_
          refine T_mono (m_sure sc S7239 len tb rc G tn nc N rs re hmv7246 hA) (fun v7249 S7250 h7251 => ?_)
          rcases h7251 with ⟨r7252, hv7253, hp7254, hp7255, hf7256⟩
          rw [hv7253]
          have hmv7257 := hp7244.fr (⟨hf7256.1, hf7256.2⟩ : X_Fr _ S7239 S7250) (fun q h1 h2 => by omega)
          show X_T sc 203 (583, [(3, .int (iI i)), (2, .ref 530), (1, .ref 1), (0, .ref 0)], [.int (iI r7252)], S7250) _
          refine T_p xr_203_583 xn_203 (pc' := 584) (ls' := [(3, .int (iI i)), (2, .ref 530), (1, .ref 1), (0, .ref 0)]) (st' := []) rfl ?_
          refine T_p xr_203_584 xn_203 (pc' := 587) (ls' := [(3, .int (iI i)), (2, .ref 530), (1, .ref 1), (0, .ref 0)]) (st' := []) rfl ?_
          refine T_ziinc xr_203_587 xn_203 (a := i) (z := i + 6) rfl (Nat.le_of_ble_eq_true rfl) (by omega) (ls' := [(3, .int (iI (i + 6))), (2, .ref 530), (1, .ref 1), (0, .ref 0)]) rfl (pc' := 590) rfl ?_
          refine T_p xr_203_590 xn_203 (pc' := 18) (ls' := [(3, .int (iI (i + 6))), (2, .ref 530), (1, .ref 1), (0, .ref 0)]) (st' := []) rfl ?_
          exact ih6675 S7250 (i + 6) len tb rc G tn nc N rs re (hF6678.tr (((X_Fr.rf).tr (X_Fr.mono ⟨hf7245.1, hf7245.2⟩ (fun q hq => (by omega)))).tr (X_Fr.mono ⟨hf7256.1, hf7256.2⟩ (fun q hq => (by omega))))) (by omega) hA hmv7257 hp7255 (by omega)
        · skip
          refine T_tsd xr_203_33 cs6680 (by omega) (t := 587) rfl ?_
          refine T_ziinc xr_203_587 xn_203 (a := i) (z := i + 6) rfl (Nat.le_of_ble_eq_true rfl) (by omega) (ls' := [(3, .int (iI (i + 6))), (2, .ref 530), (1, .ref 1), (0, .ref 0)]) rfl (pc' := 590) rfl ?_
          refine T_p xr_203_590 xn_203 (pc' := 18) (ls' := [(3, .int (iI (i + 6))), (2, .ref 530), (1, .ref 1), (0, .ref 0)]) (st' := []) rfl ?_
          exact ih6675 Sl (i + 6) len tb rc G tn nc N rs re (hF6678.tr (X_Fr.rf)) (by omega) hA hIC hIR (by omega)
  exact L6674 ((Ls + 6) + 1).toNat S 0 len tb rc G tn nc N rs re ((X_Fr.rf)) (by omega) hA hIC hIR (by omega)
