theorem xr_39_0 : X_row 39 0 = some (0, (.aload_n 0, 1), (0, 0, 0)) := by decide +kernel
theorem xr_39_1 : X_row 39 1 = some (1, (.dup, 1), (0, 0, 0)) := by decide +kernel
theorem xr_39_2 : X_row 39 2 = some (2, (.getfield 9, 3), (2, 3, 24)) := by decide +kernel
theorem xr_39_5 : X_row 39 5 = some (5, (.iconst 1, 1), (0, 0, 0)) := by decide +kernel
theorem xr_39_6 : X_row 39 6 = some (6, (.isub, 1), (0, 0, 0)) := by decide +kernel
theorem xr_39_7 : X_row 39 7 = some (7, (.putfield 9, 3), (2, 3, 24)) := by decide +kernel
theorem xr_39_10 : X_row 39 10 = some (10, (.aload_n 0, 1), (0, 0, 0)) := by decide +kernel
theorem xr_39_11 : X_row 39 11 = some (11, (.getfield 9, 3), (2, 3, 24)) := by decide +kernel
theorem xr_39_14 : X_row 39 14 = some (14, (.istore_n 1, 1), (0, 0, 0)) := by decide +kernel
theorem xr_39_15 : X_row 39 15 = some (15, (.aload_n 0, 1), (0, 0, 0)) := by decide +kernel
theorem xr_39_16 : X_row 39 16 = some (16, (.getfield 15, 3), (2, 4, 26)) := by decide +kernel
theorem xr_39_19 : X_row 39 19 = some (19, (.iload_n 1, 1), (0, 0, 0)) := by decide +kernel
theorem xr_39_20 : X_row 39 20 = some (20, (.iaload, 1), (0, 0, 0)) := by decide +kernel
theorem xr_39_21 : X_row 39 21 = some (21, (.istore_n 2, 1), (0, 0, 0)) := by decide +kernel
theorem xr_39_22 : X_row 39 22 = some (22, (.aload_n 0, 1), (0, 0, 0)) := by decide +kernel
theorem xr_39_23 : X_row 39 23 = some (23, (.getfield 19, 3), (2, 5, 28)) := by decide +kernel
theorem xr_39_26 : X_row 39 26 = some (26, (.iload_n 1, 1), (0, 0, 0)) := by decide +kernel
theorem xr_39_27 : X_row 39 27 = some (27, (.iaload, 1), (0, 0, 0)) := by decide +kernel
theorem xr_39_28 : X_row 39 28 = some (28, (.iload_n 2, 1), (0, 0, 0)) := by decide +kernel
theorem xr_39_29 : X_row 39 29 = some (29, (.isub, 1), (0, 0, 0)) := by decide +kernel
theorem xr_39_30 : X_row 39 30 = some (30, (.istore_n 3, 1), (0, 0, 0)) := by decide +kernel
theorem xr_39_31 : X_row 39 31 = some (31, (.aload_n 0, 1), (0, 0, 0)) := by decide +kernel
theorem xr_39_32 : X_row 39 32 = some (32, (.iload_n 1, 1), (0, 0, 0)) := by decide +kernel
theorem xr_39_33 : X_row 39 33 = some (33, (.invokevirtual 77, 3), (40, 8, 0)) := by decide +kernel
theorem xr_39_36 : X_row 39 36 = some (36, (.istore 4, 2), (0, 0, 0)) := by decide +kernel
theorem xr_39_38 : X_row 39 38 = some (38, (.iload 4, 2), (0, 0, 0)) := by decide +kernel
theorem xr_39_40 : X_row 39 40 = some (40, (.iconst (-1), 1), (0, 0, 0)) := by decide +kernel
theorem xr_39_41 : X_row 39 41 = some (41, (.if_icmp .ne 17, 3), (0, 0, 0)) := by decide +kernel
theorem xr_39_44 : X_row 39 44 = some (44, (.iload_n 3, 1), (0, 0, 0)) := by decide +kernel
theorem xr_39_45 : X_row 39 45 = some (45, (.iconst 1, 1), (0, 0, 0)) := by decide +kernel
theorem xr_39_46 : X_row 39 46 = some (46, (.if_icmp .ne 8, 3), (0, 0, 0)) := by decide +kernel
theorem xr_39_49 : X_row 39 49 = some (49, (.bipush (-2), 2), (0, 0, 0)) := by decide +kernel
theorem xr_39_51 : X_row 39 51 = some (51, (.goto 5, 3), (0, 0, 0)) := by decide +kernel
theorem xr_39_54 : X_row 39 54 = some (54, (.bipush (-3), 2), (0, 0, 0)) := by decide +kernel
theorem xr_39_56 : X_row 39 56 = some (56, (.istore 4, 2), (0, 0, 0)) := by decide +kernel
theorem xr_39_58 : X_row 39 58 = some (58, (.aload_n 0, 1), (0, 0, 0)) := by decide +kernel
theorem xr_39_59 : X_row 39 59 = some (59, (.getfield 52, 3), (2, 2, 22)) := by decide +kernel
theorem xr_39_62 : X_row 39 62 = some (62, (.iload 4, 2), (0, 0, 0)) := by decide +kernel
theorem xr_39_64 : X_row 39 64 = some (64, (.iload_n 2, 1), (0, 0, 0)) := by decide +kernel
theorem xr_39_65 : X_row 39 65 = some (65, (.iload_n 3, 1), (0, 0, 0)) := by decide +kernel
theorem xr_39_66 : X_row 39 66 = some (66, (.aload_n 0, 1), (0, 0, 0)) := by decide +kernel
theorem xr_39_67 : X_row 39 67 = some (67, (.getfield 22, 3), (2, 6, 30)) := by decide +kernel
theorem xr_39_70 : X_row 39 70 = some (70, (.iload_n 1, 1), (0, 0, 0)) := by decide +kernel
theorem xr_39_71 : X_row 39 71 = some (71, (.iaload, 1), (0, 0, 0)) := by decide +kernel
theorem xr_39_72 : X_row 39 72 = some (72, (.aload_n 0, 1), (0, 0, 0)) := by decide +kernel
theorem xr_39_73 : X_row 39 73 = some (73, (.getfield 25, 3), (2, 7, 32)) := by decide +kernel
theorem xr_39_76 : X_row 39 76 = some (76, (.iload_n 1, 1), (0, 0, 0)) := by decide +kernel
theorem xr_39_77 : X_row 39 77 = some (77, (.iaload, 1), (0, 0, 0)) := by decide +kernel
theorem xr_39_78 : X_row 39 78 = some (78, (.invokevirtual 81, 3), (80, 16, 0)) := by decide +kernel
theorem xr_39_81 : X_row 39 81 = some (81, (.istore 5, 2), (0, 0, 0)) := by decide +kernel
theorem xr_39_83 : X_row 39 83 = some (83, (.iload 4, 2), (0, 0, 0)) := by decide +kernel
theorem xr_39_85 : X_row 39 85 = some (85, (.ifCond .lt 43, 3), (0, 0, 0)) := by decide +kernel
theorem xr_39_88 : X_row 39 88 = some (88, (.aload_n 0, 1), (0, 0, 0)) := by decide +kernel
theorem xr_39_89 : X_row 39 89 = some (89, (.getfield 44, 3), (2, 0, 18)) := by decide +kernel
theorem xr_39_92 : X_row 39 92 = some (92, (.iload 4, 2), (0, 0, 0)) := by decide +kernel
theorem xr_39_94 : X_row 39 94 = some (94, (.iload_n 2, 1), (0, 0, 0)) := by decide +kernel
theorem xr_39_95 : X_row 39 95 = some (95, (.iload_n 2, 1), (0, 0, 0)) := by decide +kernel
theorem xr_39_96 : X_row 39 96 = some (96, (.iload_n 3, 1), (0, 0, 0)) := by decide +kernel
theorem xr_39_97 : X_row 39 97 = some (97, (.iadd, 1), (0, 0, 0)) := by decide +kernel
theorem xr_39_98 : X_row 39 98 = some (98, (.invokevirtual 85, 3), (32, 18, 0)) := by decide +kernel
theorem xr_39_101 : X_row 39 101 = some (101, (.aload_n 0, 1), (0, 0, 0)) := by decide +kernel
theorem xr_39_102 : X_row 39 102 = some (102, (.iload 4, 2), (0, 0, 0)) := by decide +kernel
theorem xr_39_104 : X_row 39 104 = some (104, (.iload 5, 2), (0, 0, 0)) := by decide +kernel
theorem xr_39_106 : X_row 39 106 = some (106, (.aload_n 0, 1), (0, 0, 0)) := by decide +kernel
theorem xr_39_107 : X_row 39 107 = some (107, (.iload 4, 2), (0, 0, 0)) := by decide +kernel
theorem xr_39_109 : X_row 39 109 = some (109, (.iload_n 2, 1), (0, 0, 0)) := by decide +kernel
theorem xr_39_110 : X_row 39 110 = some (110, (.iload_n 2, 1), (0, 0, 0)) := by decide +kernel
theorem xr_39_111 : X_row 39 111 = some (111, (.iload_n 3, 1), (0, 0, 0)) := by decide +kernel
theorem xr_39_112 : X_row 39 112 = some (112, (.iadd, 1), (0, 0, 0)) := by decide +kernel
theorem xr_39_113 : X_row 39 113 = some (113, (.aload_n 0, 1), (0, 0, 0)) := by decide +kernel
theorem xr_39_114 : X_row 39 114 = some (114, (.getfield 34, 3), (2, 10, 38)) := by decide +kernel
theorem xr_39_117 : X_row 39 117 = some (117, (.iload_n 1, 1), (0, 0, 0)) := by decide +kernel
theorem xr_39_118 : X_row 39 118 = some (118, (.laload, 1), (0, 0, 0)) := by decide +kernel
theorem xr_39_119 : X_row 39 119 = some (119, (.invokevirtual 91, 3), (41, 20, 0)) := by decide +kernel
theorem xr_39_122 : X_row 39 122 = some (122, (.invokevirtual 95, 3), (42, 30, 0)) := by decide +kernel
theorem xr_39_125 : X_row 39 125 = some (125, (.goto 61, 3), (0, 0, 0)) := by decide +kernel
theorem xr_39_128 : X_row 39 128 = some (128, (.iload 4, 2), (0, 0, 0)) := by decide +kernel
theorem xr_39_130 : X_row 39 130 = some (130, (.bipush (-3), 2), (0, 0, 0)) := by decide +kernel
theorem xr_39_132 : X_row 39 132 = some (132, (.if_icmp .ne 54, 3), (0, 0, 0)) := by decide +kernel
theorem xr_39_135 : X_row 39 135 = some (135, (.aload_n 0, 1), (0, 0, 0)) := by decide +kernel
theorem xr_39_136 : X_row 39 136 = some (136, (.getfield 31, 3), (2, 9, 36)) := by decide +kernel
theorem xr_39_139 : X_row 39 139 = some (139, (.iload_n 1, 1), (0, 0, 0)) := by decide +kernel
theorem xr_39_140 : X_row 39 140 = some (140, (.iaload, 1), (0, 0, 0)) := by decide +kernel
theorem xr_39_141 : X_row 39 141 = some (141, (.istore 6, 2), (0, 0, 0)) := by decide +kernel
theorem xr_39_143 : X_row 39 143 = some (143, (.aload_n 0, 1), (0, 0, 0)) := by decide +kernel
theorem xr_39_144 : X_row 39 144 = some (144, (.getfield 34, 3), (2, 10, 38)) := by decide +kernel
theorem xr_39_147 : X_row 39 147 = some (147, (.iload_n 1, 1), (0, 0, 0)) := by decide +kernel
theorem xr_39_148 : X_row 39 148 = some (148, (.laload, 1), (0, 0, 0)) := by decide +kernel
theorem xr_39_149 : X_row 39 149 = some (149, (.lstore 7, 2), (0, 0, 0)) := by decide +kernel
theorem xr_39_151 : X_row 39 151 = some (151, (.aload_n 0, 1), (0, 0, 0)) := by decide +kernel
theorem xr_39_152 : X_row 39 152 = some (152, (.iload_n 2, 1), (0, 0, 0)) := by decide +kernel
theorem xr_39_153 : X_row 39 153 = some (153, (.iconst 1, 1), (0, 0, 0)) := by decide +kernel
theorem xr_39_154 : X_row 39 154 = some (154, (.iadd, 1), (0, 0, 0)) := by decide +kernel
theorem xr_39_155 : X_row 39 155 = some (155, (.iload_n 2, 1), (0, 0, 0)) := by decide +kernel
theorem xr_39_156 : X_row 39 156 = some (156, (.iload_n 3, 1), (0, 0, 0)) := by decide +kernel
theorem xr_39_157 : X_row 39 157 = some (157, (.iadd, 1), (0, 0, 0)) := by decide +kernel
theorem xr_39_158 : X_row 39 158 = some (158, (.iconst 1, 1), (0, 0, 0)) := by decide +kernel
theorem xr_39_159 : X_row 39 159 = some (159, (.isub, 1), (0, 0, 0)) := by decide +kernel
theorem xr_39_160 : X_row 39 160 = some (160, (.iload 5, 2), (0, 0, 0)) := by decide +kernel
theorem xr_39_162 : X_row 39 162 = some (162, (.iconst 0, 1), (0, 0, 0)) := by decide +kernel
theorem xr_39_163 : X_row 39 163 = some (163, (.invokevirtual 66, 3), (37, 2, 0)) := by decide +kernel
theorem xr_39_166 : X_row 39 166 = some (166, (.aload_n 0, 1), (0, 0, 0)) := by decide +kernel
theorem xr_39_167 : X_row 39 167 = some (167, (.aload_n 0, 1), (0, 0, 0)) := by decide +kernel
theorem xr_39_168 : X_row 39 168 = some (168, (.getfield 44, 3), (2, 0, 18)) := by decide +kernel
theorem xr_39_171 : X_row 39 171 = some (171, (.getfield 98, 3), (1, 0, 17)) := by decide +kernel
theorem xr_39_174 : X_row 39 174 = some (174, (.iload 6, 2), (0, 0, 0)) := by decide +kernel
theorem xr_39_176 : X_row 39 176 = some (176, (.invokevirtual 102, 3), (14, 32, 0)) := by decide +kernel
theorem xr_39_179 : X_row 39 179 = some (179, (.iload 6, 2), (0, 0, 0)) := by decide +kernel
theorem xr_39_181 : X_row 39 181 = some (181, (.lload 7, 2), (0, 0, 0)) := by decide +kernel
theorem xr_39_183 : X_row 39 183 = some (183, (.invokevirtual 70, 3), (38, 4, 0)) := by decide +kernel
theorem xr_39_186 : X_row 39 186 = some (186, (.return_, 1), (0, 0, 0)) := by decide +kernel
theorem xr_80_0 : X_row 80 0 = some (0, (.aload_n 0, 1), (0, 0, 0)) := by decide +kernel
theorem xr_80_1 : X_row 80 1 = some (1, (.getfield 9, 3), (5, 0, 0)) := by decide +kernel
theorem xr_80_4 : X_row 80 4 = some (4, (.bipush 30, 2), (0, 0, 0)) := by decide +kernel
theorem xr_80_6 : X_row 80 6 = some (6, (.if_icmp .lt 5, 3), (0, 0, 0)) := by decide +kernel
theorem xr_80_11 : X_row 80 11 = some (11, (.aload_n 0, 1), (0, 0, 0)) := by decide +kernel
theorem xr_80_12 : X_row 80 12 = some (12, (.getfield 9, 3), (5, 0, 0)) := by decide +kernel
theorem xr_80_15 : X_row 80 15 = some (15, (.istore 6, 2), (0, 0, 0)) := by decide +kernel
theorem xr_80_17 : X_row 80 17 = some (17, (.aload_n 0, 1), (0, 0, 0)) := by decide +kernel
theorem xr_80_18 : X_row 80 18 = some (18, (.getfield 15, 3), (5, 1, 2)) := by decide +kernel
theorem xr_80_21 : X_row 80 21 = some (21, (.iload 6, 2), (0, 0, 0)) := by decide +kernel
theorem xr_80_23 : X_row 80 23 = some (23, (.iload_n 1, 1), (0, 0, 0)) := by decide +kernel
theorem xr_80_24 : X_row 80 24 = some (24, (.iastore, 1), (0, 0, 0)) := by decide +kernel
theorem xr_80_25 : X_row 80 25 = some (25, (.aload_n 0, 1), (0, 0, 0)) := by decide +kernel
theorem xr_80_26 : X_row 80 26 = some (26, (.getfield 19, 3), (5, 2, 4)) := by decide +kernel
theorem xr_80_29 : X_row 80 29 = some (29, (.iload 6, 2), (0, 0, 0)) := by decide +kernel
theorem xr_80_31 : X_row 80 31 = some (31, (.iload_n 2, 1), (0, 0, 0)) := by decide +kernel
theorem xr_80_32 : X_row 80 32 = some (32, (.iastore, 1), (0, 0, 0)) := by decide +kernel
theorem xr_80_33 : X_row 80 33 = some (33, (.aload_n 0, 1), (0, 0, 0)) := by decide +kernel
theorem xr_80_34 : X_row 80 34 = some (34, (.getfield 22, 3), (5, 3, 6)) := by decide +kernel
theorem xr_80_37 : X_row 80 37 = some (37, (.iload 6, 2), (0, 0, 0)) := by decide +kernel
theorem xr_80_39 : X_row 80 39 = some (39, (.iload_n 3, 1), (0, 0, 0)) := by decide +kernel
theorem xr_80_40 : X_row 80 40 = some (40, (.iastore, 1), (0, 0, 0)) := by decide +kernel
theorem xr_80_41 : X_row 80 41 = some (41, (.aload_n 0, 1), (0, 0, 0)) := by decide +kernel
theorem xr_80_42 : X_row 80 42 = some (42, (.getfield 25, 3), (5, 4, 8)) := by decide +kernel
theorem xr_80_45 : X_row 80 45 = some (45, (.iload 6, 2), (0, 0, 0)) := by decide +kernel
theorem xr_80_47 : X_row 80 47 = some (47, (.iload 4, 2), (0, 0, 0)) := by decide +kernel
theorem xr_80_49 : X_row 80 49 = some (49, (.iastore, 1), (0, 0, 0)) := by decide +kernel
theorem xr_80_50 : X_row 80 50 = some (50, (.aload_n 0, 1), (0, 0, 0)) := by decide +kernel
theorem xr_80_51 : X_row 80 51 = some (51, (.getfield 28, 3), (5, 5, 10)) := by decide +kernel
theorem xr_80_54 : X_row 80 54 = some (54, (.iload 6, 2), (0, 0, 0)) := by decide +kernel
theorem xr_80_56 : X_row 80 56 = some (56, (.iload 5, 2), (0, 0, 0)) := by decide +kernel
theorem xr_80_58 : X_row 80 58 = some (58, (.iastore, 1), (0, 0, 0)) := by decide +kernel
theorem xr_80_59 : X_row 80 59 = some (59, (.iload 4, 2), (0, 0, 0)) := by decide +kernel
theorem xr_80_61 : X_row 80 61 = some (61, (.ifCond .lt 22, 3), (0, 0, 0)) := by decide +kernel
theorem xr_80_64 : X_row 80 64 = some (64, (.iload 5, 2), (0, 0, 0)) := by decide +kernel
theorem xr_80_66 : X_row 80 66 = some (66, (.ifCond .lt 17, 3), (0, 0, 0)) := by decide +kernel
theorem xr_80_69 : X_row 80 69 = some (69, (.aload_n 0, 1), (0, 0, 0)) := by decide +kernel
theorem xr_80_70 : X_row 80 70 = some (70, (.getfield 31, 3), (5, 6, 12)) := by decide +kernel
theorem xr_80_73 : X_row 80 73 = some (73, (.iload 4, 2), (0, 0, 0)) := by decide +kernel
theorem xr_80_75 : X_row 80 75 = some (75, (.iconst 4, 1), (0, 0, 0)) := by decide +kernel
theorem xr_80_76 : X_row 80 76 = some (76, (.imul, 1), (0, 0, 0)) := by decide +kernel
theorem xr_80_77 : X_row 80 77 = some (77, (.iload 5, 2), (0, 0, 0)) := by decide +kernel
theorem xr_80_79 : X_row 80 79 = some (79, (.iadd, 1), (0, 0, 0)) := by decide +kernel
theorem xr_80_80 : X_row 80 80 = some (80, (.iload 6, 2), (0, 0, 0)) := by decide +kernel
theorem xr_80_82 : X_row 80 82 = some (82, (.iastore, 1), (0, 0, 0)) := by decide +kernel
theorem xr_80_83 : X_row 80 83 = some (83, (.aload_n 0, 1), (0, 0, 0)) := by decide +kernel
theorem xr_80_84 : X_row 80 84 = some (84, (.dup, 1), (0, 0, 0)) := by decide +kernel
theorem xr_80_85 : X_row 80 85 = some (85, (.getfield 9, 3), (5, 0, 0)) := by decide +kernel
theorem xr_80_88 : X_row 80 88 = some (88, (.iconst 1, 1), (0, 0, 0)) := by decide +kernel
theorem xr_80_89 : X_row 80 89 = some (89, (.iadd, 1), (0, 0, 0)) := by decide +kernel
theorem xr_80_90 : X_row 80 90 = some (90, (.putfield 9, 3), (5, 0, 0)) := by decide +kernel
theorem xr_80_93 : X_row 80 93 = some (93, (.iload 6, 2), (0, 0, 0)) := by decide +kernel
theorem xr_80_95 : X_row 80 95 = some (95, (.ireturn, 1), (0, 0, 0)) := by decide +kernel
theorem xn_39 : X_nL 39 = 9 := by decide +kernel
theorem xf_39 : X_na 39 = 0 ∧ X_ci 39 = 2 ∧ X_rt 39 = none := by decide +kernel
theorem xn_80 : X_nL 80 = 7 := by decide +kernel
theorem xf_80 : X_na 80 = 5 ∧ X_ci 80 = 5 ∧ X_rt 80 = (some .int) := by decide +kernel
theorem c_add (sc : X_Sc) (S : X_S) (nW : Int → Int) (nF : Int → Int) (nL : Int → Int) (nP : Int → Int) (nH : Int → Int) (nC : Int → Int) (nc : Int) (N : Int → Int → Int) (a : Int) (b : Int) (c : Int) (d : Int) (e : Int) (hO504 : S.1 504 = .inr (5, [.int (iI nc), .ref 505, .ref 506, .ref 507, .ref 508, .ref 509, .ref 510])) (hA505 : S.1 505 = .inl (.int, 30, .inl fun k : Nat => iI (nW (k : Int)))) (hA506 : S.1 506 = .inl (.int, 30, .inl fun k : Nat => iI (nF (k : Int)))) (hA507 : S.1 507 = .inl (.int, 30, .inl fun k : Nat => iI (nL (k : Int)))) (hA508 : S.1 508 = .inl (.int, 30, .inl fun k : Nat => iI (nP (k : Int)))) (hA509 : S.1 509 = .inl (.int, 30, .inl fun k : Nat => iI (nH (k : Int)))) (hA510 : S.1 510 = .inl (.int, 120, .inl fun k : Nat => iI (nC (k : Int)))) (hnc : 0 ≤ nc ∧ nc < 30) (hd : -1 ≤ d ∧ d < 30 ∧ -1 ≤ e ∧ e ≤ 3) (hnd : F_nd nc N nW nF nL nP nH) (hch : F_ch nc N nC) : X_T sc 80 (0, [(0, .ref 504), (1, .int (iI a)), (2, .int (iI b)), (3, .int (iI c)), (4, .int (iI d)), (5, .int (iI e))], [], S) (fun v S' => ∃ (nW1 : Int → Int) (nF1 : Int → Int) (nL1 : Int → Int) (nP1 : Int → Int) (nH1 : Int → Int) (nC1 : Int → Int), v = some (.int (iI nc)) ∧ F_nd (nc + 1) (X_nn N nc a b c d e) nW1 nF1 nL1 nP1 nH1 ∧ F_ch (nc + 1) (X_nn N nc a b c d e) nC1 ∧ S'.1 504 = .inr (5, [.int (iI (nc + 1)), .ref 505, .ref 506, .ref 507, .ref 508, .ref 509, .ref 510]) ∧ S'.1 505 = .inl (.int, 30, .inl fun k : Nat => iI (nW1 (k : Int))) ∧ S'.1 506 = .inl (.int, 30, .inl fun k : Nat => iI (nF1 (k : Int))) ∧ S'.1 507 = .inl (.int, 30, .inl fun k : Nat => iI (nL1 (k : Int))) ∧ S'.1 508 = .inl (.int, 30, .inl fun k : Nat => iI (nP1 (k : Int))) ∧ S'.1 509 = .inl (.int, 30, .inl fun k : Nat => iI (nH1 (k : Int))) ∧ S'.1 510 = .inl (.int, 120, .inl fun k : Nat => iI (nC1 (k : Int))) ∧ (X_Fr (fun q => 504 ≤ q ∧ q ≤ 510) S S')) := by
  refine X_QI (fun Q hQ => ?_)
  refine T_p xr_80_0 xn_80 (pc' := 1) (ls' := [(0, .ref 504), (1, .int (iI a)), (2, .int (iI b)), (3, .int (iI c)), (4, .int (iI d)), (5, .int (iI e))]) (st' := [.ref 504]) rfl ?_
  refine T_get xr_80_1 hO504 rfl (v := .int (iI nc)) rfl (pc' := 4) rfl ?_
  refine T_p xr_80_4 xn_80 (pc' := 6) (ls' := [(0, .ref 504), (1, .int (iI a)), (2, .int (iI b)), (3, .int (iI c)), (4, .int (iI d)), (5, .int (iI e))]) (st' := [.int (iI 30), .int (iI nc)]) rfl ?_
  refine T_zicmp_lt xr_80_6 (t := 11) (pc' := 9) rfl rfl (fun c1225 => ?_) (fun c1225 => ?_)
  · skip
    have c1225 : nc < 30 := c1225
    refine T_p xr_80_11 xn_80 (pc' := 12) (ls' := [(0, .ref 504), (1, .int (iI a)), (2, .int (iI b)), (3, .int (iI c)), (4, .int (iI d)), (5, .int (iI e))]) (st' := [.ref 504]) rfl ?_
    refine T_get xr_80_12 hO504 rfl (v := .int (iI nc)) rfl (pc' := 15) rfl ?_
    refine T_p xr_80_15 xn_80 (pc' := 17) (ls' := [(6, .int (iI nc)), (0, .ref 504), (1, .int (iI a)), (2, .int (iI b)), (3, .int (iI c)), (4, .int (iI d)), (5, .int (iI e))]) (st' := []) rfl ?_
    refine T_p xr_80_17 xn_80 (pc' := 18) (ls' := [(6, .int (iI nc)), (0, .ref 504), (1, .int (iI a)), (2, .int (iI b)), (3, .int (iI c)), (4, .int (iI d)), (5, .int (iI e))]) (st' := [.ref 504]) rfl ?_
    refine T_get xr_80_18 hO504 rfl (v := .ref 505) rfl (pc' := 21) rfl ?_
    refine T_p xr_80_21 xn_80 (pc' := 23) (ls' := [(6, .int (iI nc)), (0, .ref 504), (1, .int (iI a)), (2, .int (iI b)), (3, .int (iI c)), (4, .int (iI d)), (5, .int (iI e))]) (st' := [.int (iI nc), .ref 505]) rfl ?_
    refine T_p xr_80_23 xn_80 (pc' := 24) (ls' := [(6, .int (iI nc)), (0, .ref 504), (1, .int (iI a)), (2, .int (iI b)), (3, .int (iI c)), (4, .int (iI d)), (5, .int (iI e))]) (st' := [.int (iI a), .int (iI nc), .ref 505]) rfl ?_
    refine T_ziast xr_80_24 hA505 (pc' := 25) rfl (fun S1226 h1227 n1228 e1229 => ?_)
    refine T_p xr_80_25 xn_80 (pc' := 26) (ls' := [(6, .int (iI nc)), (0, .ref 504), (1, .int (iI a)), (2, .int (iI b)), (3, .int (iI c)), (4, .int (iI d)), (5, .int (iI e))]) (st' := [.ref 504]) rfl ?_
    have h1230 := (n1228 504 (by decide)).trans (hO504)
    refine T_get xr_80_26 h1230 rfl (v := .ref 506) rfl (pc' := 29) rfl ?_
    refine T_p xr_80_29 xn_80 (pc' := 31) (ls' := [(6, .int (iI nc)), (0, .ref 504), (1, .int (iI a)), (2, .int (iI b)), (3, .int (iI c)), (4, .int (iI d)), (5, .int (iI e))]) (st' := [.int (iI nc), .ref 506]) rfl ?_
    refine T_p xr_80_31 xn_80 (pc' := 32) (ls' := [(6, .int (iI nc)), (0, .ref 504), (1, .int (iI a)), (2, .int (iI b)), (3, .int (iI c)), (4, .int (iI d)), (5, .int (iI e))]) (st' := [.int (iI b), .int (iI nc), .ref 506]) rfl ?_
    have h1231 := (n1228 506 (by decide)).trans (hA506)
    refine T_ziast xr_80_32 h1231 (pc' := 33) rfl (fun S1232 h1233 n1234 e1235 => ?_)
    refine T_p xr_80_33 xn_80 (pc' := 34) (ls' := [(6, .int (iI nc)), (0, .ref 504), (1, .int (iI a)), (2, .int (iI b)), (3, .int (iI c)), (4, .int (iI d)), (5, .int (iI e))]) (st' := [.ref 504]) rfl ?_
    have h1236 := (n1234 504 (by decide)).trans (h1230)
    refine T_get xr_80_34 h1236 rfl (v := .ref 507) rfl (pc' := 37) rfl ?_
    refine T_p xr_80_37 xn_80 (pc' := 39) (ls' := [(6, .int (iI nc)), (0, .ref 504), (1, .int (iI a)), (2, .int (iI b)), (3, .int (iI c)), (4, .int (iI d)), (5, .int (iI e))]) (st' := [.int (iI nc), .ref 507]) rfl ?_
    refine T_p xr_80_39 xn_80 (pc' := 40) (ls' := [(6, .int (iI nc)), (0, .ref 504), (1, .int (iI a)), (2, .int (iI b)), (3, .int (iI c)), (4, .int (iI d)), (5, .int (iI e))]) (st' := [.int (iI c), .int (iI nc), .ref 507]) rfl ?_
    have h1237 := (n1234 507 (by decide)).trans ((n1228 507 (by decide)).trans (hA507))
    refine T_ziast xr_80_40 h1237 (pc' := 41) rfl (fun S1238 h1239 n1240 e1241 => ?_)
    refine T_p xr_80_41 xn_80 (pc' := 42) (ls' := [(6, .int (iI nc)), (0, .ref 504), (1, .int (iI a)), (2, .int (iI b)), (3, .int (iI c)), (4, .int (iI d)), (5, .int (iI e))]) (st' := [.ref 504]) rfl ?_
    have h1242 := (n1240 504 (by decide)).trans (h1236)
    refine T_get xr_80_42 h1242 rfl (v := .ref 508) rfl (pc' := 45) rfl ?_
    refine T_p xr_80_45 xn_80 (pc' := 47) (ls' := [(6, .int (iI nc)), (0, .ref 504), (1, .int (iI a)), (2, .int (iI b)), (3, .int (iI c)), (4, .int (iI d)), (5, .int (iI e))]) (st' := [.int (iI nc), .ref 508]) rfl ?_
    refine T_p xr_80_47 xn_80 (pc' := 49) (ls' := [(6, .int (iI nc)), (0, .ref 504), (1, .int (iI a)), (2, .int (iI b)), (3, .int (iI c)), (4, .int (iI d)), (5, .int (iI e))]) (st' := [.int (iI d), .int (iI nc), .ref 508]) rfl ?_
    have h1243 := (n1240 508 (by decide)).trans ((n1234 508 (by decide)).trans ((n1228 508 (by decide)).trans (hA508)))
    refine T_ziast xr_80_49 h1243 (pc' := 50) rfl (fun S1244 h1245 n1246 e1247 => ?_)
    refine T_p xr_80_50 xn_80 (pc' := 51) (ls' := [(6, .int (iI nc)), (0, .ref 504), (1, .int (iI a)), (2, .int (iI b)), (3, .int (iI c)), (4, .int (iI d)), (5, .int (iI e))]) (st' := [.ref 504]) rfl ?_
    have h1248 := (n1246 504 (by decide)).trans (h1242)
    refine T_get xr_80_51 h1248 rfl (v := .ref 509) rfl (pc' := 54) rfl ?_
    refine T_p xr_80_54 xn_80 (pc' := 56) (ls' := [(6, .int (iI nc)), (0, .ref 504), (1, .int (iI a)), (2, .int (iI b)), (3, .int (iI c)), (4, .int (iI d)), (5, .int (iI e))]) (st' := [.int (iI nc), .ref 509]) rfl ?_
    refine T_p xr_80_56 xn_80 (pc' := 58) (ls' := [(6, .int (iI nc)), (0, .ref 504), (1, .int (iI a)), (2, .int (iI b)), (3, .int (iI c)), (4, .int (iI d)), (5, .int (iI e))]) (st' := [.int (iI e), .int (iI nc), .ref 509]) rfl ?_
    have h1249 := (n1246 509 (by decide)).trans ((n1240 509 (by decide)).trans ((n1234 509 (by decide)).trans ((n1228 509 (by decide)).trans (hA509))))
    refine T_ziast xr_80_58 h1249 (pc' := 59) rfl (fun S1250 h1251 n1252 e1253 => ?_)
    refine T_p xr_80_59 xn_80 (pc' := 61) (ls' := [(6, .int (iI nc)), (0, .ref 504), (1, .int (iI a)), (2, .int (iI b)), (3, .int (iI c)), (4, .int (iI d)), (5, .int (iI e))]) (st' := [.int (iI d)]) rfl ?_
    refine T_zif_lt xr_80_61 (t := 83) (pc' := 64) rfl rfl (fun c1254 => ?_) (fun c1254 => ?_)
    · skip
      have c1254 : d < 0 := c1254
      refine T_p xr_80_83 xn_80 (pc' := 84) (ls' := [(6, .int (iI nc)), (0, .ref 504), (1, .int (iI a)), (2, .int (iI b)), (3, .int (iI c)), (4, .int (iI d)), (5, .int (iI e))]) (st' := [.ref 504]) rfl ?_
      refine T_p xr_80_84 xn_80 (pc' := 85) (ls' := [(6, .int (iI nc)), (0, .ref 504), (1, .int (iI a)), (2, .int (iI b)), (3, .int (iI c)), (4, .int (iI d)), (5, .int (iI e))]) (st' := [.ref 504, .ref 504]) rfl ?_
      have h1255 := (n1252 504 (by decide)).trans (h1248)
      refine T_get xr_80_85 h1255 rfl (v := .int (iI nc)) rfl (pc' := 88) rfl ?_
      refine T_p xr_80_88 xn_80 (pc' := 89) (ls' := [(6, .int (iI nc)), (0, .ref 504), (1, .int (iI a)), (2, .int (iI b)), (3, .int (iI c)), (4, .int (iI d)), (5, .int (iI e))]) (st' := [.int (iI 1), .int (iI nc), .ref 504]) rfl ?_
      refine T_ziadd xr_80_89 (z := nc + 1) rfl (pc' := 90) rfl ?_
      refine T_put xr_80_90 h1255 rfl (Nat.le_of_ble_eq_true rfl) rfl (fs' := [.int (iI (nc + 1)), .ref 505, .ref 506, .ref 507, .ref 508, .ref 509, .ref 510]) rfl (pc' := 93) rfl (fun S1256 h1257 n1258 e1259 => ?_)
      refine T_p xr_80_93 xn_80 (pc' := 95) (ls' := [(6, .int (iI nc)), (0, .ref 504), (1, .int (iI a)), (2, .int (iI b)), (3, .int (iI c)), (4, .int (iI d)), (5, .int (iI e))]) (st' := [.int (iI nc)]) rfl ?_
      refine T_iret xr_80_95 xf_80.2.2 rfl ?_
      refine hQ _ _ ?_
      have h1260 := (n1258 505 (by decide)).trans ((n1252 505 (by decide)).trans ((n1246 505 (by decide)).trans ((n1240 505 (by decide)).trans ((n1234 505 (by decide)).trans (h1227)))))
      have h1261 := (n1258 506 (by decide)).trans ((n1252 506 (by decide)).trans ((n1246 506 (by decide)).trans ((n1240 506 (by decide)).trans (h1233))))
      have h1262 := (n1258 507 (by decide)).trans ((n1252 507 (by decide)).trans ((n1246 507 (by decide)).trans (h1239)))
      have h1263 := (n1258 508 (by decide)).trans ((n1252 508 (by decide)).trans (h1245))
      have h1264 := (n1258 509 (by decide)).trans (h1251)
      have h1265 := (n1258 510 (by decide)).trans ((n1252 510 (by decide)).trans ((n1246 510 (by decide)).trans ((n1240 510 (by decide)).trans ((n1234 510 (by decide)).trans ((n1228 510 (by decide)).trans (hA510))))))
      exact ⟨(X_ug nW nc a), (X_ug nF nc b), (X_ug nL nc c), (X_ug nP nc d), (X_ug nH nc e), nC, rfl, (F_nd.add hnd), (F_ch.add0 hch hnc.1 (by omega)), h1257, h1260, h1261, h1262, h1263, h1264, h1265, ((((((X_Fr.rf).tr (X_Fr.of n1228 e1229 (by omega))).tr (X_Fr.of n1234 e1235 (by omega))).tr (X_Fr.of n1240 e1241 (by omega))).tr (X_Fr.of n1246 e1247 (by omega))).tr (X_Fr.of n1252 e1253 (by omega))).tr (X_Fr.of n1258 e1259 (by omega))⟩
    · skip
      have c1254 : ¬ (d < 0) := c1254
      refine T_p xr_80_64 xn_80 (pc' := 66) (ls' := [(6, .int (iI nc)), (0, .ref 504), (1, .int (iI a)), (2, .int (iI b)), (3, .int (iI c)), (4, .int (iI d)), (5, .int (iI e))]) (st' := [.int (iI e)]) rfl ?_
      refine T_zif_lt xr_80_66 (t := 83) (pc' := 69) rfl rfl (fun c1266 => ?_) (fun c1266 => ?_)
      · skip
        have c1266 : e < 0 := c1266
        refine T_p xr_80_83 xn_80 (pc' := 84) (ls' := [(6, .int (iI nc)), (0, .ref 504), (1, .int (iI a)), (2, .int (iI b)), (3, .int (iI c)), (4, .int (iI d)), (5, .int (iI e))]) (st' := [.ref 504]) rfl ?_
        refine T_p xr_80_84 xn_80 (pc' := 85) (ls' := [(6, .int (iI nc)), (0, .ref 504), (1, .int (iI a)), (2, .int (iI b)), (3, .int (iI c)), (4, .int (iI d)), (5, .int (iI e))]) (st' := [.ref 504, .ref 504]) rfl ?_
        have h1267 := (n1252 504 (by decide)).trans (h1248)
        refine T_get xr_80_85 h1267 rfl (v := .int (iI nc)) rfl (pc' := 88) rfl ?_
        refine T_p xr_80_88 xn_80 (pc' := 89) (ls' := [(6, .int (iI nc)), (0, .ref 504), (1, .int (iI a)), (2, .int (iI b)), (3, .int (iI c)), (4, .int (iI d)), (5, .int (iI e))]) (st' := [.int (iI 1), .int (iI nc), .ref 504]) rfl ?_
        refine T_ziadd xr_80_89 (z := nc + 1) rfl (pc' := 90) rfl ?_
        refine T_put xr_80_90 h1267 rfl (Nat.le_of_ble_eq_true rfl) rfl (fs' := [.int (iI (nc + 1)), .ref 505, .ref 506, .ref 507, .ref 508, .ref 509, .ref 510]) rfl (pc' := 93) rfl (fun S1268 h1269 n1270 e1271 => ?_)
        refine T_p xr_80_93 xn_80 (pc' := 95) (ls' := [(6, .int (iI nc)), (0, .ref 504), (1, .int (iI a)), (2, .int (iI b)), (3, .int (iI c)), (4, .int (iI d)), (5, .int (iI e))]) (st' := [.int (iI nc)]) rfl ?_
        refine T_iret xr_80_95 xf_80.2.2 rfl ?_
        refine hQ _ _ ?_
        have h1272 := (n1270 505 (by decide)).trans ((n1252 505 (by decide)).trans ((n1246 505 (by decide)).trans ((n1240 505 (by decide)).trans ((n1234 505 (by decide)).trans (h1227)))))
        have h1273 := (n1270 506 (by decide)).trans ((n1252 506 (by decide)).trans ((n1246 506 (by decide)).trans ((n1240 506 (by decide)).trans (h1233))))
        have h1274 := (n1270 507 (by decide)).trans ((n1252 507 (by decide)).trans ((n1246 507 (by decide)).trans (h1239)))
        have h1275 := (n1270 508 (by decide)).trans ((n1252 508 (by decide)).trans (h1245))
        have h1276 := (n1270 509 (by decide)).trans (h1251)
        have h1277 := (n1270 510 (by decide)).trans ((n1252 510 (by decide)).trans ((n1246 510 (by decide)).trans ((n1240 510 (by decide)).trans ((n1234 510 (by decide)).trans ((n1228 510 (by decide)).trans (hA510))))))
        exact ⟨(X_ug nW nc a), (X_ug nF nc b), (X_ug nL nc c), (X_ug nP nc d), (X_ug nH nc e), nC, rfl, (F_nd.add hnd), (F_ch.add0 hch hnc.1 (by omega)), h1269, h1272, h1273, h1274, h1275, h1276, h1277, ((((((X_Fr.rf).tr (X_Fr.of n1228 e1229 (by omega))).tr (X_Fr.of n1234 e1235 (by omega))).tr (X_Fr.of n1240 e1241 (by omega))).tr (X_Fr.of n1246 e1247 (by omega))).tr (X_Fr.of n1252 e1253 (by omega))).tr (X_Fr.of n1270 e1271 (by omega))⟩
      · skip
        have c1266 : ¬ (e < 0) := c1266
        refine T_p xr_80_69 xn_80 (pc' := 70) (ls' := [(6, .int (iI nc)), (0, .ref 504), (1, .int (iI a)), (2, .int (iI b)), (3, .int (iI c)), (4, .int (iI d)), (5, .int (iI e))]) (st' := [.ref 504]) rfl ?_
        have h1278 := (n1252 504 (by decide)).trans (h1248)
        refine T_get xr_80_70 h1278 rfl (v := .ref 510) rfl (pc' := 73) rfl ?_
        refine T_p xr_80_73 xn_80 (pc' := 75) (ls' := [(6, .int (iI nc)), (0, .ref 504), (1, .int (iI a)), (2, .int (iI b)), (3, .int (iI c)), (4, .int (iI d)), (5, .int (iI e))]) (st' := [.int (iI d), .ref 510]) rfl ?_
        refine T_p xr_80_75 xn_80 (pc' := 76) (ls' := [(6, .int (iI nc)), (0, .ref 504), (1, .int (iI a)), (2, .int (iI b)), (3, .int (iI c)), (4, .int (iI d)), (5, .int (iI e))]) (st' := [.int (iI 4), .int (iI d), .ref 510]) rfl ?_
        refine T_zimul xr_80_76 (z := d * 4) rfl (pc' := 77) rfl ?_
        refine T_p xr_80_77 xn_80 (pc' := 79) (ls' := [(6, .int (iI nc)), (0, .ref 504), (1, .int (iI a)), (2, .int (iI b)), (3, .int (iI c)), (4, .int (iI d)), (5, .int (iI e))]) (st' := [.int (iI e), .int (iI (d * 4)), .ref 510]) rfl ?_
        refine T_ziadd xr_80_79 (z := (d * 4) + e) rfl (pc' := 80) rfl ?_
        refine T_p xr_80_80 xn_80 (pc' := 82) (ls' := [(6, .int (iI nc)), (0, .ref 504), (1, .int (iI a)), (2, .int (iI b)), (3, .int (iI c)), (4, .int (iI d)), (5, .int (iI e))]) (st' := [.int (iI nc), .int (iI ((d * 4) + e)), .ref 510]) rfl ?_
        have h1279 := (n1252 510 (by decide)).trans ((n1246 510 (by decide)).trans ((n1240 510 (by decide)).trans ((n1234 510 (by decide)).trans ((n1228 510 (by decide)).trans (hA510)))))
        refine T_ziast xr_80_82 h1279 (pc' := 83) rfl (fun S1280 h1281 n1282 e1283 => ?_)
        refine T_p xr_80_83 xn_80 (pc' := 84) (ls' := [(6, .int (iI nc)), (0, .ref 504), (1, .int (iI a)), (2, .int (iI b)), (3, .int (iI c)), (4, .int (iI d)), (5, .int (iI e))]) (st' := [.ref 504]) rfl ?_
        refine T_p xr_80_84 xn_80 (pc' := 85) (ls' := [(6, .int (iI nc)), (0, .ref 504), (1, .int (iI a)), (2, .int (iI b)), (3, .int (iI c)), (4, .int (iI d)), (5, .int (iI e))]) (st' := [.ref 504, .ref 504]) rfl ?_
        have h1284 := (n1282 504 (by decide)).trans (h1278)
        refine T_get xr_80_85 h1284 rfl (v := .int (iI nc)) rfl (pc' := 88) rfl ?_
        refine T_p xr_80_88 xn_80 (pc' := 89) (ls' := [(6, .int (iI nc)), (0, .ref 504), (1, .int (iI a)), (2, .int (iI b)), (3, .int (iI c)), (4, .int (iI d)), (5, .int (iI e))]) (st' := [.int (iI 1), .int (iI nc), .ref 504]) rfl ?_
        refine T_ziadd xr_80_89 (z := nc + 1) rfl (pc' := 90) rfl ?_
        refine T_put xr_80_90 h1284 rfl (Nat.le_of_ble_eq_true rfl) rfl (fs' := [.int (iI (nc + 1)), .ref 505, .ref 506, .ref 507, .ref 508, .ref 509, .ref 510]) rfl (pc' := 93) rfl (fun S1285 h1286 n1287 e1288 => ?_)
        refine T_p xr_80_93 xn_80 (pc' := 95) (ls' := [(6, .int (iI nc)), (0, .ref 504), (1, .int (iI a)), (2, .int (iI b)), (3, .int (iI c)), (4, .int (iI d)), (5, .int (iI e))]) (st' := [.int (iI nc)]) rfl ?_
        refine T_iret xr_80_95 xf_80.2.2 rfl ?_
        refine hQ _ _ ?_
        have h1289 := (n1287 505 (by decide)).trans ((n1282 505 (by decide)).trans ((n1252 505 (by decide)).trans ((n1246 505 (by decide)).trans ((n1240 505 (by decide)).trans ((n1234 505 (by decide)).trans (h1227))))))
        have h1290 := (n1287 506 (by decide)).trans ((n1282 506 (by decide)).trans ((n1252 506 (by decide)).trans ((n1246 506 (by decide)).trans ((n1240 506 (by decide)).trans (h1233)))))
        have h1291 := (n1287 507 (by decide)).trans ((n1282 507 (by decide)).trans ((n1252 507 (by decide)).trans ((n1246 507 (by decide)).trans (h1239))))
        have h1292 := (n1287 508 (by decide)).trans ((n1282 508 (by decide)).trans ((n1252 508 (by decide)).trans (h1245)))
        have h1293 := (n1287 509 (by decide)).trans ((n1282 509 (by decide)).trans (h1251))
        have h1294 := (n1287 510 (by decide)).trans (h1281)
        exact ⟨(X_ug nW nc a), (X_ug nF nc b), (X_ug nL nc c), (X_ug nP nc d), (X_ug nH nc e), (X_ug nC ((d * 4) + e) nc), rfl, (F_nd.add hnd), (F_ch.add hch hnc.1 (by omega) (by omega) rfl), h1286, h1289, h1290, h1291, h1292, h1293, h1294, (((((((X_Fr.rf).tr (X_Fr.of n1228 e1229 (by omega))).tr (X_Fr.of n1234 e1235 (by omega))).tr (X_Fr.of n1240 e1241 (by omega))).tr (X_Fr.of n1246 e1247 (by omega))).tr (X_Fr.of n1252 e1253 (by omega))).tr (X_Fr.of n1282 e1283 (by omega))).tr (X_Fr.of n1287 e1288 (by omega))⟩
  · skip
    have c1225 : ¬ (nc < 30) := c1225
    exact (show False by omega).elim
set_option maxHeartbeats 3000000 in
theorem c_makeNode (sc : X_Sc) (S : X_S) (oK : Int → Int64) (oW : Int → Int64) (oA : Int → Int64) (oH : Int → Int64) (tl : Int → Int64) (nW : Int → Int) (nF : Int → Int) (nL : Int → Int) (nP : Int → Int) (nH : Int → Int) (nC : Int → Int) (fF : Int → Int) (fE : Int → Int) (fP : Int → Int) (fH : Int → Int) (fW : Int → Int) (fK : Int → Int) (fN : Int → Int64) (hF : Int → Int) (hE : Int → Int) (B : Nat) (rc : Int) (rn : Int → Int64) (kn : Int → Int64) (G : X_G) (tn : Int) (fl : Int) (wt : Int) (nc : Int) (N : Int → Int → Int) (St : Int → X_It) (hO501 : S.1 501 = .inr (6, [.int (iI tn), .ref 502, .ref 503])) (hO511 : S.1 511 = .inr (1, [.ref B, .ref 501, .int (iI fl), .ref 512, .ref 513, .ref 514, .ref 515, .ref 516])) (hO517 : S.1 517 = .inr (2, [.ref 511, .ref 501, .ref 504, .int (iI wt), .ref 518, .ref 519, .ref 520, .ref 521, .ref 522, .ref 523, .ref 524, .ref 525, .ref 526])) (hO504 : S.1 504 = .inr (5, [.int (iI nc), .ref 505, .ref 506, .ref 507, .ref 508, .ref 509, .ref 510])) (hA512 : S.1 512 = .inl (.long, 5115, .inr (.inl fun k : Nat => oK (k : Int)))) (hA513 : S.1 513 = .inl (.long, 13950, .inr (.inl fun k : Nat => oW (k : Int)))) (hA514 : S.1 514 = .inl (.long, 465, .inr (.inl fun k : Nat => oA (k : Int)))) (hA515 : S.1 515 = .inl (.long, 55800, .inr (.inl fun k : Nat => oH (k : Int)))) (hA516 : S.1 516 = .inl (.long, 7200, .inr (.inl fun k : Nat => tl (k : Int)))) (hA505 : S.1 505 = .inl (.int, 30, .inl fun k : Nat => iI (nW (k : Int)))) (hA506 : S.1 506 = .inl (.int, 30, .inl fun k : Nat => iI (nF (k : Int)))) (hA507 : S.1 507 = .inl (.int, 30, .inl fun k : Nat => iI (nL (k : Int)))) (hA508 : S.1 508 = .inl (.int, 30, .inl fun k : Nat => iI (nP (k : Int)))) (hA509 : S.1 509 = .inl (.int, 30, .inl fun k : Nat => iI (nH (k : Int)))) (hA510 : S.1 510 = .inl (.int, 120, .inl fun k : Nat => iI (nC (k : Int)))) (hA518 : S.1 518 = .inl (.int, 30, .inl fun k : Nat => iI (fF (k : Int)))) (hA519 : S.1 519 = .inl (.int, 30, .inl fun k : Nat => iI (fE (k : Int)))) (hA520 : S.1 520 = .inl (.int, 30, .inl fun k : Nat => iI (fP (k : Int)))) (hA521 : S.1 521 = .inl (.int, 30, .inl fun k : Nat => iI (fH (k : Int)))) (hA522 : S.1 522 = .inl (.int, 30, .inl fun k : Nat => iI (fW (k : Int)))) (hA523 : S.1 523 = .inl (.int, 30, .inl fun k : Nat => iI (fK (k : Int)))) (hA524 : S.1 524 = .inl (.long, 30, .inr (.inl fun k : Nat => fN (k : Int)))) (hA525 : S.1 525 = .inl (.int, 4, .inl fun k : Nat => iI (hF (k : Int)))) (hA526 : S.1 526 = .inl (.int, 4, .inl fun k : Nat => iI (hE (k : Int)))) (hB : B = 4 ∨ B = 250) (hb : C_bk S B rc (gk G) (gw G) rn (gl G) kn (ga G)) (hs : C_ws S B (gD G) (gW G)) (hG : X_Gok G) (htn : 0 ≤ tn ∧ tn ≤ 30) (hA502 : S.1 502 = .inl (.long, 30, .inr (.inl fun k : Nat => (gt G) (k : Int)))) (hcht : X_cht G (-2) tn oK oW oA oH) (hM : X_Mok G tn (wt, St, nc, N)) (hwt : 0 < wt) (hst : F_st G wt St fF fE fP fH fW fK fN) (hnd : F_nd nc N nW nF nL nP nH) (hch : F_ch nc N nC) : X_T sc 39 (0, [(0, .ref 517)], [], S) (fun v S' => ∃ (r1 : Int) (St1 : Int → X_It) (N1 : Int → Int → Int) (nW1 : Int → Int) (nF1 : Int → Int) (nL1 : Int → Int) (nP1 : Int → Int) (nH1 : Int → Int) (nC1 : Int → Int) (fF1 : Int → Int) (fE1 : Int → Int) (fP1 : Int → Int) (fH1 : Int → Int) (fW1 : Int → Int) (fK1 : Int → Int) (fN1 : Int → Int64) (tl1 : Int → Int64) (hF1 : Int → Int) (hE1 : Int → Int), v = none ∧ X_mk G (wt, St, nc, N) = (r1, St1, nc + 1, N1) ∧ X_Mok G tn (r1, St1, nc + 1, N1) ∧ F_st G r1 St1 fF1 fE1 fP1 fH1 fW1 fK1 fN1 ∧ F_nd (nc + 1) N1 nW1 nF1 nL1 nP1 nH1 ∧ F_ch (nc + 1) N1 nC1 ∧ S'.1 517 = .inr (2, [.ref 511, .ref 501, .ref 504, .int (iI r1), .ref 518, .ref 519, .ref 520, .ref 521, .ref 522, .ref 523, .ref 524, .ref 525, .ref 526]) ∧ S'.1 504 = .inr (5, [.int (iI (nc + 1)), .ref 505, .ref 506, .ref 507, .ref 508, .ref 509, .ref 510]) ∧ S'.1 505 = .inl (.int, 30, .inl fun k : Nat => iI (nW1 (k : Int))) ∧ S'.1 506 = .inl (.int, 30, .inl fun k : Nat => iI (nF1 (k : Int))) ∧ S'.1 507 = .inl (.int, 30, .inl fun k : Nat => iI (nL1 (k : Int))) ∧ S'.1 508 = .inl (.int, 30, .inl fun k : Nat => iI (nP1 (k : Int))) ∧ S'.1 509 = .inl (.int, 30, .inl fun k : Nat => iI (nH1 (k : Int))) ∧ S'.1 510 = .inl (.int, 120, .inl fun k : Nat => iI (nC1 (k : Int))) ∧ S'.1 518 = .inl (.int, 30, .inl fun k : Nat => iI (fF1 (k : Int))) ∧ S'.1 519 = .inl (.int, 30, .inl fun k : Nat => iI (fE1 (k : Int))) ∧ S'.1 520 = .inl (.int, 30, .inl fun k : Nat => iI (fP1 (k : Int))) ∧ S'.1 521 = .inl (.int, 30, .inl fun k : Nat => iI (fH1 (k : Int))) ∧ S'.1 522 = .inl (.int, 30, .inl fun k : Nat => iI (fW1 (k : Int))) ∧ S'.1 523 = .inl (.int, 30, .inl fun k : Nat => iI (fK1 (k : Int))) ∧ S'.1 524 = .inl (.long, 30, .inr (.inl fun k : Nat => fN1 (k : Int))) ∧ S'.1 516 = .inl (.long, 7200, .inr (.inl fun k : Nat => tl1 (k : Int))) ∧ S'.1 525 = .inl (.int, 4, .inl fun k : Nat => iI (hF1 (k : Int))) ∧ S'.1 526 = .inl (.int, 4, .inl fun k : Nat => iI (hE1 (k : Int))) ∧ (X_Fr (fun q => (504 ≤ q ∧ q ≤ 510) ∨ (516 ≤ q ∧ q ≤ 526)) S S')) := by
  obtain ⟨hb0, hb1, hb2, hb3, hb4, ⟨f, hb5, hf⟩, ⟨hrc, hrcb⟩, ⟨hkc, hkcb⟩, ⟨hwc, hwcb⟩⟩ := id hb
  obtain ⟨⟨i, j, pa, ho, u, o, en, k⟩, hT⟩ : ∃ t : X_It, St (wt - 1) = t := ⟨_, rfl⟩
  have hle := X_Mok.le hM
  have hI := hM.2.2.1 (wt - 1) (show 0 ≤ wt - 1 by omega) (show wt - 1 < wt by omega)
  rw [show (wt, St, nc, N).2.1 (wt - 1) = (i, j, pa, ho, u, o, en, k) from hT] at hI
  have hM1 : 0 ≤ nc := hM.2.1
  have hM2 : nc + (X_Su (X_lw St) 0 wt : Int) ≤ tn := hM.2.2.2
  obtain ⟨hIij, hIp, hIh, hIph, hIu, hIo, hIe, hIk, hIm⟩ := hI
  have hIij : 0 ≤ i ∧ i < j ∧ j ≤ tn := hIij
  have hIp : -1 ≤ pa ∧ pa < nc ∨ pa = -1 := hIp
  have hIh : -1 ≤ ho ∧ ho ≤ 3 := hIh
  have hIk : k < X_Hc G (X_T_ G) u o en i j := hIk
  have hIm : k ≤ 9223372036854775807 := hIm
  have hF := hst (wt - 1) (by omega) (by omega)
  rw [hT] at hF
  obtain ⟨hFi, hFe, hFp, hFh, hFw, hFk, hFn⟩ := hF
  have hFi : fF (wt - 1) = i := hFi
  have hFe : fE (wt - 1) = j := hFe
  have hFp : fP (wt - 1) = pa := hFp
  have hFh : fH (wt - 1) = ho := hFh
  have hFn : fN (wt - 1) = iL (k : Int) := hFn
  have hpad : -1 ≤ pa ∧ pa < 30 := by omega
  refine X_QI (fun Q hQ => ?_)
  refine T_p xr_39_0 xn_39 (pc' := 1) (ls' := [(0, .ref 517)]) (st' := [.ref 517]) rfl ?_
  refine T_p xr_39_1 xn_39 (pc' := 2) (ls' := [(0, .ref 517)]) (st' := [.ref 517, .ref 517]) rfl ?_
  refine T_get xr_39_2 hO517 rfl (v := .int (iI wt)) rfl (pc' := 5) rfl ?_
  refine T_p xr_39_5 xn_39 (pc' := 6) (ls' := [(0, .ref 517)]) (st' := [.int (iI 1), .int (iI wt), .ref 517]) rfl ?_
  refine T_zisub xr_39_6 (z := wt - 1) rfl (pc' := 7) rfl ?_
  refine T_put xr_39_7 hO517 rfl (Nat.le_of_ble_eq_true rfl) rfl (fs' := [.ref 511, .ref 501, .ref 504, .int (iI (wt - 1)), .ref 518, .ref 519, .ref 520, .ref 521, .ref 522, .ref 523, .ref 524, .ref 525, .ref 526]) rfl (pc' := 10) rfl (fun S1295 h1296 n1297 e1298 => ?_)
  refine T_p xr_39_10 xn_39 (pc' := 11) (ls' := [(0, .ref 517)]) (st' := [.ref 517]) rfl ?_
  refine T_get xr_39_11 h1296 rfl (v := .int (iI (wt - 1))) rfl (pc' := 14) rfl ?_
  refine T_p xr_39_14 xn_39 (pc' := 15) (ls' := [(1, .int (iI (wt - 1))), (0, .ref 517)]) (st' := []) rfl ?_
  refine T_p xr_39_15 xn_39 (pc' := 16) (ls' := [(1, .int (iI (wt - 1))), (0, .ref 517)]) (st' := [.ref 517]) rfl ?_
  refine T_get xr_39_16 h1296 rfl (v := .ref 518) rfl (pc' := 19) rfl ?_
  refine T_p xr_39_19 xn_39 (pc' := 20) (ls' := [(1, .int (iI (wt - 1))), (0, .ref 517)]) (st' := [.int (iI (wt - 1)), .ref 518]) rfl ?_
  have h1299 := (n1297 518 (by decide)).trans (hA518)
  refine T_ziald xr_39_20 h1299 (pc' := 21) rfl ?_
  refine T_ie (y := iI i) (by rw [hFi]) ?_
  refine T_p xr_39_21 xn_39 (pc' := 22) (ls' := [(2, .int (iI i)), (1, .int (iI (wt - 1))), (0, .ref 517)]) (st' := []) rfl ?_
  refine T_p xr_39_22 xn_39 (pc' := 23) (ls' := [(2, .int (iI i)), (1, .int (iI (wt - 1))), (0, .ref 517)]) (st' := [.ref 517]) rfl ?_
  refine T_get xr_39_23 h1296 rfl (v := .ref 519) rfl (pc' := 26) rfl ?_
  refine T_p xr_39_26 xn_39 (pc' := 27) (ls' := [(2, .int (iI i)), (1, .int (iI (wt - 1))), (0, .ref 517)]) (st' := [.int (iI (wt - 1)), .ref 519]) rfl ?_
  have h1300 := (n1297 519 (by decide)).trans (hA519)
  refine T_ziald xr_39_27 h1300 (pc' := 28) rfl ?_
  refine T_ie (y := iI j) (by rw [hFe]) ?_
  refine T_p xr_39_28 xn_39 (pc' := 29) (ls' := [(2, .int (iI i)), (1, .int (iI (wt - 1))), (0, .ref 517)]) (st' := [.int (iI i), .int (iI j)]) rfl ?_
  refine T_zisub xr_39_29 (z := j - i) rfl (pc' := 30) rfl ?_
  refine T_p xr_39_30 xn_39 (pc' := 31) (ls' := [(3, .int (iI (j - i))), (2, .int (iI i)), (1, .int (iI (wt - 1))), (0, .ref 517)]) (st' := []) rfl ?_
  refine T_p xr_39_31 xn_39 (pc' := 32) (ls' := [(3, .int (iI (j - i))), (2, .int (iI i)), (1, .int (iI (wt - 1))), (0, .ref 517)]) (st' := [.ref 517]) rfl ?_
  refine T_p xr_39_32 xn_39 (pc' := 33) (ls' := [(3, .int (iI (j - i))), (2, .int (iI i)), (1, .int (iI (wt - 1))), (0, .ref 517)]) (st' := [.int (iI (wt - 1)), .ref 517]) rfl ?_
  refine T_cv (S := S1295) (q := 517) xr_39_33 xf_40.1 xf_40.2.1 xn_40 (as := [.int (iI (wt - 1))]) (r := []) rfl h1296 (Nat.le_of_ble_eq_true rfl) (Nat.le_of_ble_eq_true rfl) (pc' := 36) rfl (ls' := [(0, .ref 517), (1, .int (iI (wt - 1)))]) rfl ?_
  have h1301 := (n1297 512 (by decide)).trans (hA512)
  have h1302 := (n1297 513 (by decide)).trans (hA513)
  have h1303 := (n1297 514 (by decide)).trans (hA514)
  have h1304 := (n1297 515 (by decide)).trans (hA515)
  have h1305 := (n1297 522 (by decide)).trans (hA522)
  have h1306 := (n1297 523 (by decide)).trans (hA523)
  have h1307 := (n1297 524 (by decide)).trans (hA524)
  have h1308 := (n1297 511 (by decide)).trans (hO511)
  have h1309 := (n1297 B (by omega)).trans (hb0)
  have h1310 := (n1297 (B + 1) (by omega)).trans (hb1)
  have h1311 := (n1297 (B + 2) (by omega)).trans (hb2)
  have h1312 := (n1297 (B + 3) (by omega)).trans (hb3)
  have h1313 := (n1297 (B + 4) (by omega)).trans (hb4)
  have h1314 := (n1297 (B + 5) (by omega)).trans (hb5)
  have hs1315 : C_ws S1295 B (gD G) (gW G) := C_ws.fr (P := fun q => 501 ≤ q ∧ q ≤ 529) hs ((X_Fr.rf).tr (X_Fr.of n1297 e1298 (by omega))) (fun k h1 h2 => by omega)
  refine T_mono (c_chooseWord sc S1295 oK oW oA oH fF fE fW fK fN B rc rn kn G tn fl (wt - 1) (wt - 1) i j u o en k h1308 h1296 h1301 h1302 h1303 h1304 h1299 h1300 h1305 h1306 h1307 hB ⟨h1309, h1310, h1311, h1312, h1313, ⟨f, h1314, hf⟩, ⟨by omega, by omega⟩, ⟨by omega, by omega⟩, ⟨by omega, by omega⟩⟩ hs1315 hG (by omega) (by omega) hFi hFe hFw hFk hFn hIk hIm (hcht i j (by omega) (by omega) (by omega))) (fun v1316 S1317 h1318 => ?_)
  rcases h1318 with ⟨fN1319, hv1320, hp1321, hp1322, ha1323, hf1324⟩ | ⟨v1325, k1326, fN1327, hv1328, hp1329, hp1330, hp1331, hp1332, hp1333, hp1334, hp1335, ha1336, hf1337⟩
  · skip
    rw [hv1320]
    show X_T sc 39 (36, [(3, .int (iI (j - i))), (2, .int (iI i)), (1, .int (iI (wt - 1))), (0, .ref 517)], [.int (iI (-1))], S1317) _
    refine T_p xr_39_36 xn_39 (pc' := 38) (ls' := [(4, .int (iI (-1))), (3, .int (iI (j - i))), (2, .int (iI i)), (1, .int (iI (wt - 1))), (0, .ref 517)]) (st' := []) rfl ?_
    refine T_p xr_39_38 xn_39 (pc' := 40) (ls' := [(4, .int (iI (-1))), (3, .int (iI (j - i))), (2, .int (iI i)), (1, .int (iI (wt - 1))), (0, .ref 517)]) (st' := [.int (iI (-1))]) rfl ?_
    refine T_p xr_39_40 xn_39 (pc' := 41) (ls' := [(4, .int (iI (-1))), (3, .int (iI (j - i))), (2, .int (iI i)), (1, .int (iI (wt - 1))), (0, .ref 517)]) (st' := [.int (iI (-1)), .int (iI (-1))]) rfl ?_
    refine T_zicmp_nef xr_39_41 (t := 58) (pc' := 44) rfl rfl (by decide) ?_
    refine T_p xr_39_44 xn_39 (pc' := 45) (ls' := [(4, .int (iI (-1))), (3, .int (iI (j - i))), (2, .int (iI i)), (1, .int (iI (wt - 1))), (0, .ref 517)]) (st' := [.int (iI (j - i))]) rfl ?_
    refine T_p xr_39_45 xn_39 (pc' := 46) (ls' := [(4, .int (iI (-1))), (3, .int (iI (j - i))), (2, .int (iI i)), (1, .int (iI (wt - 1))), (0, .ref 517)]) (st' := [.int (iI 1), .int (iI (j - i))]) rfl ?_
    refine T_zicmp_ne xr_39_46 (t := 54) (pc' := 49) rfl rfl (fun c1338 => ?_) (fun c1338 => ?_)
    · skip
      have c1338 : ¬ (j - i) = 1 := c1338
      refine T_p xr_39_54 xn_39 (pc' := 56) (ls' := [(4, .int (iI (-1))), (3, .int (iI (j - i))), (2, .int (iI i)), (1, .int (iI (wt - 1))), (0, .ref 517)]) (st' := [.int (iI (-3))]) rfl ?_
      refine T_p xr_39_56 xn_39 (pc' := 58) (ls' := [(4, .int (iI (-3))), (3, .int (iI (j - i))), (2, .int (iI i)), (1, .int (iI (wt - 1))), (0, .ref 517)]) (st' := []) rfl ?_
      refine T_p xr_39_58 xn_39 (pc' := 59) (ls' := [(4, .int (iI (-3))), (3, .int (iI (j - i))), (2, .int (iI i)), (1, .int (iI (wt - 1))), (0, .ref 517)]) (st' := [.ref 517]) rfl ?_
      have h1339 := (hf1324.1 517 (by omega)).trans (h1296)
      refine T_get xr_39_59 h1339 rfl (v := .ref 504) rfl (pc' := 62) rfl ?_
      refine T_p xr_39_62 xn_39 (pc' := 64) (ls' := [(4, .int (iI (-3))), (3, .int (iI (j - i))), (2, .int (iI i)), (1, .int (iI (wt - 1))), (0, .ref 517)]) (st' := [.int (iI (-3)), .ref 504]) rfl ?_
      refine T_p xr_39_64 xn_39 (pc' := 65) (ls' := [(4, .int (iI (-3))), (3, .int (iI (j - i))), (2, .int (iI i)), (1, .int (iI (wt - 1))), (0, .ref 517)]) (st' := [.int (iI i), .int (iI (-3)), .ref 504]) rfl ?_
      refine T_p xr_39_65 xn_39 (pc' := 66) (ls' := [(4, .int (iI (-3))), (3, .int (iI (j - i))), (2, .int (iI i)), (1, .int (iI (wt - 1))), (0, .ref 517)]) (st' := [.int (iI (j - i)), .int (iI i), .int (iI (-3)), .ref 504]) rfl ?_
      refine T_p xr_39_66 xn_39 (pc' := 67) (ls' := [(4, .int (iI (-3))), (3, .int (iI (j - i))), (2, .int (iI i)), (1, .int (iI (wt - 1))), (0, .ref 517)]) (st' := [.ref 517, .int (iI (j - i)), .int (iI i), .int (iI (-3)), .ref 504]) rfl ?_
      refine T_get xr_39_67 h1339 rfl (v := .ref 520) rfl (pc' := 70) rfl ?_
      refine T_p xr_39_70 xn_39 (pc' := 71) (ls' := [(4, .int (iI (-3))), (3, .int (iI (j - i))), (2, .int (iI i)), (1, .int (iI (wt - 1))), (0, .ref 517)]) (st' := [.int (iI (wt - 1)), .ref 520, .int (iI (j - i)), .int (iI i), .int (iI (-3)), .ref 504]) rfl ?_
      have h1340 := (hf1324.1 520 (by omega)).trans ((n1297 520 (by decide)).trans (hA520))
      refine T_ziald xr_39_71 h1340 (pc' := 72) rfl ?_
      refine T_ie (y := iI pa) (by rw [hFp]) ?_
      refine T_p xr_39_72 xn_39 (pc' := 73) (ls' := [(4, .int (iI (-3))), (3, .int (iI (j - i))), (2, .int (iI i)), (1, .int (iI (wt - 1))), (0, .ref 517)]) (st' := [.ref 517, .int (iI pa), .int (iI (j - i)), .int (iI i), .int (iI (-3)), .ref 504]) rfl ?_
      refine T_get xr_39_73 h1339 rfl (v := .ref 521) rfl (pc' := 76) rfl ?_
      refine T_p xr_39_76 xn_39 (pc' := 77) (ls' := [(4, .int (iI (-3))), (3, .int (iI (j - i))), (2, .int (iI i)), (1, .int (iI (wt - 1))), (0, .ref 517)]) (st' := [.int (iI (wt - 1)), .ref 521, .int (iI pa), .int (iI (j - i)), .int (iI i), .int (iI (-3)), .ref 504]) rfl ?_
      have h1341 := (hf1324.1 521 (by omega)).trans ((n1297 521 (by decide)).trans (hA521))
      refine T_ziald xr_39_77 h1341 (pc' := 78) rfl ?_
      refine T_ie (y := iI ho) (by rw [hFh]) ?_
      have h1342 := (hf1324.1 504 (by omega)).trans ((n1297 504 (by decide)).trans (hO504))
      refine T_cv (S := S1317) (q := 504) xr_39_78 xf_80.1 xf_80.2.1 xn_80 (as := [.int (iI (-3)), .int (iI i), .int (iI (j - i)), .int (iI pa), .int (iI ho)]) (r := []) rfl h1342 (Nat.le_of_ble_eq_true rfl) (Nat.le_of_ble_eq_true rfl) (pc' := 81) rfl (ls' := [(0, .ref 504), (1, .int (iI (-3))), (2, .int (iI i)), (3, .int (iI (j - i))), (4, .int (iI pa)), (5, .int (iI ho))]) rfl ?_
      have h1343 := (hf1324.1 505 (by omega)).trans ((n1297 505 (by decide)).trans (hA505))
      have h1344 := (hf1324.1 506 (by omega)).trans ((n1297 506 (by decide)).trans (hA506))
      have h1345 := (hf1324.1 507 (by omega)).trans ((n1297 507 (by decide)).trans (hA507))
      have h1346 := (hf1324.1 508 (by omega)).trans ((n1297 508 (by decide)).trans (hA508))
      have h1347 := (hf1324.1 509 (by omega)).trans ((n1297 509 (by decide)).trans (hA509))
      have h1348 := (hf1324.1 510 (by omega)).trans ((n1297 510 (by decide)).trans (hA510))
      refine T_mono (c_add sc S1317 nW nF nL nP nH nC nc N (-3) i (j - i) pa ho h1342 h1343 h1344 h1345 h1346 h1347 h1348 (by omega) (by omega) hnd hch) (fun v1349 S1350 h1351 => ?_)
      rcases h1351 with ⟨nW1352, nF1353, nL1354, nP1355, nH1356, nC1357, hv1358, hp1359, hp1360, ho1361, ha1362, ha1363, ha1364, ha1365, ha1366, ha1367, hf1368⟩
      rw [hv1358]
      show X_T sc 39 (81, [(4, .int (iI (-3))), (3, .int (iI (j - i))), (2, .int (iI i)), (1, .int (iI (wt - 1))), (0, .ref 517)], [.int (iI nc)], S1350) _
      refine T_p xr_39_81 xn_39 (pc' := 83) (ls' := [(5, .int (iI nc)), (4, .int (iI (-3))), (3, .int (iI (j - i))), (2, .int (iI i)), (1, .int (iI (wt - 1))), (0, .ref 517)]) (st' := []) rfl ?_
      refine T_p xr_39_83 xn_39 (pc' := 85) (ls' := [(5, .int (iI nc)), (4, .int (iI (-3))), (3, .int (iI (j - i))), (2, .int (iI i)), (1, .int (iI (wt - 1))), (0, .ref 517)]) (st' := [.int (iI (-3))]) rfl ?_
      refine T_zif_ltt xr_39_85 (t := 128) rfl (by decide) ?_
      refine T_p xr_39_128 xn_39 (pc' := 130) (ls' := [(5, .int (iI nc)), (4, .int (iI (-3))), (3, .int (iI (j - i))), (2, .int (iI i)), (1, .int (iI (wt - 1))), (0, .ref 517)]) (st' := [.int (iI (-3))]) rfl ?_
      refine T_p xr_39_130 xn_39 (pc' := 132) (ls' := [(5, .int (iI nc)), (4, .int (iI (-3))), (3, .int (iI (j - i))), (2, .int (iI i)), (1, .int (iI (wt - 1))), (0, .ref 517)]) (st' := [.int (iI (-3)), .int (iI (-3))]) rfl ?_
      refine T_zicmp_nef xr_39_132 (t := 186) (pc' := 135) rfl rfl (by decide) ?_
      refine T_p xr_39_135 xn_39 (pc' := 136) (ls' := [(5, .int (iI nc)), (4, .int (iI (-3))), (3, .int (iI (j - i))), (2, .int (iI i)), (1, .int (iI (wt - 1))), (0, .ref 517)]) (st' := [.ref 517]) rfl ?_
      have h1369 := (hf1368.1 517 (by omega)).trans (h1339)
      refine T_get xr_39_136 h1369 rfl (v := .ref 523) rfl (pc' := 139) rfl ?_
      refine T_p xr_39_139 xn_39 (pc' := 140) (ls' := [(5, .int (iI nc)), (4, .int (iI (-3))), (3, .int (iI (j - i))), (2, .int (iI i)), (1, .int (iI (wt - 1))), (0, .ref 517)]) (st' := [.int (iI (wt - 1)), .ref 523]) rfl ?_
      have h1370 := (hf1368.1 523 (by omega)).trans ((hf1324.1 523 (by omega)).trans (h1306))
      refine T_ziald xr_39_140 h1370 (pc' := 141) rfl ?_
      refine T_p xr_39_141 xn_39 (pc' := 143) (ls' := [(6, .int (iI (fK (wt - 1)))), (5, .int (iI nc)), (4, .int (iI (-3))), (3, .int (iI (j - i))), (2, .int (iI i)), (1, .int (iI (wt - 1))), (0, .ref 517)]) (st' := []) rfl ?_
      refine T_p xr_39_143 xn_39 (pc' := 144) (ls' := [(6, .int (iI (fK (wt - 1)))), (5, .int (iI nc)), (4, .int (iI (-3))), (3, .int (iI (j - i))), (2, .int (iI i)), (1, .int (iI (wt - 1))), (0, .ref 517)]) (st' := [.ref 517]) rfl ?_
      refine T_get xr_39_144 h1369 rfl (v := .ref 524) rfl (pc' := 147) rfl ?_
      refine T_p xr_39_147 xn_39 (pc' := 148) (ls' := [(6, .int (iI (fK (wt - 1)))), (5, .int (iI nc)), (4, .int (iI (-3))), (3, .int (iI (j - i))), (2, .int (iI i)), (1, .int (iI (wt - 1))), (0, .ref 517)]) (st' := [.int (iI (wt - 1)), .ref 524]) rfl ?_
      have h1371 := (hf1368.1 524 (by omega)).trans (ha1323)
      refine T_zlald xr_39_148 h1371 (pc' := 149) rfl ?_
      refine T_le (y := (iL (k : Int))) (by rw [hp1322, hFn]) ?_
      refine T_p xr_39_149 xn_39 (pc' := 151) (ls' := [(7, .long (iL (k : Int))), (6, .int (iI (fK (wt - 1)))), (5, .int (iI nc)), (4, .int (iI (-3))), (3, .int (iI (j - i))), (2, .int (iI i)), (1, .int (iI (wt - 1))), (0, .ref 517)]) (st' := []) rfl ?_
      refine T_p xr_39_151 xn_39 (pc' := 152) (ls' := [(7, .long (iL (k : Int))), (6, .int (iI (fK (wt - 1)))), (5, .int (iI nc)), (4, .int (iI (-3))), (3, .int (iI (j - i))), (2, .int (iI i)), (1, .int (iI (wt - 1))), (0, .ref 517)]) (st' := [.ref 517]) rfl ?_
      refine T_p xr_39_152 xn_39 (pc' := 153) (ls' := [(7, .long (iL (k : Int))), (6, .int (iI (fK (wt - 1)))), (5, .int (iI nc)), (4, .int (iI (-3))), (3, .int (iI (j - i))), (2, .int (iI i)), (1, .int (iI (wt - 1))), (0, .ref 517)]) (st' := [.int (iI i), .ref 517]) rfl ?_
      refine T_p xr_39_153 xn_39 (pc' := 154) (ls' := [(7, .long (iL (k : Int))), (6, .int (iI (fK (wt - 1)))), (5, .int (iI nc)), (4, .int (iI (-3))), (3, .int (iI (j - i))), (2, .int (iI i)), (1, .int (iI (wt - 1))), (0, .ref 517)]) (st' := [.int (iI 1), .int (iI i), .ref 517]) rfl ?_
      refine T_ziadd xr_39_154 (z := i + 1) rfl (pc' := 155) rfl ?_
      refine T_p xr_39_155 xn_39 (pc' := 156) (ls' := [(7, .long (iL (k : Int))), (6, .int (iI (fK (wt - 1)))), (5, .int (iI nc)), (4, .int (iI (-3))), (3, .int (iI (j - i))), (2, .int (iI i)), (1, .int (iI (wt - 1))), (0, .ref 517)]) (st' := [.int (iI i), .int (iI (i + 1)), .ref 517]) rfl ?_
      refine T_p xr_39_156 xn_39 (pc' := 157) (ls' := [(7, .long (iL (k : Int))), (6, .int (iI (fK (wt - 1)))), (5, .int (iI nc)), (4, .int (iI (-3))), (3, .int (iI (j - i))), (2, .int (iI i)), (1, .int (iI (wt - 1))), (0, .ref 517)]) (st' := [.int (iI (j - i)), .int (iI i), .int (iI (i + 1)), .ref 517]) rfl ?_
      refine T_ziadd xr_39_157 (z := i + (j - i)) rfl (pc' := 158) rfl ?_
      refine T_p xr_39_158 xn_39 (pc' := 159) (ls' := [(7, .long (iL (k : Int))), (6, .int (iI (fK (wt - 1)))), (5, .int (iI nc)), (4, .int (iI (-3))), (3, .int (iI (j - i))), (2, .int (iI i)), (1, .int (iI (wt - 1))), (0, .ref 517)]) (st' := [.int (iI 1), .int (iI (i + (j - i))), .int (iI (i + 1)), .ref 517]) rfl ?_
      refine T_zisub xr_39_159 (z := (i + (j - i)) - 1) rfl (pc' := 160) rfl ?_
      refine T_ie (y := iI (j - 1)) (by congr 1; omega) ?_
      refine T_p xr_39_160 xn_39 (pc' := 162) (ls' := [(7, .long (iL (k : Int))), (6, .int (iI (fK (wt - 1)))), (5, .int (iI nc)), (4, .int (iI (-3))), (3, .int (iI (j - i))), (2, .int (iI i)), (1, .int (iI (wt - 1))), (0, .ref 517)]) (st' := [.int (iI nc), .int (iI (j - 1)), .int (iI (i + 1)), .ref 517]) rfl ?_
      refine T_p xr_39_162 xn_39 (pc' := 163) (ls' := [(7, .long (iL (k : Int))), (6, .int (iI (fK (wt - 1)))), (5, .int (iI nc)), (4, .int (iI (-3))), (3, .int (iI (j - i))), (2, .int (iI i)), (1, .int (iI (wt - 1))), (0, .ref 517)]) (st' := [.int (iI 0), .int (iI nc), .int (iI (j - 1)), .int (iI (i + 1)), .ref 517]) rfl ?_
      refine T_cv (S := S1350) (q := 517) xr_39_163 xf_37.1 xf_37.2.1 xn_37 (as := [.int (iI (i + 1)), .int (iI (j - 1)), .int (iI nc), .int (iI 0)]) (r := []) rfl h1369 (Nat.le_of_ble_eq_true rfl) (Nat.le_of_ble_eq_true rfl) (pc' := 166) rfl (ls' := [(0, .ref 517), (1, .int (iI (i + 1))), (2, .int (iI (j - 1))), (3, .int (iI nc)), (4, .int (iI 0))]) rfl ?_
      refine T_p xr_37_0 xn_37 (pc' := 1) (ls' := [(0, .ref 517), (1, .int (iI (i + 1))), (2, .int (iI (j - 1))), (3, .int (iI nc)), (4, .int (iI 0))]) (st' := [.ref 517]) rfl ?_
      refine T_get xr_37_1 h1369 rfl (v := .int (iI (wt - 1))) rfl (pc' := 4) rfl ?_
      refine T_p xr_37_4 xn_37 (pc' := 6) (ls' := [(0, .ref 517), (1, .int (iI (i + 1))), (2, .int (iI (j - 1))), (3, .int (iI nc)), (4, .int (iI 0))]) (st' := [.int (iI 30), .int (iI (wt - 1))]) rfl ?_
      refine T_zicmp_ge xr_37_6 (t := 60) (pc' := 9) rfl rfl (fun c1372 => ?_) (fun c1372 => ?_)
      · skip
        have c1372 : 30 ≤ (wt - 1) := c1372
        exact (show False by omega).elim
      · skip
        have c1372 : ¬ (30 ≤ (wt - 1)) := c1372
        refine T_p xr_37_9 xn_37 (pc' := 10) (ls' := [(0, .ref 517), (1, .int (iI (i + 1))), (2, .int (iI (j - 1))), (3, .int (iI nc)), (4, .int (iI 0))]) (st' := [.ref 517]) rfl ?_
        refine T_get xr_37_10 h1369 rfl (v := .ref 518) rfl (pc' := 13) rfl ?_
        refine T_p xr_37_13 xn_37 (pc' := 14) (ls' := [(0, .ref 517), (1, .int (iI (i + 1))), (2, .int (iI (j - 1))), (3, .int (iI nc)), (4, .int (iI 0))]) (st' := [.ref 517, .ref 518]) rfl ?_
        refine T_get xr_37_14 h1369 rfl (v := .int (iI (wt - 1))) rfl (pc' := 17) rfl ?_
        refine T_p xr_37_17 xn_37 (pc' := 18) (ls' := [(0, .ref 517), (1, .int (iI (i + 1))), (2, .int (iI (j - 1))), (3, .int (iI nc)), (4, .int (iI 0))]) (st' := [.int (iI (i + 1)), .int (iI (wt - 1)), .ref 518]) rfl ?_
        have h1373 := (hf1368.1 518 (by omega)).trans ((hf1324.1 518 (by omega)).trans (h1299))
        refine T_ziast xr_37_18 h1373 (pc' := 19) rfl (fun S1374 h1375 n1376 e1377 => ?_)
        refine T_p xr_37_19 xn_37 (pc' := 20) (ls' := [(0, .ref 517), (1, .int (iI (i + 1))), (2, .int (iI (j - 1))), (3, .int (iI nc)), (4, .int (iI 0))]) (st' := [.ref 517]) rfl ?_
        have h1378 := (n1376 517 (by decide)).trans (h1369)
        refine T_get xr_37_20 h1378 rfl (v := .ref 519) rfl (pc' := 23) rfl ?_
        refine T_p xr_37_23 xn_37 (pc' := 24) (ls' := [(0, .ref 517), (1, .int (iI (i + 1))), (2, .int (iI (j - 1))), (3, .int (iI nc)), (4, .int (iI 0))]) (st' := [.ref 517, .ref 519]) rfl ?_
        refine T_get xr_37_24 h1378 rfl (v := .int (iI (wt - 1))) rfl (pc' := 27) rfl ?_
        refine T_p xr_37_27 xn_37 (pc' := 28) (ls' := [(0, .ref 517), (1, .int (iI (i + 1))), (2, .int (iI (j - 1))), (3, .int (iI nc)), (4, .int (iI 0))]) (st' := [.int (iI (j - 1)), .int (iI (wt - 1)), .ref 519]) rfl ?_
        have h1379 := (n1376 519 (by decide)).trans ((hf1368.1 519 (by omega)).trans ((hf1324.1 519 (by omega)).trans (h1300)))
        refine T_ziast xr_37_28 h1379 (pc' := 29) rfl (fun S1380 h1381 n1382 e1383 => ?_)
        refine T_p xr_37_29 xn_37 (pc' := 30) (ls' := [(0, .ref 517), (1, .int (iI (i + 1))), (2, .int (iI (j - 1))), (3, .int (iI nc)), (4, .int (iI 0))]) (st' := [.ref 517]) rfl ?_
        have h1384 := (n1382 517 (by decide)).trans (h1378)
        refine T_get xr_37_30 h1384 rfl (v := .ref 520) rfl (pc' := 33) rfl ?_
        refine T_p xr_37_33 xn_37 (pc' := 34) (ls' := [(0, .ref 517), (1, .int (iI (i + 1))), (2, .int (iI (j - 1))), (3, .int (iI nc)), (4, .int (iI 0))]) (st' := [.ref 517, .ref 520]) rfl ?_
        refine T_get xr_37_34 h1384 rfl (v := .int (iI (wt - 1))) rfl (pc' := 37) rfl ?_
        refine T_p xr_37_37 xn_37 (pc' := 38) (ls' := [(0, .ref 517), (1, .int (iI (i + 1))), (2, .int (iI (j - 1))), (3, .int (iI nc)), (4, .int (iI 0))]) (st' := [.int (iI nc), .int (iI (wt - 1)), .ref 520]) rfl ?_
        have h1385 := (n1382 520 (by decide)).trans ((n1376 520 (by decide)).trans ((hf1368.1 520 (by omega)).trans (h1340)))
        refine T_ziast xr_37_38 h1385 (pc' := 39) rfl (fun S1386 h1387 n1388 e1389 => ?_)
        refine T_p xr_37_39 xn_37 (pc' := 40) (ls' := [(0, .ref 517), (1, .int (iI (i + 1))), (2, .int (iI (j - 1))), (3, .int (iI nc)), (4, .int (iI 0))]) (st' := [.ref 517]) rfl ?_
        have h1390 := (n1388 517 (by decide)).trans (h1384)
        refine T_get xr_37_40 h1390 rfl (v := .ref 521) rfl (pc' := 43) rfl ?_
        refine T_p xr_37_43 xn_37 (pc' := 44) (ls' := [(0, .ref 517), (1, .int (iI (i + 1))), (2, .int (iI (j - 1))), (3, .int (iI nc)), (4, .int (iI 0))]) (st' := [.ref 517, .ref 521]) rfl ?_
        refine T_get xr_37_44 h1390 rfl (v := .int (iI (wt - 1))) rfl (pc' := 47) rfl ?_
        refine T_p xr_37_47 xn_37 (pc' := 49) (ls' := [(0, .ref 517), (1, .int (iI (i + 1))), (2, .int (iI (j - 1))), (3, .int (iI nc)), (4, .int (iI 0))]) (st' := [.int (iI 0), .int (iI (wt - 1)), .ref 521]) rfl ?_
        have h1391 := (n1388 521 (by decide)).trans ((n1382 521 (by decide)).trans ((n1376 521 (by decide)).trans ((hf1368.1 521 (by omega)).trans (h1341))))
        refine T_ziast xr_37_49 h1391 (pc' := 50) rfl (fun S1392 h1393 n1394 e1395 => ?_)
        refine T_p xr_37_50 xn_37 (pc' := 51) (ls' := [(0, .ref 517), (1, .int (iI (i + 1))), (2, .int (iI (j - 1))), (3, .int (iI nc)), (4, .int (iI 0))]) (st' := [.ref 517]) rfl ?_
        refine T_p xr_37_51 xn_37 (pc' := 52) (ls' := [(0, .ref 517), (1, .int (iI (i + 1))), (2, .int (iI (j - 1))), (3, .int (iI nc)), (4, .int (iI 0))]) (st' := [.ref 517, .ref 517]) rfl ?_
        have h1396 := (n1394 517 (by decide)).trans (h1390)
        refine T_get xr_37_52 h1396 rfl (v := .int (iI (wt - 1))) rfl (pc' := 55) rfl ?_
        refine T_p xr_37_55 xn_37 (pc' := 56) (ls' := [(0, .ref 517), (1, .int (iI (i + 1))), (2, .int (iI (j - 1))), (3, .int (iI nc)), (4, .int (iI 0))]) (st' := [.int (iI 1), .int (iI (wt - 1)), .ref 517]) rfl ?_
        refine T_ziadd xr_37_56 (z := wt) (by omega) (pc' := 57) rfl ?_
        refine T_put xr_37_57 h1396 rfl (Nat.le_of_ble_eq_true rfl) rfl (fs' := [.ref 511, .ref 501, .ref 504, .int (iI wt), .ref 518, .ref 519, .ref 520, .ref 521, .ref 522, .ref 523, .ref 524, .ref 525, .ref 526]) rfl (pc' := 60) rfl (fun S1397 h1398 n1399 e1400 => ?_)
        refine T_vret xr_37_60 xf_37.2.2 ?_
        show X_T sc 39 (166, [(7, .long (iL (k : Int))), (6, .int (iI (fK (wt - 1)))), (5, .int (iI nc)), (4, .int (iI (-3))), (3, .int (iI (j - i))), (2, .int (iI i)), (1, .int (iI (wt - 1))), (0, .ref 517)], [], S1397) _
        refine T_p xr_39_166 xn_39 (pc' := 167) (ls' := [(7, .long (iL (k : Int))), (6, .int (iI (fK (wt - 1)))), (5, .int (iI nc)), (4, .int (iI (-3))), (3, .int (iI (j - i))), (2, .int (iI i)), (1, .int (iI (wt - 1))), (0, .ref 517)]) (st' := [.ref 517]) rfl ?_
        refine T_p xr_39_167 xn_39 (pc' := 168) (ls' := [(7, .long (iL (k : Int))), (6, .int (iI (fK (wt - 1)))), (5, .int (iI nc)), (4, .int (iI (-3))), (3, .int (iI (j - i))), (2, .int (iI i)), (1, .int (iI (wt - 1))), (0, .ref 517)]) (st' := [.ref 517, .ref 517]) rfl ?_
        refine T_get xr_39_168 h1398 rfl (v := .ref 511) rfl (pc' := 171) rfl ?_
        have h1401 := (n1399 511 (by decide)).trans ((n1394 511 (by decide)).trans ((n1388 511 (by decide)).trans ((n1382 511 (by decide)).trans ((n1376 511 (by decide)).trans ((hf1368.1 511 (by omega)).trans ((hf1324.1 511 (by omega)).trans (h1308)))))))
        refine T_get xr_39_171 h1401 rfl (v := .ref B) rfl (pc' := 174) rfl ?_
        refine T_p xr_39_174 xn_39 (pc' := 176) (ls' := [(7, .long (iL (k : Int))), (6, .int (iI (fK (wt - 1)))), (5, .int (iI nc)), (4, .int (iI (-3))), (3, .int (iI (j - i))), (2, .int (iI i)), (1, .int (iI (wt - 1))), (0, .ref 517)]) (st' := [.int (iI (fK (wt - 1))), .ref B, .ref 517]) rfl ?_
        have h1402 := (n1399 B (by omega)).trans ((n1394 B (by omega)).trans ((n1388 B (by omega)).trans ((n1382 B (by omega)).trans ((n1376 B (by omega)).trans ((hf1368.1 B (by omega)).trans ((hf1324.1 B (by omega)).trans (h1309)))))))
        refine T_cv (S := S1397) (q := B) xr_39_176 xf_14.1 xf_14.2.1 xn_14 (as := [.int (iI (fK (wt - 1)))]) (r := [.ref 517]) rfl h1402 (Nat.le_of_ble_eq_true rfl) (Nat.le_of_ble_eq_true rfl) (pc' := 179) rfl (ls' := [(0, .ref B), (1, .int (iI (fK (wt - 1))))]) rfl ?_
        have hs1410 : C_ws S1397 B (gD G) (gW G) := C_ws.fr (P := fun q => 501 ≤ q ∧ q ≤ 529) hs1315 ((((((((X_Fr.rf).tr (X_Fr.mono ⟨hf1324.1, hf1324.2⟩ (fun q hq => (by omega)))).tr (X_Fr.mono ⟨hf1368.1, hf1368.2⟩ (fun q hq => (by omega)))).tr (X_Fr.of n1376 e1377 (by omega))).tr (X_Fr.of n1382 e1383 (by omega))).tr (X_Fr.of n1388 e1389 (by omega))).tr (X_Fr.of n1394 e1395 (by omega))).tr (X_Fr.of n1399 e1400 (by omega))) (fun k h1 h2 => by omega)
        have h1411 := (n1399 (B + 1) (by omega)).trans ((n1394 (B + 1) (by omega)).trans ((n1388 (B + 1) (by omega)).trans ((n1382 (B + 1) (by omega)).trans ((n1376 (B + 1) (by omega)).trans ((hf1368.1 (B + 1) (by omega)).trans ((hf1324.1 (B + 1) (by omega)).trans (h1310)))))))
        have h1412 := (n1399 (B + 2) (by omega)).trans ((n1394 (B + 2) (by omega)).trans ((n1388 (B + 2) (by omega)).trans ((n1382 (B + 2) (by omega)).trans ((n1376 (B + 2) (by omega)).trans ((hf1368.1 (B + 2) (by omega)).trans ((hf1324.1 (B + 2) (by omega)).trans (h1311)))))))
        have h1413 := (n1399 (B + 3) (by omega)).trans ((n1394 (B + 3) (by omega)).trans ((n1388 (B + 3) (by omega)).trans ((n1382 (B + 3) (by omega)).trans ((n1376 (B + 3) (by omega)).trans ((hf1368.1 (B + 3) (by omega)).trans ((hf1324.1 (B + 3) (by omega)).trans (h1312)))))))
        have h1414 := (n1399 (B + 4) (by omega)).trans ((n1394 (B + 4) (by omega)).trans ((n1388 (B + 4) (by omega)).trans ((n1382 (B + 4) (by omega)).trans ((n1376 (B + 4) (by omega)).trans ((hf1368.1 (B + 4) (by omega)).trans ((hf1324.1 (B + 4) (by omega)).trans (h1313)))))))
        have h1415 := (n1399 (B + 5) (by omega)).trans ((n1394 (B + 5) (by omega)).trans ((n1388 (B + 5) (by omega)).trans ((n1382 (B + 5) (by omega)).trans ((n1376 (B + 5) (by omega)).trans ((hf1368.1 (B + 5) (by omega)).trans ((hf1324.1 (B + 5) (by omega)).trans (h1314)))))))
        refine T_mono (c_wordsOfKinds sc S1397 B rc (gk G) (gw G) rn (gl G) kn (ga G) (gD G) (gW G) (fK (wt - 1)) ⟨h1402, h1411, h1412, h1413, h1414, ⟨f, h1415, hf⟩, ⟨by omega, by omega⟩, ⟨by omega, by omega⟩, ⟨by omega, by omega⟩⟩ hs1410) (fun v1403 S1404 h1405 => ?_)
        obtain ⟨r1406, h1407, hx1408, h1409⟩ := h1405
        rw [h1407, h1409]
        show X_T sc 39 (179, [(7, .long (iL (k : Int))), (6, .int (iI (fK (wt - 1)))), (5, .int (iI nc)), (4, .int (iI (-3))), (3, .int (iI (j - i))), (2, .int (iI i)), (1, .int (iI (wt - 1))), (0, .ref 517)], [.int (iI r1406), .ref 517], S1397) _
        refine T_p xr_39_179 xn_39 (pc' := 181) (ls' := [(7, .long (iL (k : Int))), (6, .int (iI (fK (wt - 1)))), (5, .int (iI nc)), (4, .int (iI (-3))), (3, .int (iI (j - i))), (2, .int (iI i)), (1, .int (iI (wt - 1))), (0, .ref 517)]) (st' := [.int (iI (fK (wt - 1))), .int (iI r1406), .ref 517]) rfl ?_
        refine T_p xr_39_181 xn_39 (pc' := 183) (ls' := [(7, .long (iL (k : Int))), (6, .int (iI (fK (wt - 1)))), (5, .int (iI nc)), (4, .int (iI (-3))), (3, .int (iI (j - i))), (2, .int (iI i)), (1, .int (iI (wt - 1))), (0, .ref 517)]) (st' := [.long (iL (k : Int)), .int (iI (fK (wt - 1))), .int (iI r1406), .ref 517]) rfl ?_
        refine T_cv (S := S1397) (q := 517) xr_39_183 xf_38.1 xf_38.2.1 xn_38 (as := [.int (iI r1406), .int (iI (fK (wt - 1))), .long (iL (k : Int))]) (r := []) rfl h1398 (Nat.le_of_ble_eq_true rfl) (Nat.le_of_ble_eq_true rfl) (pc' := 186) rfl (ls' := [(0, .ref 517), (1, .int (iI r1406)), (2, .int (iI (fK (wt - 1)))), (3, .long (iL (k : Int)))]) rfl ?_
        refine T_p xr_38_0 xn_38 (pc' := 1) (ls' := [(0, .ref 517), (1, .int (iI r1406)), (2, .int (iI (fK (wt - 1)))), (3, .long (iL (k : Int)))]) (st' := [.ref 517]) rfl ?_
        refine T_get xr_38_1 h1398 rfl (v := .int (iI wt)) rfl (pc' := 4) rfl ?_
        refine T_zif_le xr_38_4 (t := 43) (pc' := 7) rfl rfl (fun c1416 => ?_) (fun c1416 => ?_)
        · skip
          have c1416 : wt ≤ 0 := c1416
          exact (show False by omega).elim
        · skip
          have c1416 : ¬ (wt ≤ 0) := c1416
          refine T_p xr_38_7 xn_38 (pc' := 8) (ls' := [(0, .ref 517), (1, .int (iI r1406)), (2, .int (iI (fK (wt - 1)))), (3, .long (iL (k : Int)))]) (st' := [.ref 517]) rfl ?_
          refine T_get xr_38_8 h1398 rfl (v := .ref 522) rfl (pc' := 11) rfl ?_
          refine T_p xr_38_11 xn_38 (pc' := 12) (ls' := [(0, .ref 517), (1, .int (iI r1406)), (2, .int (iI (fK (wt - 1)))), (3, .long (iL (k : Int)))]) (st' := [.ref 517, .ref 522]) rfl ?_
          refine T_get xr_38_12 h1398 rfl (v := .int (iI wt)) rfl (pc' := 15) rfl ?_
          refine T_p xr_38_15 xn_38 (pc' := 16) (ls' := [(0, .ref 517), (1, .int (iI r1406)), (2, .int (iI (fK (wt - 1)))), (3, .long (iL (k : Int)))]) (st' := [.int (iI 1), .int (iI wt), .ref 522]) rfl ?_
          refine T_zisub xr_38_16 (z := wt - 1) rfl (pc' := 17) rfl ?_
          refine T_p xr_38_17 xn_38 (pc' := 18) (ls' := [(0, .ref 517), (1, .int (iI r1406)), (2, .int (iI (fK (wt - 1)))), (3, .long (iL (k : Int)))]) (st' := [.int (iI r1406), .int (iI (wt - 1)), .ref 522]) rfl ?_
          have h1417 := (n1399 522 (by decide)).trans ((n1394 522 (by decide)).trans ((n1388 522 (by decide)).trans ((n1382 522 (by decide)).trans ((n1376 522 (by decide)).trans ((hf1368.1 522 (by omega)).trans ((hf1324.1 522 (by omega)).trans (h1305)))))))
          refine T_ziast xr_38_18 h1417 (pc' := 19) rfl (fun S1418 h1419 n1420 e1421 => ?_)
          refine T_p xr_38_19 xn_38 (pc' := 20) (ls' := [(0, .ref 517), (1, .int (iI r1406)), (2, .int (iI (fK (wt - 1)))), (3, .long (iL (k : Int)))]) (st' := [.ref 517]) rfl ?_
          have h1422 := (n1420 517 (by decide)).trans (h1398)
          refine T_get xr_38_20 h1422 rfl (v := .ref 523) rfl (pc' := 23) rfl ?_
          refine T_p xr_38_23 xn_38 (pc' := 24) (ls' := [(0, .ref 517), (1, .int (iI r1406)), (2, .int (iI (fK (wt - 1)))), (3, .long (iL (k : Int)))]) (st' := [.ref 517, .ref 523]) rfl ?_
          refine T_get xr_38_24 h1422 rfl (v := .int (iI wt)) rfl (pc' := 27) rfl ?_
          refine T_p xr_38_27 xn_38 (pc' := 28) (ls' := [(0, .ref 517), (1, .int (iI r1406)), (2, .int (iI (fK (wt - 1)))), (3, .long (iL (k : Int)))]) (st' := [.int (iI 1), .int (iI wt), .ref 523]) rfl ?_
          refine T_zisub xr_38_28 (z := wt - 1) rfl (pc' := 29) rfl ?_
          refine T_p xr_38_29 xn_38 (pc' := 30) (ls' := [(0, .ref 517), (1, .int (iI r1406)), (2, .int (iI (fK (wt - 1)))), (3, .long (iL (k : Int)))]) (st' := [.int (iI (fK (wt - 1))), .int (iI (wt - 1)), .ref 523]) rfl ?_
          have h1423 := (n1420 523 (by decide)).trans ((n1399 523 (by decide)).trans ((n1394 523 (by decide)).trans ((n1388 523 (by decide)).trans ((n1382 523 (by decide)).trans ((n1376 523 (by decide)).trans (h1370))))))
          refine T_ziast xr_38_30 h1423 (pc' := 31) rfl (fun S1424 h1425 n1426 e1427 => ?_)
          refine T_p xr_38_31 xn_38 (pc' := 32) (ls' := [(0, .ref 517), (1, .int (iI r1406)), (2, .int (iI (fK (wt - 1)))), (3, .long (iL (k : Int)))]) (st' := [.ref 517]) rfl ?_
          have h1428 := (n1426 517 (by decide)).trans (h1422)
          refine T_get xr_38_32 h1428 rfl (v := .ref 524) rfl (pc' := 35) rfl ?_
          refine T_p xr_38_35 xn_38 (pc' := 36) (ls' := [(0, .ref 517), (1, .int (iI r1406)), (2, .int (iI (fK (wt - 1)))), (3, .long (iL (k : Int)))]) (st' := [.ref 517, .ref 524]) rfl ?_
          refine T_get xr_38_36 h1428 rfl (v := .int (iI wt)) rfl (pc' := 39) rfl ?_
          refine T_p xr_38_39 xn_38 (pc' := 40) (ls' := [(0, .ref 517), (1, .int (iI r1406)), (2, .int (iI (fK (wt - 1)))), (3, .long (iL (k : Int)))]) (st' := [.int (iI 1), .int (iI wt), .ref 524]) rfl ?_
          refine T_zisub xr_38_40 (z := wt - 1) rfl (pc' := 41) rfl ?_
          refine T_p xr_38_41 xn_38 (pc' := 42) (ls' := [(0, .ref 517), (1, .int (iI r1406)), (2, .int (iI (fK (wt - 1)))), (3, .long (iL (k : Int)))]) (st' := [.long (iL (k : Int)), .int (iI (wt - 1)), .ref 524]) rfl ?_
          have h1429 := (n1426 524 (by decide)).trans ((n1420 524 (by decide)).trans ((n1399 524 (by decide)).trans ((n1394 524 (by decide)).trans ((n1388 524 (by decide)).trans ((n1382 524 (by decide)).trans ((n1376 524 (by decide)).trans (h1371)))))))
          refine T_zlast xr_38_42 h1429 (pc' := 43) rfl (fun S1430 h1431 n1432 e1433 => ?_)
          refine T_vret xr_38_43 xf_38.2.2 ?_
          show X_T sc 39 (186, [(7, .long (iL (k : Int))), (6, .int (iI (fK (wt - 1)))), (5, .int (iI nc)), (4, .int (iI (-3))), (3, .int (iI (j - i))), (2, .int (iI i)), (1, .int (iI (wt - 1))), (0, .ref 517)], [], S1430) _
          refine T_vret xr_39_186 xf_39.2.2 ?_
          refine hQ _ _ ?_
          have h1434 := (n1432 505 (by decide)).trans ((n1426 505 (by decide)).trans ((n1420 505 (by decide)).trans ((n1399 505 (by decide)).trans ((n1394 505 (by decide)).trans ((n1388 505 (by decide)).trans ((n1382 505 (by decide)).trans ((n1376 505 (by decide)).trans (ha1362))))))))
          have h1435 := (n1432 506 (by decide)).trans ((n1426 506 (by decide)).trans ((n1420 506 (by decide)).trans ((n1399 506 (by decide)).trans ((n1394 506 (by decide)).trans ((n1388 506 (by decide)).trans ((n1382 506 (by decide)).trans ((n1376 506 (by decide)).trans (ha1363))))))))
          have h1436 := (n1432 507 (by decide)).trans ((n1426 507 (by decide)).trans ((n1420 507 (by decide)).trans ((n1399 507 (by decide)).trans ((n1394 507 (by decide)).trans ((n1388 507 (by decide)).trans ((n1382 507 (by decide)).trans ((n1376 507 (by decide)).trans (ha1364))))))))
          have h1437 := (n1432 508 (by decide)).trans ((n1426 508 (by decide)).trans ((n1420 508 (by decide)).trans ((n1399 508 (by decide)).trans ((n1394 508 (by decide)).trans ((n1388 508 (by decide)).trans ((n1382 508 (by decide)).trans ((n1376 508 (by decide)).trans (ha1365))))))))
          have h1438 := (n1432 509 (by decide)).trans ((n1426 509 (by decide)).trans ((n1420 509 (by decide)).trans ((n1399 509 (by decide)).trans ((n1394 509 (by decide)).trans ((n1388 509 (by decide)).trans ((n1382 509 (by decide)).trans ((n1376 509 (by decide)).trans (ha1366))))))))
          have h1439 := (n1432 510 (by decide)).trans ((n1426 510 (by decide)).trans ((n1420 510 (by decide)).trans ((n1399 510 (by decide)).trans ((n1394 510 (by decide)).trans ((n1388 510 (by decide)).trans ((n1382 510 (by decide)).trans ((n1376 510 (by decide)).trans (ha1367))))))))
          have h1440 := (n1432 518 (by decide)).trans ((n1426 518 (by decide)).trans ((n1420 518 (by decide)).trans ((n1399 518 (by decide)).trans ((n1394 518 (by decide)).trans ((n1388 518 (by decide)).trans ((n1382 518 (by decide)).trans (h1375)))))))
          have h1441 := (n1432 519 (by decide)).trans ((n1426 519 (by decide)).trans ((n1420 519 (by decide)).trans ((n1399 519 (by decide)).trans ((n1394 519 (by decide)).trans ((n1388 519 (by decide)).trans (h1381))))))
          have h1442 := (n1432 520 (by decide)).trans ((n1426 520 (by decide)).trans ((n1420 520 (by decide)).trans ((n1399 520 (by decide)).trans ((n1394 520 (by decide)).trans (h1387)))))
          have h1443 := (n1432 521 (by decide)).trans ((n1426 521 (by decide)).trans ((n1420 521 (by decide)).trans ((n1399 521 (by decide)).trans (h1393))))
          have h1444 := (n1432 522 (by decide)).trans ((n1426 522 (by decide)).trans (h1419))
          have h1445 := (n1432 523 (by decide)).trans (h1425)
          have h1446 := (n1432 516 (by decide)).trans ((n1426 516 (by decide)).trans ((n1420 516 (by decide)).trans ((n1399 516 (by decide)).trans ((n1394 516 (by decide)).trans ((n1388 516 (by decide)).trans ((n1382 516 (by decide)).trans ((n1376 516 (by decide)).trans ((hf1368.1 516 (by omega)).trans ((hf1324.1 516 (by omega)).trans ((n1297 516 (by decide)).trans (hA516)))))))))))
          have h1447 := (n1432 525 (by decide)).trans ((n1426 525 (by decide)).trans ((n1420 525 (by decide)).trans ((n1399 525 (by decide)).trans ((n1394 525 (by decide)).trans ((n1388 525 (by decide)).trans ((n1382 525 (by decide)).trans ((n1376 525 (by decide)).trans ((hf1368.1 525 (by omega)).trans ((hf1324.1 525 (by omega)).trans ((n1297 525 (by decide)).trans (hA525)))))))))))
          have h1448 := (n1432 526 (by decide)).trans ((n1426 526 (by decide)).trans ((n1420 526 (by decide)).trans ((n1399 526 (by decide)).trans ((n1394 526 (by decide)).trans ((n1388 526 (by decide)).trans ((n1382 526 (by decide)).trans ((n1376 526 (by decide)).trans ((hf1368.1 526 (by omega)).trans ((hf1324.1 526 (by omega)).trans ((n1297 526 (by decide)).trans (hA526)))))))))))
          have hMb := X_Mok_b (N' := X_nn N nc (-3) i (j - i) pa ho) hG htn.2 hM hwt hT hp1321 (show ¬ j = i + 1 by omega)
          have h1449 := (n1432 517 (by decide)).trans (h1428)
          have h1450 := (n1432 504 (by decide)).trans ((n1426 504 (by decide)).trans ((n1420 504 (by decide)).trans ((n1399 504 (by decide)).trans ((n1394 504 (by decide)).trans ((n1388 504 (by decide)).trans ((n1382 504 (by decide)).trans ((n1376 504 (by decide)).trans (ho1361))))))))
          exact ⟨wt, X_ug St (wt - 1) (i + 1, j - 1, nc, 0, u, 0, 0, k), X_nn N nc (-3) i (j - i) pa ho, nW1352, nF1353, nL1354, nP1355, nH1356, nC1357, (X_ug fF (wt - 1) (i + 1)), (X_ug fE (wt - 1) (j - 1)), (X_ug fP (wt - 1) nc), (X_ug fH (wt - 1) 0), (X_ug fW (wt - 1) r1406), (X_ug fK (wt - 1) (fK (wt - 1))), (X_ug fN1319 (wt - 1) (iL (k : Int))), tl, hF, hE, rfl, (X_mk_b hT hp1321 (by omega)), hMb.2, (by
                have hz := F_st.push (t := (i + 1, j - 1, nc, 0, u, 0, 0, k)) (F_st.pop hst (fun q hq => hp1322 q)) rfl rfl rfl rfl ⟨rfl, rfl, rfl, rfl, fun v h1 h2 => by rw [hx1408 v h1 (by omega)]; exact ⟨fun z => ⟨(hFk _ (hG.kd v h1 h2).1 (hG.kd v h1 h2).2).mp z.2, Or.inl rfl⟩, fun z => ⟨h2, (hFk _ (hG.kd v h1 h2).1 (hG.kd v h1 h2).2).mpr z.1⟩⟩, hFk, rfl⟩ rfl rfl rfl
                rw [show wt - 1 + 1 = wt by omega] at hz
                exact hz), hp1359, hp1360, h1449, h1450, h1434, h1435, h1436, h1437, h1438, h1439, h1440, h1441, h1442, h1443, h1444, h1445, h1431, h1446, h1447, h1448, (((((((((((X_Fr.rf).tr (X_Fr.of n1297 e1298 (by omega))).tr (X_Fr.mono ⟨hf1324.1, hf1324.2⟩ (fun q hq => (by omega)))).tr (X_Fr.mono ⟨hf1368.1, hf1368.2⟩ (fun q hq => (by omega)))).tr (X_Fr.of n1376 e1377 (by omega))).tr (X_Fr.of n1382 e1383 (by omega))).tr (X_Fr.of n1388 e1389 (by omega))).tr (X_Fr.of n1394 e1395 (by omega))).tr (X_Fr.of n1399 e1400 (by omega))).tr (X_Fr.of n1420 e1421 (by omega))).tr (X_Fr.of n1426 e1427 (by omega))).tr (X_Fr.of n1432 e1433 (by omega))⟩
    · skip
      have c1338 : ¬ (¬ (j - i) = 1) := c1338
      refine T_p xr_39_49 xn_39 (pc' := 51) (ls' := [(4, .int (iI (-1))), (3, .int (iI (j - i))), (2, .int (iI i)), (1, .int (iI (wt - 1))), (0, .ref 517)]) (st' := [.int (iI (-2))]) rfl ?_
      refine T_p xr_39_51 xn_39 (pc' := 56) (ls' := [(4, .int (iI (-1))), (3, .int (iI (j - i))), (2, .int (iI i)), (1, .int (iI (wt - 1))), (0, .ref 517)]) (st' := [.int (iI (-2))]) rfl ?_
      refine T_p xr_39_56 xn_39 (pc' := 58) (ls' := [(4, .int (iI (-2))), (3, .int (iI (j - i))), (2, .int (iI i)), (1, .int (iI (wt - 1))), (0, .ref 517)]) (st' := []) rfl ?_
      refine T_p xr_39_58 xn_39 (pc' := 59) (ls' := [(4, .int (iI (-2))), (3, .int (iI (j - i))), (2, .int (iI i)), (1, .int (iI (wt - 1))), (0, .ref 517)]) (st' := [.ref 517]) rfl ?_
      have h1451 := (hf1324.1 517 (by omega)).trans (h1296)
      refine T_get xr_39_59 h1451 rfl (v := .ref 504) rfl (pc' := 62) rfl ?_
      refine T_p xr_39_62 xn_39 (pc' := 64) (ls' := [(4, .int (iI (-2))), (3, .int (iI (j - i))), (2, .int (iI i)), (1, .int (iI (wt - 1))), (0, .ref 517)]) (st' := [.int (iI (-2)), .ref 504]) rfl ?_
      refine T_p xr_39_64 xn_39 (pc' := 65) (ls' := [(4, .int (iI (-2))), (3, .int (iI (j - i))), (2, .int (iI i)), (1, .int (iI (wt - 1))), (0, .ref 517)]) (st' := [.int (iI i), .int (iI (-2)), .ref 504]) rfl ?_
      refine T_p xr_39_65 xn_39 (pc' := 66) (ls' := [(4, .int (iI (-2))), (3, .int (iI (j - i))), (2, .int (iI i)), (1, .int (iI (wt - 1))), (0, .ref 517)]) (st' := [.int (iI (j - i)), .int (iI i), .int (iI (-2)), .ref 504]) rfl ?_
      refine T_p xr_39_66 xn_39 (pc' := 67) (ls' := [(4, .int (iI (-2))), (3, .int (iI (j - i))), (2, .int (iI i)), (1, .int (iI (wt - 1))), (0, .ref 517)]) (st' := [.ref 517, .int (iI (j - i)), .int (iI i), .int (iI (-2)), .ref 504]) rfl ?_
      refine T_get xr_39_67 h1451 rfl (v := .ref 520) rfl (pc' := 70) rfl ?_
      refine T_p xr_39_70 xn_39 (pc' := 71) (ls' := [(4, .int (iI (-2))), (3, .int (iI (j - i))), (2, .int (iI i)), (1, .int (iI (wt - 1))), (0, .ref 517)]) (st' := [.int (iI (wt - 1)), .ref 520, .int (iI (j - i)), .int (iI i), .int (iI (-2)), .ref 504]) rfl ?_
      have h1452 := (hf1324.1 520 (by omega)).trans ((n1297 520 (by decide)).trans (hA520))
      refine T_ziald xr_39_71 h1452 (pc' := 72) rfl ?_
      refine T_ie (y := iI pa) (by rw [hFp]) ?_
      refine T_p xr_39_72 xn_39 (pc' := 73) (ls' := [(4, .int (iI (-2))), (3, .int (iI (j - i))), (2, .int (iI i)), (1, .int (iI (wt - 1))), (0, .ref 517)]) (st' := [.ref 517, .int (iI pa), .int (iI (j - i)), .int (iI i), .int (iI (-2)), .ref 504]) rfl ?_
      refine T_get xr_39_73 h1451 rfl (v := .ref 521) rfl (pc' := 76) rfl ?_
      refine T_p xr_39_76 xn_39 (pc' := 77) (ls' := [(4, .int (iI (-2))), (3, .int (iI (j - i))), (2, .int (iI i)), (1, .int (iI (wt - 1))), (0, .ref 517)]) (st' := [.int (iI (wt - 1)), .ref 521, .int (iI pa), .int (iI (j - i)), .int (iI i), .int (iI (-2)), .ref 504]) rfl ?_
      have h1453 := (hf1324.1 521 (by omega)).trans ((n1297 521 (by decide)).trans (hA521))
      refine T_ziald xr_39_77 h1453 (pc' := 78) rfl ?_
      refine T_ie (y := iI ho) (by rw [hFh]) ?_
      have h1454 := (hf1324.1 504 (by omega)).trans ((n1297 504 (by decide)).trans (hO504))
      refine T_cv (S := S1317) (q := 504) xr_39_78 xf_80.1 xf_80.2.1 xn_80 (as := [.int (iI (-2)), .int (iI i), .int (iI (j - i)), .int (iI pa), .int (iI ho)]) (r := []) rfl h1454 (Nat.le_of_ble_eq_true rfl) (Nat.le_of_ble_eq_true rfl) (pc' := 81) rfl (ls' := [(0, .ref 504), (1, .int (iI (-2))), (2, .int (iI i)), (3, .int (iI (j - i))), (4, .int (iI pa)), (5, .int (iI ho))]) rfl ?_
      have h1455 := (hf1324.1 505 (by omega)).trans ((n1297 505 (by decide)).trans (hA505))
      have h1456 := (hf1324.1 506 (by omega)).trans ((n1297 506 (by decide)).trans (hA506))
      have h1457 := (hf1324.1 507 (by omega)).trans ((n1297 507 (by decide)).trans (hA507))
      have h1458 := (hf1324.1 508 (by omega)).trans ((n1297 508 (by decide)).trans (hA508))
      have h1459 := (hf1324.1 509 (by omega)).trans ((n1297 509 (by decide)).trans (hA509))
      have h1460 := (hf1324.1 510 (by omega)).trans ((n1297 510 (by decide)).trans (hA510))
      refine T_mono (c_add sc S1317 nW nF nL nP nH nC nc N (-2) i (j - i) pa ho h1454 h1455 h1456 h1457 h1458 h1459 h1460 (by omega) (by omega) hnd hch) (fun v1461 S1462 h1463 => ?_)
      rcases h1463 with ⟨nW1464, nF1465, nL1466, nP1467, nH1468, nC1469, hv1470, hp1471, hp1472, ho1473, ha1474, ha1475, ha1476, ha1477, ha1478, ha1479, hf1480⟩
      rw [hv1470]
      show X_T sc 39 (81, [(4, .int (iI (-2))), (3, .int (iI (j - i))), (2, .int (iI i)), (1, .int (iI (wt - 1))), (0, .ref 517)], [.int (iI nc)], S1462) _
      refine T_p xr_39_81 xn_39 (pc' := 83) (ls' := [(5, .int (iI nc)), (4, .int (iI (-2))), (3, .int (iI (j - i))), (2, .int (iI i)), (1, .int (iI (wt - 1))), (0, .ref 517)]) (st' := []) rfl ?_
      refine T_p xr_39_83 xn_39 (pc' := 85) (ls' := [(5, .int (iI nc)), (4, .int (iI (-2))), (3, .int (iI (j - i))), (2, .int (iI i)), (1, .int (iI (wt - 1))), (0, .ref 517)]) (st' := [.int (iI (-2))]) rfl ?_
      refine T_zif_ltt xr_39_85 (t := 128) rfl (by decide) ?_
      refine T_p xr_39_128 xn_39 (pc' := 130) (ls' := [(5, .int (iI nc)), (4, .int (iI (-2))), (3, .int (iI (j - i))), (2, .int (iI i)), (1, .int (iI (wt - 1))), (0, .ref 517)]) (st' := [.int (iI (-2))]) rfl ?_
      refine T_p xr_39_130 xn_39 (pc' := 132) (ls' := [(5, .int (iI nc)), (4, .int (iI (-2))), (3, .int (iI (j - i))), (2, .int (iI i)), (1, .int (iI (wt - 1))), (0, .ref 517)]) (st' := [.int (iI (-3)), .int (iI (-2))]) rfl ?_
      refine T_zicmp_net xr_39_132 (t := 186) rfl (by decide) ?_
      refine T_vret xr_39_186 xf_39.2.2 ?_
      refine hQ _ _ ?_
      have h1481 := (hf1480.1 518 (by omega)).trans ((hf1324.1 518 (by omega)).trans (h1299))
      have h1482 := (hf1480.1 519 (by omega)).trans ((hf1324.1 519 (by omega)).trans (h1300))
      have h1483 := (hf1480.1 520 (by omega)).trans (h1452)
      have h1484 := (hf1480.1 521 (by omega)).trans (h1453)
      have h1485 := (hf1480.1 522 (by omega)).trans ((hf1324.1 522 (by omega)).trans (h1305))
      have h1486 := (hf1480.1 523 (by omega)).trans ((hf1324.1 523 (by omega)).trans (h1306))
      have h1487 := (hf1480.1 524 (by omega)).trans (ha1323)
      have h1488 := (hf1480.1 516 (by omega)).trans ((hf1324.1 516 (by omega)).trans ((n1297 516 (by decide)).trans (hA516)))
      have h1489 := (hf1480.1 525 (by omega)).trans ((hf1324.1 525 (by omega)).trans ((n1297 525 (by decide)).trans (hA525)))
      have h1490 := (hf1480.1 526 (by omega)).trans ((hf1324.1 526 (by omega)).trans ((n1297 526 (by decide)).trans (hA526)))
      have h1491 := (hf1480.1 517 (by omega)).trans (h1451)
      exact ⟨wt - 1, St, X_nn N nc (-2) i (j - i) pa ho, nW1464, nF1465, nL1466, nP1467, nH1468, nC1469, fF, fE, fP, fH, fW, fK, fN1319, tl, hF, hE, rfl, (X_mk_n hT hp1321 (by omega)), (X_Mok_n hM hwt hT), (F_st.pop hst (fun q hq => hp1322 q)), hp1471, hp1472, h1491, ho1473, ha1474, ha1475, ha1476, ha1477, ha1478, ha1479, h1481, h1482, h1483, h1484, h1485, h1486, h1487, h1488, h1489, h1490, (((X_Fr.rf).tr (X_Fr.of n1297 e1298 (by omega))).tr (X_Fr.mono ⟨hf1324.1, hf1324.2⟩ (fun q hq => (by omega)))).tr (X_Fr.mono ⟨hf1480.1, hf1480.2⟩ (fun q hq => (by omega)))⟩
  · skip
    rw [hv1328]
    show X_T sc 39 (36, [(3, .int (iI (j - i))), (2, .int (iI i)), (1, .int (iI (wt - 1))), (0, .ref 517)], [.int (iI v1325)], S1317) _
    refine T_p xr_39_36 xn_39 (pc' := 38) (ls' := [(4, .int (iI v1325)), (3, .int (iI (j - i))), (2, .int (iI i)), (1, .int (iI (wt - 1))), (0, .ref 517)]) (st' := []) rfl ?_
    refine T_p xr_39_38 xn_39 (pc' := 40) (ls' := [(4, .int (iI v1325)), (3, .int (iI (j - i))), (2, .int (iI i)), (1, .int (iI (wt - 1))), (0, .ref 517)]) (st' := [.int (iI v1325)]) rfl ?_
    refine T_p xr_39_40 xn_39 (pc' := 41) (ls' := [(4, .int (iI v1325)), (3, .int (iI (j - i))), (2, .int (iI i)), (1, .int (iI (wt - 1))), (0, .ref 517)]) (st' := [.int (iI (-1)), .int (iI v1325)]) rfl ?_
    refine T_zicmp_ne xr_39_41 (t := 58) (pc' := 44) rfl rfl (fun c1492 => ?_) (fun c1492 => ?_)
    · skip
      have c1492 : ¬ v1325 = (-1) := c1492
      refine T_p xr_39_58 xn_39 (pc' := 59) (ls' := [(4, .int (iI v1325)), (3, .int (iI (j - i))), (2, .int (iI i)), (1, .int (iI (wt - 1))), (0, .ref 517)]) (st' := [.ref 517]) rfl ?_
      have h1493 := (hf1337.1 517 (by omega)).trans (h1296)
      refine T_get xr_39_59 h1493 rfl (v := .ref 504) rfl (pc' := 62) rfl ?_
      refine T_p xr_39_62 xn_39 (pc' := 64) (ls' := [(4, .int (iI v1325)), (3, .int (iI (j - i))), (2, .int (iI i)), (1, .int (iI (wt - 1))), (0, .ref 517)]) (st' := [.int (iI v1325), .ref 504]) rfl ?_
      refine T_p xr_39_64 xn_39 (pc' := 65) (ls' := [(4, .int (iI v1325)), (3, .int (iI (j - i))), (2, .int (iI i)), (1, .int (iI (wt - 1))), (0, .ref 517)]) (st' := [.int (iI i), .int (iI v1325), .ref 504]) rfl ?_
      refine T_p xr_39_65 xn_39 (pc' := 66) (ls' := [(4, .int (iI v1325)), (3, .int (iI (j - i))), (2, .int (iI i)), (1, .int (iI (wt - 1))), (0, .ref 517)]) (st' := [.int (iI (j - i)), .int (iI i), .int (iI v1325), .ref 504]) rfl ?_
      refine T_p xr_39_66 xn_39 (pc' := 67) (ls' := [(4, .int (iI v1325)), (3, .int (iI (j - i))), (2, .int (iI i)), (1, .int (iI (wt - 1))), (0, .ref 517)]) (st' := [.ref 517, .int (iI (j - i)), .int (iI i), .int (iI v1325), .ref 504]) rfl ?_
      refine T_get xr_39_67 h1493 rfl (v := .ref 520) rfl (pc' := 70) rfl ?_
      refine T_p xr_39_70 xn_39 (pc' := 71) (ls' := [(4, .int (iI v1325)), (3, .int (iI (j - i))), (2, .int (iI i)), (1, .int (iI (wt - 1))), (0, .ref 517)]) (st' := [.int (iI (wt - 1)), .ref 520, .int (iI (j - i)), .int (iI i), .int (iI v1325), .ref 504]) rfl ?_
      have h1494 := (hf1337.1 520 (by omega)).trans ((n1297 520 (by decide)).trans (hA520))
      refine T_ziald xr_39_71 h1494 (pc' := 72) rfl ?_
      refine T_ie (y := iI pa) (by rw [hFp]) ?_
      refine T_p xr_39_72 xn_39 (pc' := 73) (ls' := [(4, .int (iI v1325)), (3, .int (iI (j - i))), (2, .int (iI i)), (1, .int (iI (wt - 1))), (0, .ref 517)]) (st' := [.ref 517, .int (iI pa), .int (iI (j - i)), .int (iI i), .int (iI v1325), .ref 504]) rfl ?_
      refine T_get xr_39_73 h1493 rfl (v := .ref 521) rfl (pc' := 76) rfl ?_
      refine T_p xr_39_76 xn_39 (pc' := 77) (ls' := [(4, .int (iI v1325)), (3, .int (iI (j - i))), (2, .int (iI i)), (1, .int (iI (wt - 1))), (0, .ref 517)]) (st' := [.int (iI (wt - 1)), .ref 521, .int (iI pa), .int (iI (j - i)), .int (iI i), .int (iI v1325), .ref 504]) rfl ?_
      have h1495 := (hf1337.1 521 (by omega)).trans ((n1297 521 (by decide)).trans (hA521))
      refine T_ziald xr_39_77 h1495 (pc' := 78) rfl ?_
      refine T_ie (y := iI ho) (by rw [hFh]) ?_
      have h1496 := (hf1337.1 504 (by omega)).trans ((n1297 504 (by decide)).trans (hO504))
      refine T_cv (S := S1317) (q := 504) xr_39_78 xf_80.1 xf_80.2.1 xn_80 (as := [.int (iI v1325), .int (iI i), .int (iI (j - i)), .int (iI pa), .int (iI ho)]) (r := []) rfl h1496 (Nat.le_of_ble_eq_true rfl) (Nat.le_of_ble_eq_true rfl) (pc' := 81) rfl (ls' := [(0, .ref 504), (1, .int (iI v1325)), (2, .int (iI i)), (3, .int (iI (j - i))), (4, .int (iI pa)), (5, .int (iI ho))]) rfl ?_
      have h1497 := (hf1337.1 505 (by omega)).trans ((n1297 505 (by decide)).trans (hA505))
      have h1498 := (hf1337.1 506 (by omega)).trans ((n1297 506 (by decide)).trans (hA506))
      have h1499 := (hf1337.1 507 (by omega)).trans ((n1297 507 (by decide)).trans (hA507))
      have h1500 := (hf1337.1 508 (by omega)).trans ((n1297 508 (by decide)).trans (hA508))
      have h1501 := (hf1337.1 509 (by omega)).trans ((n1297 509 (by decide)).trans (hA509))
      have h1502 := (hf1337.1 510 (by omega)).trans ((n1297 510 (by decide)).trans (hA510))
      refine T_mono (c_add sc S1317 nW nF nL nP nH nC nc N v1325 i (j - i) pa ho h1496 h1497 h1498 h1499 h1500 h1501 h1502 (by omega) (by omega) hnd hch) (fun v1503 S1504 h1505 => ?_)
      rcases h1505 with ⟨nW1506, nF1507, nL1508, nP1509, nH1510, nC1511, hv1512, hp1513, hp1514, ho1515, ha1516, ha1517, ha1518, ha1519, ha1520, ha1521, hf1522⟩
      rw [hv1512]
      show X_T sc 39 (81, [(4, .int (iI v1325)), (3, .int (iI (j - i))), (2, .int (iI i)), (1, .int (iI (wt - 1))), (0, .ref 517)], [.int (iI nc)], S1504) _
      refine T_p xr_39_81 xn_39 (pc' := 83) (ls' := [(5, .int (iI nc)), (4, .int (iI v1325)), (3, .int (iI (j - i))), (2, .int (iI i)), (1, .int (iI (wt - 1))), (0, .ref 517)]) (st' := []) rfl ?_
      refine T_p xr_39_83 xn_39 (pc' := 85) (ls' := [(5, .int (iI nc)), (4, .int (iI v1325)), (3, .int (iI (j - i))), (2, .int (iI i)), (1, .int (iI (wt - 1))), (0, .ref 517)]) (st' := [.int (iI v1325)]) rfl ?_
      refine T_zif_lt xr_39_85 (t := 128) (pc' := 88) rfl rfl (fun c1523 => ?_) (fun c1523 => ?_)
      · skip
        have c1523 : v1325 < 0 := c1523
        exact (show False by omega).elim
      · skip
        have c1523 : ¬ (v1325 < 0) := c1523
        refine T_p xr_39_88 xn_39 (pc' := 89) (ls' := [(5, .int (iI nc)), (4, .int (iI v1325)), (3, .int (iI (j - i))), (2, .int (iI i)), (1, .int (iI (wt - 1))), (0, .ref 517)]) (st' := [.ref 517]) rfl ?_
        have h1524 := (hf1522.1 517 (by omega)).trans (h1493)
        refine T_get xr_39_89 h1524 rfl (v := .ref 511) rfl (pc' := 92) rfl ?_
        refine T_p xr_39_92 xn_39 (pc' := 94) (ls' := [(5, .int (iI nc)), (4, .int (iI v1325)), (3, .int (iI (j - i))), (2, .int (iI i)), (1, .int (iI (wt - 1))), (0, .ref 517)]) (st' := [.int (iI v1325), .ref 511]) rfl ?_
        refine T_p xr_39_94 xn_39 (pc' := 95) (ls' := [(5, .int (iI nc)), (4, .int (iI v1325)), (3, .int (iI (j - i))), (2, .int (iI i)), (1, .int (iI (wt - 1))), (0, .ref 517)]) (st' := [.int (iI i), .int (iI v1325), .ref 511]) rfl ?_
        refine T_p xr_39_95 xn_39 (pc' := 96) (ls' := [(5, .int (iI nc)), (4, .int (iI v1325)), (3, .int (iI (j - i))), (2, .int (iI i)), (1, .int (iI (wt - 1))), (0, .ref 517)]) (st' := [.int (iI i), .int (iI i), .int (iI v1325), .ref 511]) rfl ?_
        refine T_p xr_39_96 xn_39 (pc' := 97) (ls' := [(5, .int (iI nc)), (4, .int (iI v1325)), (3, .int (iI (j - i))), (2, .int (iI i)), (1, .int (iI (wt - 1))), (0, .ref 517)]) (st' := [.int (iI (j - i)), .int (iI i), .int (iI i), .int (iI v1325), .ref 511]) rfl ?_
        refine T_ziadd xr_39_97 (z := i + (j - i)) rfl (pc' := 98) rfl ?_
        refine T_ie (y := iI j) (by congr 1; omega) ?_
        have h1525 := (hf1522.1 511 (by omega)).trans ((hf1337.1 511 (by omega)).trans (h1308))
        refine T_cv (S := S1504) (q := 511) xr_39_98 xf_32.1 xf_32.2.1 xn_32 (as := [.int (iI v1325), .int (iI i), .int (iI j)]) (r := []) rfl h1525 (Nat.le_of_ble_eq_true rfl) (Nat.le_of_ble_eq_true rfl) (pc' := 101) rfl (ls' := [(0, .ref 511), (1, .int (iI v1325)), (2, .int (iI i)), (3, .int (iI j))]) rfl ?_
        have h1526 := (hf1522.1 515 (by omega)).trans ((hf1337.1 515 (by omega)).trans (h1304))
        have h1527 := (hf1522.1 516 (by omega)).trans ((hf1337.1 516 (by omega)).trans ((n1297 516 (by decide)).trans (hA516)))
        have h1528 := (hf1522.1 501 (by omega)).trans ((hf1337.1 501 (by omega)).trans ((n1297 501 (by decide)).trans (hO501)))
        have h1529 := (hf1522.1 B (by omega)).trans ((hf1337.1 B (by omega)).trans (h1309))
        have h1530 := (hf1522.1 (B + 1) (by omega)).trans ((hf1337.1 (B + 1) (by omega)).trans (h1310))
        have h1531 := (hf1522.1 (B + 2) (by omega)).trans ((hf1337.1 (B + 2) (by omega)).trans (h1311))
        have h1532 := (hf1522.1 (B + 3) (by omega)).trans ((hf1337.1 (B + 3) (by omega)).trans (h1312))
        have h1533 := (hf1522.1 (B + 4) (by omega)).trans ((hf1337.1 (B + 4) (by omega)).trans (h1313))
        have h1534 := (hf1522.1 (B + 5) (by omega)).trans ((hf1337.1 (B + 5) (by omega)).trans (h1314))
        have hs1535 : C_ws S1504 B (gD G) (gW G) := C_ws.fr (P := fun q => 501 ≤ q ∧ q ≤ 529) hs1315 (((X_Fr.rf).tr (X_Fr.mono ⟨hf1337.1, hf1337.2⟩ (fun q hq => (by omega)))).tr (X_Fr.mono ⟨hf1522.1, hf1522.2⟩ (fun q hq => (by omega)))) (fun k h1 h2 => by omega)
        have h1536 := (hf1522.1 502 (by omega)).trans ((hf1337.1 502 (by omega)).trans ((n1297 502 (by decide)).trans (hA502)))
        refine T_mono (c_prepareTails sc S1504 oH tl B rc rn kn G tn fl v1325 i j h1528 h1525 h1526 h1527 hB ⟨h1529, h1530, h1531, h1532, h1533, ⟨f, h1534, hf⟩, ⟨by omega, by omega⟩, ⟨by omega, by omega⟩, ⟨by omega, by omega⟩⟩ hs1535 hG h1536 (by omega) (by omega) (fun p h1 h2 e g1 g2 g3 m h3 h4 => (hcht p m (by omega) h3 (by omega)).2.2.2 _ hp1330.1 hp1330.2 e g1 g2 g3)) (fun v1537 S1538 h1539 => ?_)
        rcases h1539 with ⟨tl1540, hv1541, hp1542, ha1543, hf1544⟩
        rw [hv1541]
        show X_T sc 39 (101, [(5, .int (iI nc)), (4, .int (iI v1325)), (3, .int (iI (j - i))), (2, .int (iI i)), (1, .int (iI (wt - 1))), (0, .ref 517)], [], S1538) _
        refine T_p xr_39_101 xn_39 (pc' := 102) (ls' := [(5, .int (iI nc)), (4, .int (iI v1325)), (3, .int (iI (j - i))), (2, .int (iI i)), (1, .int (iI (wt - 1))), (0, .ref 517)]) (st' := [.ref 517]) rfl ?_
        refine T_p xr_39_102 xn_39 (pc' := 104) (ls' := [(5, .int (iI nc)), (4, .int (iI v1325)), (3, .int (iI (j - i))), (2, .int (iI i)), (1, .int (iI (wt - 1))), (0, .ref 517)]) (st' := [.int (iI v1325), .ref 517]) rfl ?_
        refine T_p xr_39_104 xn_39 (pc' := 106) (ls' := [(5, .int (iI nc)), (4, .int (iI v1325)), (3, .int (iI (j - i))), (2, .int (iI i)), (1, .int (iI (wt - 1))), (0, .ref 517)]) (st' := [.int (iI nc), .int (iI v1325), .ref 517]) rfl ?_
        refine T_p xr_39_106 xn_39 (pc' := 107) (ls' := [(5, .int (iI nc)), (4, .int (iI v1325)), (3, .int (iI (j - i))), (2, .int (iI i)), (1, .int (iI (wt - 1))), (0, .ref 517)]) (st' := [.ref 517, .int (iI nc), .int (iI v1325), .ref 517]) rfl ?_
        refine T_p xr_39_107 xn_39 (pc' := 109) (ls' := [(5, .int (iI nc)), (4, .int (iI v1325)), (3, .int (iI (j - i))), (2, .int (iI i)), (1, .int (iI (wt - 1))), (0, .ref 517)]) (st' := [.int (iI v1325), .ref 517, .int (iI nc), .int (iI v1325), .ref 517]) rfl ?_
        refine T_p xr_39_109 xn_39 (pc' := 110) (ls' := [(5, .int (iI nc)), (4, .int (iI v1325)), (3, .int (iI (j - i))), (2, .int (iI i)), (1, .int (iI (wt - 1))), (0, .ref 517)]) (st' := [.int (iI i), .int (iI v1325), .ref 517, .int (iI nc), .int (iI v1325), .ref 517]) rfl ?_
        refine T_p xr_39_110 xn_39 (pc' := 111) (ls' := [(5, .int (iI nc)), (4, .int (iI v1325)), (3, .int (iI (j - i))), (2, .int (iI i)), (1, .int (iI (wt - 1))), (0, .ref 517)]) (st' := [.int (iI i), .int (iI i), .int (iI v1325), .ref 517, .int (iI nc), .int (iI v1325), .ref 517]) rfl ?_
        refine T_p xr_39_111 xn_39 (pc' := 112) (ls' := [(5, .int (iI nc)), (4, .int (iI v1325)), (3, .int (iI (j - i))), (2, .int (iI i)), (1, .int (iI (wt - 1))), (0, .ref 517)]) (st' := [.int (iI (j - i)), .int (iI i), .int (iI i), .int (iI v1325), .ref 517, .int (iI nc), .int (iI v1325), .ref 517]) rfl ?_
        refine T_ziadd xr_39_112 (z := i + (j - i)) rfl (pc' := 113) rfl ?_
        refine T_ie (y := iI j) (by congr 1; omega) ?_
        refine T_p xr_39_113 xn_39 (pc' := 114) (ls' := [(5, .int (iI nc)), (4, .int (iI v1325)), (3, .int (iI (j - i))), (2, .int (iI i)), (1, .int (iI (wt - 1))), (0, .ref 517)]) (st' := [.ref 517, .int (iI j), .int (iI i), .int (iI v1325), .ref 517, .int (iI nc), .int (iI v1325), .ref 517]) rfl ?_
        have h1545 := (hf1544.1 517 (by omega)).trans (h1524)
        refine T_get xr_39_114 h1545 rfl (v := .ref 524) rfl (pc' := 117) rfl ?_
        refine T_p xr_39_117 xn_39 (pc' := 118) (ls' := [(5, .int (iI nc)), (4, .int (iI v1325)), (3, .int (iI (j - i))), (2, .int (iI i)), (1, .int (iI (wt - 1))), (0, .ref 517)]) (st' := [.int (iI (wt - 1)), .ref 524, .int (iI j), .int (iI i), .int (iI v1325), .ref 517, .int (iI nc), .int (iI v1325), .ref 517]) rfl ?_
        have h1546 := (hf1544.1 524 (by omega)).trans ((hf1522.1 524 (by omega)).trans (ha1336))
        refine T_zlald xr_39_118 h1546 (pc' := 119) rfl ?_
        refine T_le (y := (iL (k1326 : Int))) hp1334 ?_
        refine T_cv (S := S1538) (q := 517) xr_39_119 xf_41.1 xf_41.2.1 xn_41 (as := [.int (iI v1325), .int (iI i), .int (iI j), .long (iL (k1326 : Int))]) (r := [.int (iI nc), .int (iI v1325), .ref 517]) rfl h1545 (Nat.le_of_ble_eq_true rfl) (Nat.le_of_ble_eq_true rfl) (pc' := 122) rfl (ls' := [(0, .ref 517), (1, .int (iI v1325)), (2, .int (iI i)), (3, .int (iI j)), (4, .long (iL (k1326 : Int)))]) rfl ?_
        have h1547 := (hf1544.1 512 (by omega)).trans ((hf1522.1 512 (by omega)).trans ((hf1337.1 512 (by omega)).trans (h1301)))
        have h1548 := (hf1544.1 513 (by omega)).trans ((hf1522.1 513 (by omega)).trans ((hf1337.1 513 (by omega)).trans (h1302)))
        have h1549 := (hf1544.1 514 (by omega)).trans ((hf1522.1 514 (by omega)).trans ((hf1337.1 514 (by omega)).trans (h1303)))
        have h1550 := (hf1544.1 515 (by omega)).trans (h1526)
        have h1551 := (hf1544.1 525 (by omega)).trans ((hf1522.1 525 (by omega)).trans ((hf1337.1 525 (by omega)).trans ((n1297 525 (by decide)).trans (hA525))))
        have h1552 := (hf1544.1 526 (by omega)).trans ((hf1522.1 526 (by omega)).trans ((hf1337.1 526 (by omega)).trans ((n1297 526 (by decide)).trans (hA526))))
        have h1553 := (hf1544.1 511 (by omega)).trans (h1525)
        have h1554 := (hf1544.1 B (by omega)).trans (h1529)
        have h1555 := (hf1544.1 (B + 1) (by omega)).trans (h1530)
        have h1556 := (hf1544.1 (B + 2) (by omega)).trans (h1531)
        have h1557 := (hf1544.1 (B + 3) (by omega)).trans (h1532)
        have h1558 := (hf1544.1 (B + 4) (by omega)).trans (h1533)
        have h1559 := (hf1544.1 (B + 5) (by omega)).trans (h1534)
        have hs1560 : C_ws S1538 B (gD G) (gW G) := C_ws.fr (P := fun q => 501 ≤ q ∧ q ≤ 529) hs1535 ((X_Fr.rf).tr (X_Fr.mono ⟨hf1544.1, hf1544.2⟩ (fun q hq => (by omega)))) (fun k h1 h2 => by omega)
        refine T_mono (c_splitWord sc S1538 oK oW oA oH tl1540 hF hE B rc rn kn G tn fl (wt - 1) v1325 i j k1326 h1553 h1545 h1547 h1548 h1549 h1550 ha1543 h1551 h1552 hB ⟨h1554, h1555, h1556, h1557, h1558, ⟨f, h1559, hf⟩, ⟨by omega, by omega⟩, ⟨by omega, by omega⟩, ⟨by omega, by omega⟩⟩ hs1560 hG (by omega) (by omega) (by omega) (by omega) hcht hp1542) (fun v1561 S1562 h1563 => ?_)
        rcases h1563 with ⟨l1564, HF1565, HE1566, hF1567, hE1568, hv1569, hp1570, hp1571, hp1572, ha1573, ha1574, hf1575⟩
        rw [hv1569]
        have hW1576 := X_Mok_w (N' := X_nn N nc v1325 i (j - i) pa ho) hG htn.2 hM hwt hT hp1330 hp1332 (Nat.le_trans hp1333 hIm) hp1570 hp1572
        show X_T sc 39 (122, [(5, .int (iI nc)), (4, .int (iI v1325)), (3, .int (iI (j - i))), (2, .int (iI i)), (1, .int (iI (wt - 1))), (0, .ref 517)], [.long (iL (l1564 : Int)), .int (iI nc), .int (iI v1325), .ref 517], S1562) _
        have h1577 := (hf1575.1 517 (by omega)).trans (h1545)
        refine T_cv (S := S1562) (q := 517) xr_39_122 xf_42.1 xf_42.2.1 xn_42 (as := [.int (iI v1325), .int (iI nc), .long (iL (l1564 : Int))]) (r := []) rfl h1577 (Nat.le_of_ble_eq_true rfl) (Nat.le_of_ble_eq_true rfl) (pc' := 125) rfl (ls' := [(0, .ref 517), (1, .int (iI v1325)), (2, .int (iI nc)), (3, .long (iL (l1564 : Int)))]) rfl ?_
        have h1578 := (hf1575.1 512 (by omega)).trans (h1547)
        have h1579 := (hf1575.1 513 (by omega)).trans (h1548)
        have h1580 := (hf1575.1 514 (by omega)).trans (h1549)
        have h1581 := (hf1575.1 515 (by omega)).trans (h1550)
        have h1582 := (hf1575.1 518 (by omega)).trans ((hf1544.1 518 (by omega)).trans ((hf1522.1 518 (by omega)).trans ((hf1337.1 518 (by omega)).trans (h1299))))
        have h1583 := (hf1575.1 519 (by omega)).trans ((hf1544.1 519 (by omega)).trans ((hf1522.1 519 (by omega)).trans ((hf1337.1 519 (by omega)).trans (h1300))))
        have h1584 := (hf1575.1 520 (by omega)).trans ((hf1544.1 520 (by omega)).trans ((hf1522.1 520 (by omega)).trans (h1494)))
        have h1585 := (hf1575.1 521 (by omega)).trans ((hf1544.1 521 (by omega)).trans ((hf1522.1 521 (by omega)).trans (h1495)))
        have h1586 := (hf1575.1 522 (by omega)).trans ((hf1544.1 522 (by omega)).trans ((hf1522.1 522 (by omega)).trans ((hf1337.1 522 (by omega)).trans (h1305))))
        have h1587 := (hf1575.1 523 (by omega)).trans ((hf1544.1 523 (by omega)).trans ((hf1522.1 523 (by omega)).trans ((hf1337.1 523 (by omega)).trans (h1306))))
        have h1588 := (hf1575.1 524 (by omega)).trans (h1546)
        have h1589 := (hf1575.1 511 (by omega)).trans (h1553)
        have h1590 := (hf1575.1 B (by omega)).trans (h1554)
        have h1591 := (hf1575.1 (B + 1) (by omega)).trans (h1555)
        have h1592 := (hf1575.1 (B + 2) (by omega)).trans (h1556)
        have h1593 := (hf1575.1 (B + 3) (by omega)).trans (h1557)
        have h1594 := (hf1575.1 (B + 4) (by omega)).trans (h1558)
        have h1595 := (hf1575.1 (B + 5) (by omega)).trans (h1559)
        have hs1596 : C_ws S1562 B (gD G) (gW G) := C_ws.fr (P := fun q => 501 ≤ q ∧ q ≤ 529) hs1560 ((X_Fr.rf).tr (X_Fr.mono ⟨hf1575.1, hf1575.2⟩ (fun q hq => (by omega)))) (fun k h1 h2 => by omega)
        refine T_mono (c_fillWord sc S1562 oK oW oA oH fF fE fP fH fW fK fN1327 hF1567 hE1568 B rc rn kn G tn fl (wt - 1) v1325 nc l1564 HF1565 HE1566 St h1589 h1577 h1578 h1579 h1580 h1581 h1582 h1583 h1584 h1585 h1586 h1587 h1588 ha1573 ha1574 hB ⟨h1590, h1591, h1592, h1593, h1594, ⟨f, h1595, hf⟩, ⟨by omega, by omega⟩, ⟨by omega, by omega⟩, ⟨by omega, by omega⟩⟩ hs1596 hG (by omega) (by omega) hcht (F_st.pop hst hp1335) hp1571 (fun z g1 g2 => by have hz := hW1576.1 z g1 g2; exact ⟨by omega, hz.2⟩) (by omega) (by omega)) (fun v1597 S1598 h1599 => ?_)
        rcases h1599 with ⟨r1600, St1601, fF1602, fE1603, fP1604, fH1605, fW1606, fK1607, fN1608, hv1609, hp1610, hp1611, ho1612, ha1613, ha1614, ha1615, ha1616, ha1617, ha1618, ha1619, hf1620⟩
        rw [hv1609]
        show X_T sc 39 (125, [(5, .int (iI nc)), (4, .int (iI v1325)), (3, .int (iI (j - i))), (2, .int (iI i)), (1, .int (iI (wt - 1))), (0, .ref 517)], [], S1598) _
        refine T_p xr_39_125 xn_39 (pc' := 186) (ls' := [(5, .int (iI nc)), (4, .int (iI v1325)), (3, .int (iI (j - i))), (2, .int (iI i)), (1, .int (iI (wt - 1))), (0, .ref 517)]) (st' := []) rfl ?_
        refine T_vret xr_39_186 xf_39.2.2 ?_
        refine hQ _ _ ?_
        have h1621 := (hf1620.1 505 (by omega)).trans ((hf1575.1 505 (by omega)).trans ((hf1544.1 505 (by omega)).trans (ha1516)))
        have h1622 := (hf1620.1 506 (by omega)).trans ((hf1575.1 506 (by omega)).trans ((hf1544.1 506 (by omega)).trans (ha1517)))
        have h1623 := (hf1620.1 507 (by omega)).trans ((hf1575.1 507 (by omega)).trans ((hf1544.1 507 (by omega)).trans (ha1518)))
        have h1624 := (hf1620.1 508 (by omega)).trans ((hf1575.1 508 (by omega)).trans ((hf1544.1 508 (by omega)).trans (ha1519)))
        have h1625 := (hf1620.1 509 (by omega)).trans ((hf1575.1 509 (by omega)).trans ((hf1544.1 509 (by omega)).trans (ha1520)))
        have h1626 := (hf1620.1 510 (by omega)).trans ((hf1575.1 510 (by omega)).trans ((hf1544.1 510 (by omega)).trans (ha1521)))
        have h1627 := (hf1620.1 516 (by omega)).trans ((hf1575.1 516 (by omega)).trans (ha1543))
        have h1628 := (hf1620.1 525 (by omega)).trans (ha1573)
        have h1629 := (hf1620.1 526 (by omega)).trans (ha1574)
        have h1630 := (hf1620.1 504 (by omega)).trans ((hf1575.1 504 (by omega)).trans ((hf1544.1 504 (by omega)).trans (ho1515)))
        exact ⟨r1600, St1601, X_nn N nc v1325 i (j - i) pa ho, nW1506, nF1507, nL1508, nP1509, nH1510, nC1511, fF1602, fE1603, fP1604, fH1605, fW1606, fK1607, fN1608, tl1540, hF1567, hE1568, rfl, (by
              have hz := X_mk_w (N := N) (nc := nc) hT hp1329 hp1331 hp1570
              rw [hp1610] at hz
              exact hz), (by
              have hz := hW1576.2.2.2
              rw [hp1610] at hz
              exact hz), hp1611, hp1513, hp1514, ho1612, h1630, h1621, h1622, h1623, h1624, h1625, h1626, ha1613, ha1614, ha1615, ha1616, ha1617, ha1618, ha1619, h1627, h1628, h1629, ((((((X_Fr.rf).tr (X_Fr.of n1297 e1298 (by omega))).tr (X_Fr.mono ⟨hf1337.1, hf1337.2⟩ (fun q hq => (by omega)))).tr (X_Fr.mono ⟨hf1522.1, hf1522.2⟩ (fun q hq => (by omega)))).tr (X_Fr.mono ⟨hf1544.1, hf1544.2⟩ (fun q hq => (by omega)))).tr (X_Fr.mono ⟨hf1575.1, hf1575.2⟩ (fun q hq => (by omega)))).tr (X_Fr.mono ⟨hf1620.1, hf1620.2⟩ (fun q hq => (by omega)))⟩
    · skip
      have c1492 : ¬ (¬ v1325 = (-1)) := c1492
      exact (show False by omega).elim
