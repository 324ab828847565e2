theorem xr_43_0 : X_row 43 0 = some (0, (.aload_n 0, 1), (0, 0, 0)) := by decide +kernel
theorem xr_43_1 : X_row 43 1 = some (1, (.dup, 1), (0, 0, 0)) := by decide +kernel
theorem xr_43_2 : X_row 43 2 = some (2, (.getfield 9, 3), (2, 3, 24)) := by decide +kernel
theorem xr_43_5 : X_row 43 5 = some (5, (.iconst 1, 1), (0, 0, 0)) := by decide +kernel
theorem xr_43_6 : X_row 43 6 = some (6, (.isub, 1), (0, 0, 0)) := by decide +kernel
theorem xr_43_7 : X_row 43 7 = some (7, (.putfield 9, 3), (2, 3, 24)) := by decide +kernel
theorem xr_43_10 : X_row 43 10 = some (10, (.aload_n 0, 1), (0, 0, 0)) := by decide +kernel
theorem xr_43_11 : X_row 43 11 = some (11, (.getfield 9, 3), (2, 3, 24)) := by decide +kernel
theorem xr_43_14 : X_row 43 14 = some (14, (.istore_n 1, 1), (0, 0, 0)) := by decide +kernel
theorem xr_43_15 : X_row 43 15 = some (15, (.aload_n 0, 1), (0, 0, 0)) := by decide +kernel
theorem xr_43_16 : X_row 43 16 = some (16, (.getfield 15, 3), (2, 4, 26)) := by decide +kernel
theorem xr_43_19 : X_row 43 19 = some (19, (.iload_n 1, 1), (0, 0, 0)) := by decide +kernel
theorem xr_43_20 : X_row 43 20 = some (20, (.iaload, 1), (0, 0, 0)) := by decide +kernel
theorem xr_43_21 : X_row 43 21 = some (21, (.istore_n 2, 1), (0, 0, 0)) := by decide +kernel
theorem xr_43_22 : X_row 43 22 = some (22, (.aload_n 0, 1), (0, 0, 0)) := by decide +kernel
theorem xr_43_23 : X_row 43 23 = some (23, (.getfield 19, 3), (2, 5, 28)) := by decide +kernel
theorem xr_43_26 : X_row 43 26 = some (26, (.iload_n 1, 1), (0, 0, 0)) := by decide +kernel
theorem xr_43_27 : X_row 43 27 = some (27, (.iaload, 1), (0, 0, 0)) := by decide +kernel
theorem xr_43_28 : X_row 43 28 = some (28, (.iload_n 2, 1), (0, 0, 0)) := by decide +kernel
theorem xr_43_29 : X_row 43 29 = some (29, (.isub, 1), (0, 0, 0)) := by decide +kernel
theorem xr_43_30 : X_row 43 30 = some (30, (.istore_n 3, 1), (0, 0, 0)) := by decide +kernel
theorem xr_43_31 : X_row 43 31 = some (31, (.aload_n 0, 1), (0, 0, 0)) := by decide +kernel
theorem xr_43_32 : X_row 43 32 = some (32, (.iload_n 1, 1), (0, 0, 0)) := by decide +kernel
theorem xr_43_33 : X_row 43 33 = some (33, (.invokevirtual 77, 3), (44, 8, 0)) := by decide +kernel
theorem xr_43_36 : X_row 43 36 = some (36, (.istore 4, 2), (0, 0, 0)) := by decide +kernel
theorem xr_43_38 : X_row 43 38 = some (38, (.iload 4, 2), (0, 0, 0)) := by decide +kernel
theorem xr_43_40 : X_row 43 40 = some (40, (.iconst (-1), 1), (0, 0, 0)) := by decide +kernel
theorem xr_43_41 : X_row 43 41 = some (41, (.if_icmp .ne 17, 3), (0, 0, 0)) := by decide +kernel
theorem xr_43_44 : X_row 43 44 = some (44, (.iload_n 3, 1), (0, 0, 0)) := by decide +kernel
theorem xr_43_45 : X_row 43 45 = some (45, (.iconst 1, 1), (0, 0, 0)) := by decide +kernel
theorem xr_43_46 : X_row 43 46 = some (46, (.if_icmp .ne 8, 3), (0, 0, 0)) := by decide +kernel
theorem xr_43_49 : X_row 43 49 = some (49, (.bipush (-2), 2), (0, 0, 0)) := by decide +kernel
theorem xr_43_51 : X_row 43 51 = some (51, (.goto 5, 3), (0, 0, 0)) := by decide +kernel
theorem xr_43_54 : X_row 43 54 = some (54, (.bipush (-3), 2), (0, 0, 0)) := by decide +kernel
theorem xr_43_56 : X_row 43 56 = some (56, (.istore 4, 2), (0, 0, 0)) := by decide +kernel
theorem xr_43_58 : X_row 43 58 = some (58, (.aload_n 0, 1), (0, 0, 0)) := by decide +kernel
theorem xr_43_59 : X_row 43 59 = some (59, (.getfield 52, 3), (2, 2, 22)) := by decide +kernel
theorem xr_43_62 : X_row 43 62 = some (62, (.iload 4, 2), (0, 0, 0)) := by decide +kernel
theorem xr_43_64 : X_row 43 64 = some (64, (.iload_n 2, 1), (0, 0, 0)) := by decide +kernel
theorem xr_43_65 : X_row 43 65 = some (65, (.iload_n 3, 1), (0, 0, 0)) := by decide +kernel
theorem xr_43_66 : X_row 43 66 = some (66, (.aload_n 0, 1), (0, 0, 0)) := by decide +kernel
theorem xr_43_67 : X_row 43 67 = some (67, (.getfield 22, 3), (2, 6, 30)) := by decide +kernel
theorem xr_43_70 : X_row 43 70 = some (70, (.iload_n 1, 1), (0, 0, 0)) := by decide +kernel
theorem xr_43_71 : X_row 43 71 = some (71, (.iaload, 1), (0, 0, 0)) := by decide +kernel
theorem xr_43_72 : X_row 43 72 = some (72, (.aload_n 0, 1), (0, 0, 0)) := by decide +kernel
theorem xr_43_73 : X_row 43 73 = some (73, (.getfield 25, 3), (2, 7, 32)) := by decide +kernel
theorem xr_43_76 : X_row 43 76 = some (76, (.iload_n 1, 1), (0, 0, 0)) := by decide +kernel
theorem xr_43_77 : X_row 43 77 = some (77, (.iaload, 1), (0, 0, 0)) := by decide +kernel
theorem xr_43_78 : X_row 43 78 = some (78, (.invokevirtual 81, 3), (84, 16, 0)) := by decide +kernel
theorem xr_43_81 : X_row 43 81 = some (81, (.istore 5, 2), (0, 0, 0)) := by decide +kernel
theorem xr_43_83 : X_row 43 83 = some (83, (.iload 4, 2), (0, 0, 0)) := by decide +kernel
theorem xr_43_85 : X_row 43 85 = some (85, (.ifCond .lt 43, 3), (0, 0, 0)) := by decide +kernel
theorem xr_43_88 : X_row 43 88 = some (88, (.aload_n 0, 1), (0, 0, 0)) := by decide +kernel
theorem xr_43_89 : X_row 43 89 = some (89, (.getfield 44, 3), (2, 0, 18)) := by decide +kernel
theorem xr_43_92 : X_row 43 92 = some (92, (.iload 4, 2), (0, 0, 0)) := by decide +kernel
theorem xr_43_94 : X_row 43 94 = some (94, (.iload_n 2, 1), (0, 0, 0)) := by decide +kernel
theorem xr_43_95 : X_row 43 95 = some (95, (.iload_n 2, 1), (0, 0, 0)) := by decide +kernel
theorem xr_43_96 : X_row 43 96 = some (96, (.iload_n 3, 1), (0, 0, 0)) := by decide +kernel
theorem xr_43_97 : X_row 43 97 = some (97, (.iadd, 1), (0, 0, 0)) := by decide +kernel
theorem xr_43_98 : X_row 43 98 = some (98, (.invokevirtual 85, 3), (36, 18, 0)) := by decide +kernel
theorem xr_43_101 : X_row 43 101 = some (101, (.aload_n 0, 1), (0, 0, 0)) := by decide +kernel
theorem xr_43_102 : X_row 43 102 = some (102, (.iload 4, 2), (0, 0, 0)) := by decide +kernel
theorem xr_43_104 : X_row 43 104 = some (104, (.iload 5, 2), (0, 0, 0)) := by decide +kernel
theorem xr_43_106 : X_row 43 106 = some (106, (.aload_n 0, 1), (0, 0, 0)) := by decide +kernel
theorem xr_43_107 : X_row 43 107 = some (107, (.iload 4, 2), (0, 0, 0)) := by decide +kernel
theorem xr_43_109 : X_row 43 109 = some (109, (.iload_n 2, 1), (0, 0, 0)) := by decide +kernel
theorem xr_43_110 : X_row 43 110 = some (110, (.iload_n 2, 1), (0, 0, 0)) := by decide +kernel
theorem xr_43_111 : X_row 43 111 = some (111, (.iload_n 3, 1), (0, 0, 0)) := by decide +kernel
theorem xr_43_112 : X_row 43 112 = some (112, (.iadd, 1), (0, 0, 0)) := by decide +kernel
theorem xr_43_113 : X_row 43 113 = some (113, (.aload_n 0, 1), (0, 0, 0)) := by decide +kernel
theorem xr_43_114 : X_row 43 114 = some (114, (.getfield 34, 3), (2, 10, 38)) := by decide +kernel
theorem xr_43_117 : X_row 43 117 = some (117, (.iload_n 1, 1), (0, 0, 0)) := by decide +kernel
theorem xr_43_118 : X_row 43 118 = some (118, (.laload, 1), (0, 0, 0)) := by decide +kernel
theorem xr_43_119 : X_row 43 119 = some (119, (.invokevirtual 91, 3), (45, 20, 0)) := by decide +kernel
theorem xr_43_122 : X_row 43 122 = some (122, (.invokevirtual 95, 3), (46, 30, 0)) := by decide +kernel
theorem xr_43_125 : X_row 43 125 = some (125, (.goto 61, 3), (0, 0, 0)) := by decide +kernel
theorem xr_43_128 : X_row 43 128 = some (128, (.iload 4, 2), (0, 0, 0)) := by decide +kernel
theorem xr_43_130 : X_row 43 130 = some (130, (.bipush (-3), 2), (0, 0, 0)) := by decide +kernel
theorem xr_43_132 : X_row 43 132 = some (132, (.if_icmp .ne 54, 3), (0, 0, 0)) := by decide +kernel
theorem xr_43_135 : X_row 43 135 = some (135, (.aload_n 0, 1), (0, 0, 0)) := by decide +kernel
theorem xr_43_136 : X_row 43 136 = some (136, (.getfield 31, 3), (2, 9, 36)) := by decide +kernel
theorem xr_43_139 : X_row 43 139 = some (139, (.iload_n 1, 1), (0, 0, 0)) := by decide +kernel
theorem xr_43_140 : X_row 43 140 = some (140, (.iaload, 1), (0, 0, 0)) := by decide +kernel
theorem xr_43_141 : X_row 43 141 = some (141, (.istore 6, 2), (0, 0, 0)) := by decide +kernel
theorem xr_43_143 : X_row 43 143 = some (143, (.aload_n 0, 1), (0, 0, 0)) := by decide +kernel
theorem xr_43_144 : X_row 43 144 = some (144, (.getfield 34, 3), (2, 10, 38)) := by decide +kernel
theorem xr_43_147 : X_row 43 147 = some (147, (.iload_n 1, 1), (0, 0, 0)) := by decide +kernel
theorem xr_43_148 : X_row 43 148 = some (148, (.laload, 1), (0, 0, 0)) := by decide +kernel
theorem xr_43_149 : X_row 43 149 = some (149, (.lstore 7, 2), (0, 0, 0)) := by decide +kernel
theorem xr_43_151 : X_row 43 151 = some (151, (.aload_n 0, 1), (0, 0, 0)) := by decide +kernel
theorem xr_43_152 : X_row 43 152 = some (152, (.iload_n 2, 1), (0, 0, 0)) := by decide +kernel
theorem xr_43_153 : X_row 43 153 = some (153, (.iconst 1, 1), (0, 0, 0)) := by decide +kernel
theorem xr_43_154 : X_row 43 154 = some (154, (.iadd, 1), (0, 0, 0)) := by decide +kernel
theorem xr_43_155 : X_row 43 155 = some (155, (.iload_n 2, 1), (0, 0, 0)) := by decide +kernel
theorem xr_43_156 : X_row 43 156 = some (156, (.iload_n 3, 1), (0, 0, 0)) := by decide +kernel
theorem xr_43_157 : X_row 43 157 = some (157, (.iadd, 1), (0, 0, 0)) := by decide +kernel
theorem xr_43_158 : X_row 43 158 = some (158, (.iconst 1, 1), (0, 0, 0)) := by decide +kernel
theorem xr_43_159 : X_row 43 159 = some (159, (.isub, 1), (0, 0, 0)) := by decide +kernel
theorem xr_43_160 : X_row 43 160 = some (160, (.iload 5, 2), (0, 0, 0)) := by decide +kernel
theorem xr_43_162 : X_row 43 162 = some (162, (.iconst 0, 1), (0, 0, 0)) := by decide +kernel
theorem xr_43_163 : X_row 43 163 = some (163, (.invokevirtual 66, 3), (41, 2, 0)) := by decide +kernel
theorem xr_43_166 : X_row 43 166 = some (166, (.aload_n 0, 1), (0, 0, 0)) := by decide +kernel
theorem xr_43_167 : X_row 43 167 = some (167, (.aload_n 0, 1), (0, 0, 0)) := by decide +kernel
theorem xr_43_168 : X_row 43 168 = some (168, (.getfield 44, 3), (2, 0, 18)) := by decide +kernel
theorem xr_43_171 : X_row 43 171 = some (171, (.getfield 98, 3), (1, 0, 17)) := by decide +kernel
theorem xr_43_174 : X_row 43 174 = some (174, (.iload 6, 2), (0, 0, 0)) := by decide +kernel
theorem xr_43_176 : X_row 43 176 = some (176, (.invokevirtual 102, 3), (15, 32, 0)) := by decide +kernel
theorem xr_43_179 : X_row 43 179 = some (179, (.iload 6, 2), (0, 0, 0)) := by decide +kernel
theorem xr_43_181 : X_row 43 181 = some (181, (.lload 7, 2), (0, 0, 0)) := by decide +kernel
theorem xr_43_183 : X_row 43 183 = some (183, (.invokevirtual 70, 3), (42, 4, 0)) := by decide +kernel
theorem xr_43_186 : X_row 43 186 = some (186, (.return_, 1), (0, 0, 0)) := by decide +kernel
theorem xr_84_0 : X_row 84 0 = some (0, (.aload_n 0, 1), (0, 0, 0)) := by decide +kernel
theorem xr_84_1 : X_row 84 1 = some (1, (.getfield 9, 3), (5, 0, 0)) := by decide +kernel
theorem xr_84_4 : X_row 84 4 = some (4, (.bipush 30, 2), (0, 0, 0)) := by decide +kernel
theorem xr_84_6 : X_row 84 6 = some (6, (.if_icmp .lt 5, 3), (0, 0, 0)) := by decide +kernel
theorem xr_84_11 : X_row 84 11 = some (11, (.aload_n 0, 1), (0, 0, 0)) := by decide +kernel
theorem xr_84_12 : X_row 84 12 = some (12, (.getfield 9, 3), (5, 0, 0)) := by decide +kernel
theorem xr_84_15 : X_row 84 15 = some (15, (.istore 6, 2), (0, 0, 0)) := by decide +kernel
theorem xr_84_17 : X_row 84 17 = some (17, (.aload_n 0, 1), (0, 0, 0)) := by decide +kernel
theorem xr_84_18 : X_row 84 18 = some (18, (.getfield 15, 3), (5, 1, 2)) := by decide +kernel
theorem xr_84_21 : X_row 84 21 = some (21, (.iload 6, 2), (0, 0, 0)) := by decide +kernel
theorem xr_84_23 : X_row 84 23 = some (23, (.iload_n 1, 1), (0, 0, 0)) := by decide +kernel
theorem xr_84_24 : X_row 84 24 = some (24, (.iastore, 1), (0, 0, 0)) := by decide +kernel
theorem xr_84_25 : X_row 84 25 = some (25, (.aload_n 0, 1), (0, 0, 0)) := by decide +kernel
theorem xr_84_26 : X_row 84 26 = some (26, (.getfield 19, 3), (5, 2, 4)) := by decide +kernel
theorem xr_84_29 : X_row 84 29 = some (29, (.iload 6, 2), (0, 0, 0)) := by decide +kernel
theorem xr_84_31 : X_row 84 31 = some (31, (.iload_n 2, 1), (0, 0, 0)) := by decide +kernel
theorem xr_84_32 : X_row 84 32 = some (32, (.iastore, 1), (0, 0, 0)) := by decide +kernel
theorem xr_84_33 : X_row 84 33 = some (33, (.aload_n 0, 1), (0, 0, 0)) := by decide +kernel
theorem xr_84_34 : X_row 84 34 = some (34, (.getfield 22, 3), (5, 3, 6)) := by decide +kernel
theorem xr_84_37 : X_row 84 37 = some (37, (.iload 6, 2), (0, 0, 0)) := by decide +kernel
theorem xr_84_39 : X_row 84 39 = some (39, (.iload_n 3, 1), (0, 0, 0)) := by decide +kernel
theorem xr_84_40 : X_row 84 40 = some (40, (.iastore, 1), (0, 0, 0)) := by decide +kernel
theorem xr_84_41 : X_row 84 41 = some (41, (.aload_n 0, 1), (0, 0, 0)) := by decide +kernel
theorem xr_84_42 : X_row 84 42 = some (42, (.getfield 25, 3), (5, 4, 8)) := by decide +kernel
theorem xr_84_45 : X_row 84 45 = some (45, (.iload 6, 2), (0, 0, 0)) := by decide +kernel
theorem xr_84_47 : X_row 84 47 = some (47, (.iload 4, 2), (0, 0, 0)) := by decide +kernel
theorem xr_84_49 : X_row 84 49 = some (49, (.iastore, 1), (0, 0, 0)) := by decide +kernel
theorem xr_84_50 : X_row 84 50 = some (50, (.aload_n 0, 1), (0, 0, 0)) := by decide +kernel
theorem xr_84_51 : X_row 84 51 = some (51, (.getfield 28, 3), (5, 5, 10)) := by decide +kernel
theorem xr_84_54 : X_row 84 54 = some (54, (.iload 6, 2), (0, 0, 0)) := by decide +kernel
theorem xr_84_56 : X_row 84 56 = some (56, (.iload 5, 2), (0, 0, 0)) := by decide +kernel
theorem xr_84_58 : X_row 84 58 = some (58, (.iastore, 1), (0, 0, 0)) := by decide +kernel
theorem xr_84_59 : X_row 84 59 = some (59, (.iload 4, 2), (0, 0, 0)) := by decide +kernel
theorem xr_84_61 : X_row 84 61 = some (61, (.ifCond .lt 22, 3), (0, 0, 0)) := by decide +kernel
theorem xr_84_64 : X_row 84 64 = some (64, (.iload 5, 2), (0, 0, 0)) := by decide +kernel
theorem xr_84_66 : X_row 84 66 = some (66, (.ifCond .lt 17, 3), (0, 0, 0)) := by decide +kernel
theorem xr_84_69 : X_row 84 69 = some (69, (.aload_n 0, 1), (0, 0, 0)) := by decide +kernel
theorem xr_84_70 : X_row 84 70 = some (70, (.getfield 31, 3), (5, 6, 12)) := by decide +kernel
theorem xr_84_73 : X_row 84 73 = some (73, (.iload 4, 2), (0, 0, 0)) := by decide +kernel
theorem xr_84_75 : X_row 84 75 = some (75, (.iconst 4, 1), (0, 0, 0)) := by decide +kernel
theorem xr_84_76 : X_row 84 76 = some (76, (.imul, 1), (0, 0, 0)) := by decide +kernel
theorem xr_84_77 : X_row 84 77 = some (77, (.iload 5, 2), (0, 0, 0)) := by decide +kernel
theorem xr_84_79 : X_row 84 79 = some (79, (.iadd, 1), (0, 0, 0)) := by decide +kernel
theorem xr_84_80 : X_row 84 80 = some (80, (.iload 6, 2), (0, 0, 0)) := by decide +kernel
theorem xr_84_82 : X_row 84 82 = some (82, (.iastore, 1), (0, 0, 0)) := by decide +kernel
theorem xr_84_83 : X_row 84 83 = some (83, (.aload_n 0, 1), (0, 0, 0)) := by decide +kernel
theorem xr_84_84 : X_row 84 84 = some (84, (.dup, 1), (0, 0, 0)) := by decide +kernel
theorem xr_84_85 : X_row 84 85 = some (85, (.getfield 9, 3), (5, 0, 0)) := by decide +kernel
theorem xr_84_88 : X_row 84 88 = some (88, (.iconst 1, 1), (0, 0, 0)) := by decide +kernel
theorem xr_84_89 : X_row 84 89 = some (89, (.iadd, 1), (0, 0, 0)) := by decide +kernel
theorem xr_84_90 : X_row 84 90 = some (90, (.putfield 9, 3), (5, 0, 0)) := by decide +kernel
theorem xr_84_93 : X_row 84 93 = some (93, (.iload 6, 2), (0, 0, 0)) := by decide +kernel
theorem xr_84_95 : X_row 84 95 = some (95, (.ireturn, 1), (0, 0, 0)) := by decide +kernel
theorem xn_43 : X_nL 43 = 9 := by decide +kernel
theorem xf_43 : X_na 43 = 0 ∧ X_ci 43 = 2 ∧ X_rt 43 = none := by decide +kernel
theorem xn_84 : X_nL 84 = 7 := by decide +kernel
theorem xf_84 : X_na 84 = 5 ∧ X_ci 84 = 5 ∧ X_rt 84 = (some .int) := by decide +kernel
theorem c_add (sc : X_Sc) (S : X_S) (nW : Int → Int) (nF : Int → Int) (nL : Int → Int) (nP : Int → Int) (nH : Int → Int) (nC : Int → Int) (nc : Int) (N : Int → Int → Int) (a : Int) (b : Int) (c : Int) (d : Int) (e : Int) (hO504 : S.1 504 = .inr (5, [.int (iI nc), .ref 505, .ref 506, .ref 507, .ref 508, .ref 509, .ref 510])) (hA505 : S.1 505 = .inl (.int, 30, .inl fun k : Nat => iI (nW (k : Int)))) (hA506 : S.1 506 = .inl (.int, 30, .inl fun k : Nat => iI (nF (k : Int)))) (hA507 : S.1 507 = .inl (.int, 30, .inl fun k : Nat => iI (nL (k : Int)))) (hA508 : S.1 508 = .inl (.int, 30, .inl fun k : Nat => iI (nP (k : Int)))) (hA509 : S.1 509 = .inl (.int, 30, .inl fun k : Nat => iI (nH (k : Int)))) (hA510 : S.1 510 = .inl (.int, 120, .inl fun k : Nat => iI (nC (k : Int)))) (hnc : 0 ≤ nc ∧ nc < 30) (hd : -1 ≤ d ∧ d < 30 ∧ -1 ≤ e ∧ e ≤ 3) (hnd : F_nd nc N nW nF nL nP nH) (hch : F_ch nc N nC) : X_T sc 84 (0, [(0, .ref 504), (1, .int (iI a)), (2, .int (iI b)), (3, .int (iI c)), (4, .int (iI d)), (5, .int (iI e))], [], S) (fun v S' => ∃ (nW1 : Int → Int) (nF1 : Int → Int) (nL1 : Int → Int) (nP1 : Int → Int) (nH1 : Int → Int) (nC1 : Int → Int), v = some (.int (iI nc)) ∧ F_nd (nc + 1) (X_nn N nc a b c d e) nW1 nF1 nL1 nP1 nH1 ∧ F_ch (nc + 1) (X_nn N nc a b c d e) nC1 ∧ S'.1 504 = .inr (5, [.int (iI (nc + 1)), .ref 505, .ref 506, .ref 507, .ref 508, .ref 509, .ref 510]) ∧ S'.1 505 = .inl (.int, 30, .inl fun k : Nat => iI (nW1 (k : Int))) ∧ S'.1 506 = .inl (.int, 30, .inl fun k : Nat => iI (nF1 (k : Int))) ∧ S'.1 507 = .inl (.int, 30, .inl fun k : Nat => iI (nL1 (k : Int))) ∧ S'.1 508 = .inl (.int, 30, .inl fun k : Nat => iI (nP1 (k : Int))) ∧ S'.1 509 = .inl (.int, 30, .inl fun k : Nat => iI (nH1 (k : Int))) ∧ S'.1 510 = .inl (.int, 120, .inl fun k : Nat => iI (nC1 (k : Int))) ∧ (X_Fr (fun q => 504 ≤ q ∧ q ≤ 510) S S')) := by
  refine X_QI (fun Q hQ => ?_)
  refine T_p xr_84_0 xn_84 (pc' := 1) (ls' := [(0, .ref 504), (1, .int (iI a)), (2, .int (iI b)), (3, .int (iI c)), (4, .int (iI d)), (5, .int (iI e))]) (st' := [.ref 504]) rfl ?_
  refine T_get xr_84_1 hO504 rfl (v := .int (iI nc)) rfl (pc' := 4) rfl ?_
  refine T_p xr_84_4 xn_84 (pc' := 6) (ls' := [(0, .ref 504), (1, .int (iI a)), (2, .int (iI b)), (3, .int (iI c)), (4, .int (iI d)), (5, .int (iI e))]) (st' := [.int (iI 30), .int (iI nc)]) rfl ?_
  refine T_zicmp_lt xr_84_6 (t := 11) (pc' := 9) rfl rfl (fun c1326 => ?_) (fun c1326 => ?_)
  · skip
    have c1326 : nc < 30 := c1326
    refine T_p xr_84_11 xn_84 (pc' := 12) (ls' := [(0, .ref 504), (1, .int (iI a)), (2, .int (iI b)), (3, .int (iI c)), (4, .int (iI d)), (5, .int (iI e))]) (st' := [.ref 504]) rfl ?_
    refine T_get xr_84_12 hO504 rfl (v := .int (iI nc)) rfl (pc' := 15) rfl ?_
    refine T_p xr_84_15 xn_84 (pc' := 17) (ls' := [(6, .int (iI nc)), (0, .ref 504), (1, .int (iI a)), (2, .int (iI b)), (3, .int (iI c)), (4, .int (iI d)), (5, .int (iI e))]) (st' := []) rfl ?_
    refine T_p xr_84_17 xn_84 (pc' := 18) (ls' := [(6, .int (iI nc)), (0, .ref 504), (1, .int (iI a)), (2, .int (iI b)), (3, .int (iI c)), (4, .int (iI d)), (5, .int (iI e))]) (st' := [.ref 504]) rfl ?_
    refine T_get xr_84_18 hO504 rfl (v := .ref 505) rfl (pc' := 21) rfl ?_
    refine T_p xr_84_21 xn_84 (pc' := 23) (ls' := [(6, .int (iI nc)), (0, .ref 504), (1, .int (iI a)), (2, .int (iI b)), (3, .int (iI c)), (4, .int (iI d)), (5, .int (iI e))]) (st' := [.int (iI nc), .ref 505]) rfl ?_
    refine T_p xr_84_23 xn_84 (pc' := 24) (ls' := [(6, .int (iI nc)), (0, .ref 504), (1, .int (iI a)), (2, .int (iI b)), (3, .int (iI c)), (4, .int (iI d)), (5, .int (iI e))]) (st' := [.int (iI a), .int (iI nc), .ref 505]) rfl ?_
    refine T_ziast xr_84_24 hA505 (pc' := 25) rfl (fun S1327 h1328 n1329 e1330 => ?_)
    refine T_p xr_84_25 xn_84 (pc' := 26) (ls' := [(6, .int (iI nc)), (0, .ref 504), (1, .int (iI a)), (2, .int (iI b)), (3, .int (iI c)), (4, .int (iI d)), (5, .int (iI e))]) (st' := [.ref 504]) rfl ?_
    have h1331 := (n1329 504 (by decide)).trans (hO504)
    refine T_get xr_84_26 h1331 rfl (v := .ref 506) rfl (pc' := 29) rfl ?_
    refine T_p xr_84_29 xn_84 (pc' := 31) (ls' := [(6, .int (iI nc)), (0, .ref 504), (1, .int (iI a)), (2, .int (iI b)), (3, .int (iI c)), (4, .int (iI d)), (5, .int (iI e))]) (st' := [.int (iI nc), .ref 506]) rfl ?_
    refine T_p xr_84_31 xn_84 (pc' := 32) (ls' := [(6, .int (iI nc)), (0, .ref 504), (1, .int (iI a)), (2, .int (iI b)), (3, .int (iI c)), (4, .int (iI d)), (5, .int (iI e))]) (st' := [.int (iI b), .int (iI nc), .ref 506]) rfl ?_
    have h1332 := (n1329 506 (by decide)).trans (hA506)
    refine T_ziast xr_84_32 h1332 (pc' := 33) rfl (fun S1333 h1334 n1335 e1336 => ?_)
    refine T_p xr_84_33 xn_84 (pc' := 34) (ls' := [(6, .int (iI nc)), (0, .ref 504), (1, .int (iI a)), (2, .int (iI b)), (3, .int (iI c)), (4, .int (iI d)), (5, .int (iI e))]) (st' := [.ref 504]) rfl ?_
    have h1337 := (n1335 504 (by decide)).trans (h1331)
    refine T_get xr_84_34 h1337 rfl (v := .ref 507) rfl (pc' := 37) rfl ?_
    refine T_p xr_84_37 xn_84 (pc' := 39) (ls' := [(6, .int (iI nc)), (0, .ref 504), (1, .int (iI a)), (2, .int (iI b)), (3, .int (iI c)), (4, .int (iI d)), (5, .int (iI e))]) (st' := [.int (iI nc), .ref 507]) rfl ?_
    refine T_p xr_84_39 xn_84 (pc' := 40) (ls' := [(6, .int (iI nc)), (0, .ref 504), (1, .int (iI a)), (2, .int (iI b)), (3, .int (iI c)), (4, .int (iI d)), (5, .int (iI e))]) (st' := [.int (iI c), .int (iI nc), .ref 507]) rfl ?_
    have h1338 := (n1335 507 (by decide)).trans ((n1329 507 (by decide)).trans (hA507))
    refine T_ziast xr_84_40 h1338 (pc' := 41) rfl (fun S1339 h1340 n1341 e1342 => ?_)
    refine T_p xr_84_41 xn_84 (pc' := 42) (ls' := [(6, .int (iI nc)), (0, .ref 504), (1, .int (iI a)), (2, .int (iI b)), (3, .int (iI c)), (4, .int (iI d)), (5, .int (iI e))]) (st' := [.ref 504]) rfl ?_
    have h1343 := (n1341 504 (by decide)).trans (h1337)
    refine T_get xr_84_42 h1343 rfl (v := .ref 508) rfl (pc' := 45) rfl ?_
    refine T_p xr_84_45 xn_84 (pc' := 47) (ls' := [(6, .int (iI nc)), (0, .ref 504), (1, .int (iI a)), (2, .int (iI b)), (3, .int (iI c)), (4, .int (iI d)), (5, .int (iI e))]) (st' := [.int (iI nc), .ref 508]) rfl ?_
    refine T_p xr_84_47 xn_84 (pc' := 49) (ls' := [(6, .int (iI nc)), (0, .ref 504), (1, .int (iI a)), (2, .int (iI b)), (3, .int (iI c)), (4, .int (iI d)), (5, .int (iI e))]) (st' := [.int (iI d), .int (iI nc), .ref 508]) rfl ?_
    have h1344 := (n1341 508 (by decide)).trans ((n1335 508 (by decide)).trans ((n1329 508 (by decide)).trans (hA508)))
    refine T_ziast xr_84_49 h1344 (pc' := 50) rfl (fun S1345 h1346 n1347 e1348 => ?_)
    refine T_p xr_84_50 xn_84 (pc' := 51) (ls' := [(6, .int (iI nc)), (0, .ref 504), (1, .int (iI a)), (2, .int (iI b)), (3, .int (iI c)), (4, .int (iI d)), (5, .int (iI e))]) (st' := [.ref 504]) rfl ?_
    have h1349 := (n1347 504 (by decide)).trans (h1343)
    refine T_get xr_84_51 h1349 rfl (v := .ref 509) rfl (pc' := 54) rfl ?_
    refine T_p xr_84_54 xn_84 (pc' := 56) (ls' := [(6, .int (iI nc)), (0, .ref 504), (1, .int (iI a)), (2, .int (iI b)), (3, .int (iI c)), (4, .int (iI d)), (5, .int (iI e))]) (st' := [.int (iI nc), .ref 509]) rfl ?_
    refine T_p xr_84_56 xn_84 (pc' := 58) (ls' := [(6, .int (iI nc)), (0, .ref 504), (1, .int (iI a)), (2, .int (iI b)), (3, .int (iI c)), (4, .int (iI d)), (5, .int (iI e))]) (st' := [.int (iI e), .int (iI nc), .ref 509]) rfl ?_
    have h1350 := (n1347 509 (by decide)).trans ((n1341 509 (by decide)).trans ((n1335 509 (by decide)).trans ((n1329 509 (by decide)).trans (hA509))))
    refine T_ziast xr_84_58 h1350 (pc' := 59) rfl (fun S1351 h1352 n1353 e1354 => ?_)
    refine T_p xr_84_59 xn_84 (pc' := 61) (ls' := [(6, .int (iI nc)), (0, .ref 504), (1, .int (iI a)), (2, .int (iI b)), (3, .int (iI c)), (4, .int (iI d)), (5, .int (iI e))]) (st' := [.int (iI d)]) rfl ?_
    refine T_zif_lt xr_84_61 (t := 83) (pc' := 64) rfl rfl (fun c1355 => ?_) (fun c1355 => ?_)
    · skip
      have c1355 : d < 0 := c1355
      refine T_p xr_84_83 xn_84 (pc' := 84) (ls' := [(6, .int (iI nc)), (0, .ref 504), (1, .int (iI a)), (2, .int (iI b)), (3, .int (iI c)), (4, .int (iI d)), (5, .int (iI e))]) (st' := [.ref 504]) rfl ?_
      refine T_p xr_84_84 xn_84 (pc' := 85) (ls' := [(6, .int (iI nc)), (0, .ref 504), (1, .int (iI a)), (2, .int (iI b)), (3, .int (iI c)), (4, .int (iI d)), (5, .int (iI e))]) (st' := [.ref 504, .ref 504]) rfl ?_
      have h1356 := (n1353 504 (by decide)).trans (h1349)
      refine T_get xr_84_85 h1356 rfl (v := .int (iI nc)) rfl (pc' := 88) rfl ?_
      refine T_p xr_84_88 xn_84 (pc' := 89) (ls' := [(6, .int (iI nc)), (0, .ref 504), (1, .int (iI a)), (2, .int (iI b)), (3, .int (iI c)), (4, .int (iI d)), (5, .int (iI e))]) (st' := [.int (iI 1), .int (iI nc), .ref 504]) rfl ?_
      refine T_ziadd xr_84_89 (z := nc + 1) rfl (pc' := 90) rfl ?_
      refine T_put xr_84_90 h1356 rfl (Nat.le_of_ble_eq_true rfl) rfl (fs' := [.int (iI (nc + 1)), .ref 505, .ref 506, .ref 507, .ref 508, .ref 509, .ref 510]) rfl (pc' := 93) rfl (fun S1357 h1358 n1359 e1360 => ?_)
      refine T_p xr_84_93 xn_84 (pc' := 95) (ls' := [(6, .int (iI nc)), (0, .ref 504), (1, .int (iI a)), (2, .int (iI b)), (3, .int (iI c)), (4, .int (iI d)), (5, .int (iI e))]) (st' := [.int (iI nc)]) rfl ?_
      refine T_iret xr_84_95 xf_84.2.2 rfl ?_
      refine hQ _ _ ?_
      have h1361 := (n1359 505 (by decide)).trans ((n1353 505 (by decide)).trans ((n1347 505 (by decide)).trans ((n1341 505 (by decide)).trans ((n1335 505 (by decide)).trans (h1328)))))
      have h1362 := (n1359 506 (by decide)).trans ((n1353 506 (by decide)).trans ((n1347 506 (by decide)).trans ((n1341 506 (by decide)).trans (h1334))))
      have h1363 := (n1359 507 (by decide)).trans ((n1353 507 (by decide)).trans ((n1347 507 (by decide)).trans (h1340)))
      have h1364 := (n1359 508 (by decide)).trans ((n1353 508 (by decide)).trans (h1346))
      have h1365 := (n1359 509 (by decide)).trans (h1352)
      have h1366 := (n1359 510 (by decide)).trans ((n1353 510 (by decide)).trans ((n1347 510 (by decide)).trans ((n1341 510 (by decide)).trans ((n1335 510 (by decide)).trans ((n1329 510 (by decide)).trans (hA510))))))
      exact ⟨(X_ug nW nc a), (X_ug nF nc b), (X_ug nL nc c), (X_ug nP nc d), (X_ug nH nc e), nC, rfl, (F_nd.add hnd), (F_ch.add0 hch hnc.1 (by omega)), h1358, h1361, h1362, h1363, h1364, h1365, h1366, ((((((X_Fr.rf).tr (X_Fr.of n1329 e1330 (by omega))).tr (X_Fr.of n1335 e1336 (by omega))).tr (X_Fr.of n1341 e1342 (by omega))).tr (X_Fr.of n1347 e1348 (by omega))).tr (X_Fr.of n1353 e1354 (by omega))).tr (X_Fr.of n1359 e1360 (by omega))⟩
    · skip
      have c1355 : ¬ (d < 0) := c1355
      refine T_p xr_84_64 xn_84 (pc' := 66) (ls' := [(6, .int (iI nc)), (0, .ref 504), (1, .int (iI a)), (2, .int (iI b)), (3, .int (iI c)), (4, .int (iI d)), (5, .int (iI e))]) (st' := [.int (iI e)]) rfl ?_
      refine T_zif_lt xr_84_66 (t := 83) (pc' := 69) rfl rfl (fun c1367 => ?_) (fun c1367 => ?_)
      · skip
        have c1367 : e < 0 := c1367
        refine T_p xr_84_83 xn_84 (pc' := 84) (ls' := [(6, .int (iI nc)), (0, .ref 504), (1, .int (iI a)), (2, .int (iI b)), (3, .int (iI c)), (4, .int (iI d)), (5, .int (iI e))]) (st' := [.ref 504]) rfl ?_
        refine T_p xr_84_84 xn_84 (pc' := 85) (ls' := [(6, .int (iI nc)), (0, .ref 504), (1, .int (iI a)), (2, .int (iI b)), (3, .int (iI c)), (4, .int (iI d)), (5, .int (iI e))]) (st' := [.ref 504, .ref 504]) rfl ?_
        have h1368 := (n1353 504 (by decide)).trans (h1349)
        refine T_get xr_84_85 h1368 rfl (v := .int (iI nc)) rfl (pc' := 88) rfl ?_
        refine T_p xr_84_88 xn_84 (pc' := 89) (ls' := [(6, .int (iI nc)), (0, .ref 504), (1, .int (iI a)), (2, .int (iI b)), (3, .int (iI c)), (4, .int (iI d)), (5, .int (iI e))]) (st' := [.int (iI 1), .int (iI nc), .ref 504]) rfl ?_
        refine T_ziadd xr_84_89 (z := nc + 1) rfl (pc' := 90) rfl ?_
        refine T_put xr_84_90 h1368 rfl (Nat.le_of_ble_eq_true rfl) rfl (fs' := [.int (iI (nc + 1)), .ref 505, .ref 506, .ref 507, .ref 508, .ref 509, .ref 510]) rfl (pc' := 93) rfl (fun S1369 h1370 n1371 e1372 => ?_)
        refine T_p xr_84_93 xn_84 (pc' := 95) (ls' := [(6, .int (iI nc)), (0, .ref 504), (1, .int (iI a)), (2, .int (iI b)), (3, .int (iI c)), (4, .int (iI d)), (5, .int (iI e))]) (st' := [.int (iI nc)]) rfl ?_
        refine T_iret xr_84_95 xf_84.2.2 rfl ?_
        refine hQ _ _ ?_
        have h1373 := (n1371 505 (by decide)).trans ((n1353 505 (by decide)).trans ((n1347 505 (by decide)).trans ((n1341 505 (by decide)).trans ((n1335 505 (by decide)).trans (h1328)))))
        have h1374 := (n1371 506 (by decide)).trans ((n1353 506 (by decide)).trans ((n1347 506 (by decide)).trans ((n1341 506 (by decide)).trans (h1334))))
        have h1375 := (n1371 507 (by decide)).trans ((n1353 507 (by decide)).trans ((n1347 507 (by decide)).trans (h1340)))
        have h1376 := (n1371 508 (by decide)).trans ((n1353 508 (by decide)).trans (h1346))
        have h1377 := (n1371 509 (by decide)).trans (h1352)
        have h1378 := (n1371 510 (by decide)).trans ((n1353 510 (by decide)).trans ((n1347 510 (by decide)).trans ((n1341 510 (by decide)).trans ((n1335 510 (by decide)).trans ((n1329 510 (by decide)).trans (hA510))))))
        exact ⟨(X_ug nW nc a), (X_ug nF nc b), (X_ug nL nc c), (X_ug nP nc d), (X_ug nH nc e), nC, rfl, (F_nd.add hnd), (F_ch.add0 hch hnc.1 (by omega)), h1370, h1373, h1374, h1375, h1376, h1377, h1378, ((((((X_Fr.rf).tr (X_Fr.of n1329 e1330 (by omega))).tr (X_Fr.of n1335 e1336 (by omega))).tr (X_Fr.of n1341 e1342 (by omega))).tr (X_Fr.of n1347 e1348 (by omega))).tr (X_Fr.of n1353 e1354 (by omega))).tr (X_Fr.of n1371 e1372 (by omega))⟩
      · skip
        have c1367 : ¬ (e < 0) := c1367
        refine T_p xr_84_69 xn_84 (pc' := 70) (ls' := [(6, .int (iI nc)), (0, .ref 504), (1, .int (iI a)), (2, .int (iI b)), (3, .int (iI c)), (4, .int (iI d)), (5, .int (iI e))]) (st' := [.ref 504]) rfl ?_
        have h1379 := (n1353 504 (by decide)).trans (h1349)
        refine T_get xr_84_70 h1379 rfl (v := .ref 510) rfl (pc' := 73) rfl ?_
        refine T_p xr_84_73 xn_84 (pc' := 75) (ls' := [(6, .int (iI nc)), (0, .ref 504), (1, .int (iI a)), (2, .int (iI b)), (3, .int (iI c)), (4, .int (iI d)), (5, .int (iI e))]) (st' := [.int (iI d), .ref 510]) rfl ?_
        refine T_p xr_84_75 xn_84 (pc' := 76) (ls' := [(6, .int (iI nc)), (0, .ref 504), (1, .int (iI a)), (2, .int (iI b)), (3, .int (iI c)), (4, .int (iI d)), (5, .int (iI e))]) (st' := [.int (iI 4), .int (iI d), .ref 510]) rfl ?_
        refine T_zimul xr_84_76 (z := d * 4) rfl (pc' := 77) rfl ?_
        refine T_p xr_84_77 xn_84 (pc' := 79) (ls' := [(6, .int (iI nc)), (0, .ref 504), (1, .int (iI a)), (2, .int (iI b)), (3, .int (iI c)), (4, .int (iI d)), (5, .int (iI e))]) (st' := [.int (iI e), .int (iI (d * 4)), .ref 510]) rfl ?_
        refine T_ziadd xr_84_79 (z := (d * 4) + e) rfl (pc' := 80) rfl ?_
        refine T_p xr_84_80 xn_84 (pc' := 82) (ls' := [(6, .int (iI nc)), (0, .ref 504), (1, .int (iI a)), (2, .int (iI b)), (3, .int (iI c)), (4, .int (iI d)), (5, .int (iI e))]) (st' := [.int (iI nc), .int (iI ((d * 4) + e)), .ref 510]) rfl ?_
        have h1380 := (n1353 510 (by decide)).trans ((n1347 510 (by decide)).trans ((n1341 510 (by decide)).trans ((n1335 510 (by decide)).trans ((n1329 510 (by decide)).trans (hA510)))))
        refine T_ziast xr_84_82 h1380 (pc' := 83) rfl (fun S1381 h1382 n1383 e1384 => ?_)
        refine T_p xr_84_83 xn_84 (pc' := 84) (ls' := [(6, .int (iI nc)), (0, .ref 504), (1, .int (iI a)), (2, .int (iI b)), (3, .int (iI c)), (4, .int (iI d)), (5, .int (iI e))]) (st' := [.ref 504]) rfl ?_
        refine T_p xr_84_84 xn_84 (pc' := 85) (ls' := [(6, .int (iI nc)), (0, .ref 504), (1, .int (iI a)), (2, .int (iI b)), (3, .int (iI c)), (4, .int (iI d)), (5, .int (iI e))]) (st' := [.ref 504, .ref 504]) rfl ?_
        have h1385 := (n1383 504 (by decide)).trans (h1379)
        refine T_get xr_84_85 h1385 rfl (v := .int (iI nc)) rfl (pc' := 88) rfl ?_
        refine T_p xr_84_88 xn_84 (pc' := 89) (ls' := [(6, .int (iI nc)), (0, .ref 504), (1, .int (iI a)), (2, .int (iI b)), (3, .int (iI c)), (4, .int (iI d)), (5, .int (iI e))]) (st' := [.int (iI 1), .int (iI nc), .ref 504]) rfl ?_
        refine T_ziadd xr_84_89 (z := nc + 1) rfl (pc' := 90) rfl ?_
        refine T_put xr_84_90 h1385 rfl (Nat.le_of_ble_eq_true rfl) rfl (fs' := [.int (iI (nc + 1)), .ref 505, .ref 506, .ref 507, .ref 508, .ref 509, .ref 510]) rfl (pc' := 93) rfl (fun S1386 h1387 n1388 e1389 => ?_)
        refine T_p xr_84_93 xn_84 (pc' := 95) (ls' := [(6, .int (iI nc)), (0, .ref 504), (1, .int (iI a)), (2, .int (iI b)), (3, .int (iI c)), (4, .int (iI d)), (5, .int (iI e))]) (st' := [.int (iI nc)]) rfl ?_
        refine T_iret xr_84_95 xf_84.2.2 rfl ?_
        refine hQ _ _ ?_
        have h1390 := (n1388 505 (by decide)).trans ((n1383 505 (by decide)).trans ((n1353 505 (by decide)).trans ((n1347 505 (by decide)).trans ((n1341 505 (by decide)).trans ((n1335 505 (by decide)).trans (h1328))))))
        have h1391 := (n1388 506 (by decide)).trans ((n1383 506 (by decide)).trans ((n1353 506 (by decide)).trans ((n1347 506 (by decide)).trans ((n1341 506 (by decide)).trans (h1334)))))
        have h1392 := (n1388 507 (by decide)).trans ((n1383 507 (by decide)).trans ((n1353 507 (by decide)).trans ((n1347 507 (by decide)).trans (h1340))))
        have h1393 := (n1388 508 (by decide)).trans ((n1383 508 (by decide)).trans ((n1353 508 (by decide)).trans (h1346)))
        have h1394 := (n1388 509 (by decide)).trans ((n1383 509 (by decide)).trans (h1352))
        have h1395 := (n1388 510 (by decide)).trans (h1382)
        exact ⟨(X_ug nW nc a), (X_ug nF nc b), (X_ug nL nc c), (X_ug nP nc d), (X_ug nH nc e), (X_ug nC ((d * 4) + e) nc), rfl, (F_nd.add hnd), (F_ch.add hch hnc.1 (by omega) (by omega) rfl), h1387, h1390, h1391, h1392, h1393, h1394, h1395, (((((((X_Fr.rf).tr (X_Fr.of n1329 e1330 (by omega))).tr (X_Fr.of n1335 e1336 (by omega))).tr (X_Fr.of n1341 e1342 (by omega))).tr (X_Fr.of n1347 e1348 (by omega))).tr (X_Fr.of n1353 e1354 (by omega))).tr (X_Fr.of n1383 e1384 (by omega))).tr (X_Fr.of n1388 e1389 (by omega))⟩
  · skip
    have c1326 : ¬ (nc < 30) := c1326
    exact (show False by omega).elim
set_option maxHeartbeats 3000000 in
theorem c_makeNode (sc : X_Sc) (S : X_S) (oK : Int → Int64) (oW : Int → Int64) (oA : Int → Int64) (oH : Int → Int64) (tl : Int → Int64) (nW : Int → Int) (nF : Int → Int) (nL : Int → Int) (nP : Int → Int) (nH : Int → Int) (nC : Int → Int) (fF : Int → Int) (fE : Int → Int) (fP : Int → Int) (fH : Int → Int) (fW : Int → Int) (fK : Int → Int) (fN : Int → Int64) (hF : Int → Int) (hE : Int → Int) (B : Nat) (rc : Int) (rn : Int → Int64) (kn : Int → Int64) (G : X_G) (tn : Int) (fl : Int) (wt : Int) (nc : Int) (N : Int → Int → Int) (St : Int → X_It) (hO501 : S.1 501 = .inr (6, [.int (iI tn), .ref 502, .ref 503])) (hO511 : S.1 511 = .inr (1, [.ref B, .ref 501, .int (iI fl), .ref 512, .ref 513, .ref 514, .ref 515, .ref 516])) (hO517 : S.1 517 = .inr (2, [.ref 511, .ref 501, .ref 504, .int (iI wt), .ref 518, .ref 519, .ref 520, .ref 521, .ref 522, .ref 523, .ref 524, .ref 525, .ref 526])) (hO504 : S.1 504 = .inr (5, [.int (iI nc), .ref 505, .ref 506, .ref 507, .ref 508, .ref 509, .ref 510])) (hA512 : S.1 512 = .inl (.long, 5115, .inr (.inl fun k : Nat => oK (k : Int)))) (hA513 : S.1 513 = .inl (.long, 13950, .inr (.inl fun k : Nat => oW (k : Int)))) (hA514 : S.1 514 = .inl (.long, 465, .inr (.inl fun k : Nat => oA (k : Int)))) (hA515 : S.1 515 = .inl (.long, 55800, .inr (.inl fun k : Nat => oH (k : Int)))) (hA516 : S.1 516 = .inl (.long, 7200, .inr (.inl fun k : Nat => tl (k : Int)))) (hA505 : S.1 505 = .inl (.int, 30, .inl fun k : Nat => iI (nW (k : Int)))) (hA506 : S.1 506 = .inl (.int, 30, .inl fun k : Nat => iI (nF (k : Int)))) (hA507 : S.1 507 = .inl (.int, 30, .inl fun k : Nat => iI (nL (k : Int)))) (hA508 : S.1 508 = .inl (.int, 30, .inl fun k : Nat => iI (nP (k : Int)))) (hA509 : S.1 509 = .inl (.int, 30, .inl fun k : Nat => iI (nH (k : Int)))) (hA510 : S.1 510 = .inl (.int, 120, .inl fun k : Nat => iI (nC (k : Int)))) (hA518 : S.1 518 = .inl (.int, 30, .inl fun k : Nat => iI (fF (k : Int)))) (hA519 : S.1 519 = .inl (.int, 30, .inl fun k : Nat => iI (fE (k : Int)))) (hA520 : S.1 520 = .inl (.int, 30, .inl fun k : Nat => iI (fP (k : Int)))) (hA521 : S.1 521 = .inl (.int, 30, .inl fun k : Nat => iI (fH (k : Int)))) (hA522 : S.1 522 = .inl (.int, 30, .inl fun k : Nat => iI (fW (k : Int)))) (hA523 : S.1 523 = .inl (.int, 30, .inl fun k : Nat => iI (fK (k : Int)))) (hA524 : S.1 524 = .inl (.long, 30, .inr (.inl fun k : Nat => fN (k : Int)))) (hA525 : S.1 525 = .inl (.int, 4, .inl fun k : Nat => iI (hF (k : Int)))) (hA526 : S.1 526 = .inl (.int, 4, .inl fun k : Nat => iI (hE (k : Int)))) (hB : B = 4 ∨ B = 250) (hb : C_bk S B rc (gk G) (gw G) rn (gl G) kn (ga G)) (hs : C_ws S B (gD G) (gW G)) (hG : X_Gok G) (htn : 0 ≤ tn ∧ tn ≤ 30) (hA502 : S.1 502 = .inl (.long, 30, .inr (.inl fun k : Nat => (gt G) (k : Int)))) (hcht : X_cht G (-2) tn oK oW oA oH) (hM : X_Mok G tn (wt, St, nc, N)) (hwt : 0 < wt) (hst : F_st G wt St fF fE fP fH fW fK fN) (hnd : F_nd nc N nW nF nL nP nH) (hch : F_ch nc N nC) : X_T sc 43 (0, [(0, .ref 517)], [], S) (fun v S' => ∃ (r1 : Int) (St1 : Int → X_It) (N1 : Int → Int → Int) (nW1 : Int → Int) (nF1 : Int → Int) (nL1 : Int → Int) (nP1 : Int → Int) (nH1 : Int → Int) (nC1 : Int → Int) (fF1 : Int → Int) (fE1 : Int → Int) (fP1 : Int → Int) (fH1 : Int → Int) (fW1 : Int → Int) (fK1 : Int → Int) (fN1 : Int → Int64) (tl1 : Int → Int64) (hF1 : Int → Int) (hE1 : Int → Int), v = none ∧ X_mk G (wt, St, nc, N) = (r1, St1, nc + 1, N1) ∧ X_Mok G tn (r1, St1, nc + 1, N1) ∧ F_st G r1 St1 fF1 fE1 fP1 fH1 fW1 fK1 fN1 ∧ F_nd (nc + 1) N1 nW1 nF1 nL1 nP1 nH1 ∧ F_ch (nc + 1) N1 nC1 ∧ S'.1 517 = .inr (2, [.ref 511, .ref 501, .ref 504, .int (iI r1), .ref 518, .ref 519, .ref 520, .ref 521, .ref 522, .ref 523, .ref 524, .ref 525, .ref 526]) ∧ S'.1 504 = .inr (5, [.int (iI (nc + 1)), .ref 505, .ref 506, .ref 507, .ref 508, .ref 509, .ref 510]) ∧ S'.1 505 = .inl (.int, 30, .inl fun k : Nat => iI (nW1 (k : Int))) ∧ S'.1 506 = .inl (.int, 30, .inl fun k : Nat => iI (nF1 (k : Int))) ∧ S'.1 507 = .inl (.int, 30, .inl fun k : Nat => iI (nL1 (k : Int))) ∧ S'.1 508 = .inl (.int, 30, .inl fun k : Nat => iI (nP1 (k : Int))) ∧ S'.1 509 = .inl (.int, 30, .inl fun k : Nat => iI (nH1 (k : Int))) ∧ S'.1 510 = .inl (.int, 120, .inl fun k : Nat => iI (nC1 (k : Int))) ∧ S'.1 518 = .inl (.int, 30, .inl fun k : Nat => iI (fF1 (k : Int))) ∧ S'.1 519 = .inl (.int, 30, .inl fun k : Nat => iI (fE1 (k : Int))) ∧ S'.1 520 = .inl (.int, 30, .inl fun k : Nat => iI (fP1 (k : Int))) ∧ S'.1 521 = .inl (.int, 30, .inl fun k : Nat => iI (fH1 (k : Int))) ∧ S'.1 522 = .inl (.int, 30, .inl fun k : Nat => iI (fW1 (k : Int))) ∧ S'.1 523 = .inl (.int, 30, .inl fun k : Nat => iI (fK1 (k : Int))) ∧ S'.1 524 = .inl (.long, 30, .inr (.inl fun k : Nat => fN1 (k : Int))) ∧ S'.1 516 = .inl (.long, 7200, .inr (.inl fun k : Nat => tl1 (k : Int))) ∧ S'.1 525 = .inl (.int, 4, .inl fun k : Nat => iI (hF1 (k : Int))) ∧ S'.1 526 = .inl (.int, 4, .inl fun k : Nat => iI (hE1 (k : Int))) ∧ (X_Fr (fun q => (504 ≤ q ∧ q ≤ 510) ∨ (516 ≤ q ∧ q ≤ 526)) S S')) := by
  obtain ⟨hb0, hb1, hb2, hb3, hb4, ⟨f, hb5, hf⟩, ⟨hrc, hrcb⟩, ⟨hkc, hkcb⟩, ⟨hwc, hwcb⟩⟩ := id hb
  obtain ⟨⟨i, j, pa, ho, u, o, en, k⟩, hT⟩ : ∃ t : X_It, St (wt - 1) = t := ⟨_, rfl⟩
  have hle := X_Mok.le hM
  have hI := hM.2.2.1 (wt - 1) (show 0 ≤ wt - 1 by omega) (show wt - 1 < wt by omega)
  rw [show (wt, St, nc, N).2.1 (wt - 1) = (i, j, pa, ho, u, o, en, k) from hT] at hI
  have hM1 : 0 ≤ nc := hM.2.1
  have hM2 : nc + (X_Su (X_lw St) 0 wt : Int) ≤ tn := hM.2.2.2
  obtain ⟨hIij, hIp, hIh, hIph, hIu, hIo, hIe, hIk, hIm⟩ := hI
  have hIij : 0 ≤ i ∧ i < j ∧ j ≤ tn := hIij
  have hIp : -1 ≤ pa ∧ pa < nc ∨ pa = -1 := hIp
  have hIh : -1 ≤ ho ∧ ho ≤ 3 := hIh
  have hIk : k < X_Hc G (X_T_ G) u o en i j := hIk
  have hIm : k ≤ 9223372036854775807 := hIm
  have hF := hst (wt - 1) (by omega) (by omega)
  rw [hT] at hF
  obtain ⟨hFi, hFe, hFp, hFh, hFw, hFk, hFn⟩ := hF
  have hFi : fF (wt - 1) = i := hFi
  have hFe : fE (wt - 1) = j := hFe
  have hFp : fP (wt - 1) = pa := hFp
  have hFh : fH (wt - 1) = ho := hFh
  have hFn : fN (wt - 1) = iL (k : Int) := hFn
  have hpad : -1 ≤ pa ∧ pa < 30 := by omega
  refine X_QI (fun Q hQ => ?_)
  refine T_p xr_43_0 xn_43 (pc' := 1) (ls' := [(0, .ref 517)]) (st' := [.ref 517]) rfl ?_
  refine T_p xr_43_1 xn_43 (pc' := 2) (ls' := [(0, .ref 517)]) (st' := [.ref 517, .ref 517]) rfl ?_
  refine T_get xr_43_2 hO517 rfl (v := .int (iI wt)) rfl (pc' := 5) rfl ?_
  refine T_p xr_43_5 xn_43 (pc' := 6) (ls' := [(0, .ref 517)]) (st' := [.int (iI 1), .int (iI wt), .ref 517]) rfl ?_
  refine T_zisub xr_43_6 (z := wt - 1) rfl (pc' := 7) rfl ?_
  refine T_put xr_43_7 hO517 rfl (Nat.le_of_ble_eq_true rfl) rfl (fs' := [.ref 511, .ref 501, .ref 504, .int (iI (wt - 1)), .ref 518, .ref 519, .ref 520, .ref 521, .ref 522, .ref 523, .ref 524, .ref 525, .ref 526]) rfl (pc' := 10) rfl (fun S1396 h1397 n1398 e1399 => ?_)
  refine T_p xr_43_10 xn_43 (pc' := 11) (ls' := [(0, .ref 517)]) (st' := [.ref 517]) rfl ?_
  refine T_get xr_43_11 h1397 rfl (v := .int (iI (wt - 1))) rfl (pc' := 14) rfl ?_
  refine T_p xr_43_14 xn_43 (pc' := 15) (ls' := [(1, .int (iI (wt - 1))), (0, .ref 517)]) (st' := []) rfl ?_
  refine T_p xr_43_15 xn_43 (pc' := 16) (ls' := [(1, .int (iI (wt - 1))), (0, .ref 517)]) (st' := [.ref 517]) rfl ?_
  refine T_get xr_43_16 h1397 rfl (v := .ref 518) rfl (pc' := 19) rfl ?_
  refine T_p xr_43_19 xn_43 (pc' := 20) (ls' := [(1, .int (iI (wt - 1))), (0, .ref 517)]) (st' := [.int (iI (wt - 1)), .ref 518]) rfl ?_
  have h1400 := (n1398 518 (by decide)).trans (hA518)
  refine T_ziald xr_43_20 h1400 (pc' := 21) rfl ?_
  refine T_ie (y := iI i) (by rw [hFi]) ?_
  refine T_p xr_43_21 xn_43 (pc' := 22) (ls' := [(2, .int (iI i)), (1, .int (iI (wt - 1))), (0, .ref 517)]) (st' := []) rfl ?_
  refine T_p xr_43_22 xn_43 (pc' := 23) (ls' := [(2, .int (iI i)), (1, .int (iI (wt - 1))), (0, .ref 517)]) (st' := [.ref 517]) rfl ?_
  refine T_get xr_43_23 h1397 rfl (v := .ref 519) rfl (pc' := 26) rfl ?_
  refine T_p xr_43_26 xn_43 (pc' := 27) (ls' := [(2, .int (iI i)), (1, .int (iI (wt - 1))), (0, .ref 517)]) (st' := [.int (iI (wt - 1)), .ref 519]) rfl ?_
  have h1401 := (n1398 519 (by decide)).trans (hA519)
  refine T_ziald xr_43_27 h1401 (pc' := 28) rfl ?_
  refine T_ie (y := iI j) (by rw [hFe]) ?_
  refine T_p xr_43_28 xn_43 (pc' := 29) (ls' := [(2, .int (iI i)), (1, .int (iI (wt - 1))), (0, .ref 517)]) (st' := [.int (iI i), .int (iI j)]) rfl ?_
  refine T_zisub xr_43_29 (z := j - i) rfl (pc' := 30) rfl ?_
  refine T_p xr_43_30 xn_43 (pc' := 31) (ls' := [(3, .int (iI (j - i))), (2, .int (iI i)), (1, .int (iI (wt - 1))), (0, .ref 517)]) (st' := []) rfl ?_
  refine T_p xr_43_31 xn_43 (pc' := 32) (ls' := [(3, .int (iI (j - i))), (2, .int (iI i)), (1, .int (iI (wt - 1))), (0, .ref 517)]) (st' := [.ref 517]) rfl ?_
  refine T_p xr_43_32 xn_43 (pc' := 33) (ls' := [(3, .int (iI (j - i))), (2, .int (iI i)), (1, .int (iI (wt - 1))), (0, .ref 517)]) (st' := [.int (iI (wt - 1)), .ref 517]) rfl ?_
  refine T_cv (S := S1396) (q := 517) xr_43_33 xf_44.1 xf_44.2.1 xn_44 (as := [.int (iI (wt - 1))]) (r := []) rfl h1397 (Nat.le_of_ble_eq_true rfl) (Nat.le_of_ble_eq_true rfl) (pc' := 36) rfl (ls' := [(0, .ref 517), (1, .int (iI (wt - 1)))]) rfl ?_
  have h1402 := (n1398 512 (by decide)).trans (hA512)
  have h1403 := (n1398 513 (by decide)).trans (hA513)
  have h1404 := (n1398 514 (by decide)).trans (hA514)
  have h1405 := (n1398 515 (by decide)).trans (hA515)
  have h1406 := (n1398 522 (by decide)).trans (hA522)
  have h1407 := (n1398 523 (by decide)).trans (hA523)
  have h1408 := (n1398 524 (by decide)).trans (hA524)
  have h1409 := (n1398 511 (by decide)).trans (hO511)
  have h1410 := (n1398 B (by omega)).trans (hb0)
  have h1411 := (n1398 (B + 1) (by omega)).trans (hb1)
  have h1412 := (n1398 (B + 2) (by omega)).trans (hb2)
  have h1413 := (n1398 (B + 3) (by omega)).trans (hb3)
  have h1414 := (n1398 (B + 4) (by omega)).trans (hb4)
  have h1415 := (n1398 (B + 5) (by omega)).trans (hb5)
  have hs1416 : C_ws S1396 B (gD G) (gW G) := C_ws.fr (P := fun q => 501 ≤ q ∧ q ≤ 529) hs ((X_Fr.rf).tr (X_Fr.of n1398 e1399 (by omega))) (fun k h1 h2 => by omega)
  refine T_mono (c_chooseWord sc S1396 oK oW oA oH fF fE fW fK fN B rc rn kn G tn fl (wt - 1) (wt - 1) i j u o en k h1409 h1397 h1402 h1403 h1404 h1405 h1400 h1401 h1406 h1407 h1408 hB ⟨h1410, h1411, h1412, h1413, h1414, ⟨f, h1415, hf⟩, ⟨by omega, by omega⟩, ⟨by omega, by omega⟩, ⟨by omega, by omega⟩⟩ hs1416 hG (by omega) (by omega) hFi hFe hFw hFk hFn hIk hIm (hcht i j (by omega) (by omega) (by omega))) (fun v1417 S1418 h1419 => ?_)
  rcases h1419 with ⟨fN1420, hv1421, hp1422, hp1423, ha1424, hf1425⟩ | ⟨v1426, k1427, fN1428, hv1429, hp1430, hp1431, hp1432, hp1433, hp1434, hp1435, hp1436, ha1437, hf1438⟩
  · skip
    rw [hv1421]
    show X_T sc 43 (36, [(3, .int (iI (j - i))), (2, .int (iI i)), (1, .int (iI (wt - 1))), (0, .ref 517)], [.int (iI (-1))], S1418) _
    refine T_p xr_43_36 xn_43 (pc' := 38) (ls' := [(4, .int (iI (-1))), (3, .int (iI (j - i))), (2, .int (iI i)), (1, .int (iI (wt - 1))), (0, .ref 517)]) (st' := []) rfl ?_
    refine T_p xr_43_38 xn_43 (pc' := 40) (ls' := [(4, .int (iI (-1))), (3, .int (iI (j - i))), (2, .int (iI i)), (1, .int (iI (wt - 1))), (0, .ref 517)]) (st' := [.int (iI (-1))]) rfl ?_
    refine T_p xr_43_40 xn_43 (pc' := 41) (ls' := [(4, .int (iI (-1))), (3, .int (iI (j - i))), (2, .int (iI i)), (1, .int (iI (wt - 1))), (0, .ref 517)]) (st' := [.int (iI (-1)), .int (iI (-1))]) rfl ?_
    refine T_zicmp_nef xr_43_41 (t := 58) (pc' := 44) rfl rfl (by decide) ?_
    refine T_p xr_43_44 xn_43 (pc' := 45) (ls' := [(4, .int (iI (-1))), (3, .int (iI (j - i))), (2, .int (iI i)), (1, .int (iI (wt - 1))), (0, .ref 517)]) (st' := [.int (iI (j - i))]) rfl ?_
    refine T_p xr_43_45 xn_43 (pc' := 46) (ls' := [(4, .int (iI (-1))), (3, .int (iI (j - i))), (2, .int (iI i)), (1, .int (iI (wt - 1))), (0, .ref 517)]) (st' := [.int (iI 1), .int (iI (j - i))]) rfl ?_
    refine T_zicmp_ne xr_43_46 (t := 54) (pc' := 49) rfl rfl (fun c1439 => ?_) (fun c1439 => ?_)
    · skip
      have c1439 : ¬ (j - i) = 1 := c1439
      refine T_p xr_43_54 xn_43 (pc' := 56) (ls' := [(4, .int (iI (-1))), (3, .int (iI (j - i))), (2, .int (iI i)), (1, .int (iI (wt - 1))), (0, .ref 517)]) (st' := [.int (iI (-3))]) rfl ?_
      refine T_p xr_43_56 xn_43 (pc' := 58) (ls' := [(4, .int (iI (-3))), (3, .int (iI (j - i))), (2, .int (iI i)), (1, .int (iI (wt - 1))), (0, .ref 517)]) (st' := []) rfl ?_
      refine T_p xr_43_58 xn_43 (pc' := 59) (ls' := [(4, .int (iI (-3))), (3, .int (iI (j - i))), (2, .int (iI i)), (1, .int (iI (wt - 1))), (0, .ref 517)]) (st' := [.ref 517]) rfl ?_
      have h1440 := (hf1425.1 517 (by omega)).trans (h1397)
      refine T_get xr_43_59 h1440 rfl (v := .ref 504) rfl (pc' := 62) rfl ?_
      refine T_p xr_43_62 xn_43 (pc' := 64) (ls' := [(4, .int (iI (-3))), (3, .int (iI (j - i))), (2, .int (iI i)), (1, .int (iI (wt - 1))), (0, .ref 517)]) (st' := [.int (iI (-3)), .ref 504]) rfl ?_
      refine T_p xr_43_64 xn_43 (pc' := 65) (ls' := [(4, .int (iI (-3))), (3, .int (iI (j - i))), (2, .int (iI i)), (1, .int (iI (wt - 1))), (0, .ref 517)]) (st' := [.int (iI i), .int (iI (-3)), .ref 504]) rfl ?_
      refine T_p xr_43_65 xn_43 (pc' := 66) (ls' := [(4, .int (iI (-3))), (3, .int (iI (j - i))), (2, .int (iI i)), (1, .int (iI (wt - 1))), (0, .ref 517)]) (st' := [.int (iI (j - i)), .int (iI i), .int (iI (-3)), .ref 504]) rfl ?_
      refine T_p xr_43_66 xn_43 (pc' := 67) (ls' := [(4, .int (iI (-3))), (3, .int (iI (j - i))), (2, .int (iI i)), (1, .int (iI (wt - 1))), (0, .ref 517)]) (st' := [.ref 517, .int (iI (j - i)), .int (iI i), .int (iI (-3)), .ref 504]) rfl ?_
      refine T_get xr_43_67 h1440 rfl (v := .ref 520) rfl (pc' := 70) rfl ?_
      refine T_p xr_43_70 xn_43 (pc' := 71) (ls' := [(4, .int (iI (-3))), (3, .int (iI (j - i))), (2, .int (iI i)), (1, .int (iI (wt - 1))), (0, .ref 517)]) (st' := [.int (iI (wt - 1)), .ref 520, .int (iI (j - i)), .int (iI i), .int (iI (-3)), .ref 504]) rfl ?_
      have h1441 := (hf1425.1 520 (by omega)).trans ((n1398 520 (by decide)).trans (hA520))
      refine T_ziald xr_43_71 h1441 (pc' := 72) rfl ?_
      refine T_ie (y := iI pa) (by rw [hFp]) ?_
      refine T_p xr_43_72 xn_43 (pc' := 73) (ls' := [(4, .int (iI (-3))), (3, .int (iI (j - i))), (2, .int (iI i)), (1, .int (iI (wt - 1))), (0, .ref 517)]) (st' := [.ref 517, .int (iI pa), .int (iI (j - i)), .int (iI i), .int (iI (-3)), .ref 504]) rfl ?_
      refine T_get xr_43_73 h1440 rfl (v := .ref 521) rfl (pc' := 76) rfl ?_
      refine T_p xr_43_76 xn_43 (pc' := 77) (ls' := [(4, .int (iI (-3))), (3, .int (iI (j - i))), (2, .int (iI i)), (1, .int (iI (wt - 1))), (0, .ref 517)]) (st' := [.int (iI (wt - 1)), .ref 521, .int (iI pa), .int (iI (j - i)), .int (iI i), .int (iI (-3)), .ref 504]) rfl ?_
      have h1442 := (hf1425.1 521 (by omega)).trans ((n1398 521 (by decide)).trans (hA521))
      refine T_ziald xr_43_77 h1442 (pc' := 78) rfl ?_
      refine T_ie (y := iI ho) (by rw [hFh]) ?_
      have h1443 := (hf1425.1 504 (by omega)).trans ((n1398 504 (by decide)).trans (hO504))
      refine T_cv (S := S1418) (q := 504) xr_43_78 xf_84.1 xf_84.2.1 xn_84 (as := [.int (iI (-3)), .int (iI i), .int (iI (j - i)), .int (iI pa), .int (iI ho)]) (r := []) rfl h1443 (Nat.le_of_ble_eq_true rfl) (Nat.le_of_ble_eq_true rfl) (pc' := 81) rfl (ls' := [(0, .ref 504), (1, .int (iI (-3))), (2, .int (iI i)), (3, .int (iI (j - i))), (4, .int (iI pa)), (5, .int (iI ho))]) rfl ?_
      have h1444 := (hf1425.1 505 (by omega)).trans ((n1398 505 (by decide)).trans (hA505))
      have h1445 := (hf1425.1 506 (by omega)).trans ((n1398 506 (by decide)).trans (hA506))
      have h1446 := (hf1425.1 507 (by omega)).trans ((n1398 507 (by decide)).trans (hA507))
      have h1447 := (hf1425.1 508 (by omega)).trans ((n1398 508 (by decide)).trans (hA508))
      have h1448 := (hf1425.1 509 (by omega)).trans ((n1398 509 (by decide)).trans (hA509))
      have h1449 := (hf1425.1 510 (by omega)).trans ((n1398 510 (by decide)).trans (hA510))
      refine T_mono (c_add sc S1418 nW nF nL nP nH nC nc N (-3) i (j - i) pa ho h1443 h1444 h1445 h1446 h1447 h1448 h1449 (by omega) (by omega) hnd hch) (fun v1450 S1451 h1452 => ?_)
      rcases h1452 with ⟨nW1453, nF1454, nL1455, nP1456, nH1457, nC1458, hv1459, hp1460, hp1461, ho1462, ha1463, ha1464, ha1465, ha1466, ha1467, ha1468, hf1469⟩
      rw [hv1459]
      show X_T sc 43 (81, [(4, .int (iI (-3))), (3, .int (iI (j - i))), (2, .int (iI i)), (1, .int (iI (wt - 1))), (0, .ref 517)], [.int (iI nc)], S1451) _
      refine T_p xr_43_81 xn_43 (pc' := 83) (ls' := [(5, .int (iI nc)), (4, .int (iI (-3))), (3, .int (iI (j - i))), (2, .int (iI i)), (1, .int (iI (wt - 1))), (0, .ref 517)]) (st' := []) rfl ?_
      refine T_p xr_43_83 xn_43 (pc' := 85) (ls' := [(5, .int (iI nc)), (4, .int (iI (-3))), (3, .int (iI (j - i))), (2, .int (iI i)), (1, .int (iI (wt - 1))), (0, .ref 517)]) (st' := [.int (iI (-3))]) rfl ?_
      refine T_zif_ltt xr_43_85 (t := 128) rfl (by decide) ?_
      refine T_p xr_43_128 xn_43 (pc' := 130) (ls' := [(5, .int (iI nc)), (4, .int (iI (-3))), (3, .int (iI (j - i))), (2, .int (iI i)), (1, .int (iI (wt - 1))), (0, .ref 517)]) (st' := [.int (iI (-3))]) rfl ?_
      refine T_p xr_43_130 xn_43 (pc' := 132) (ls' := [(5, .int (iI nc)), (4, .int (iI (-3))), (3, .int (iI (j - i))), (2, .int (iI i)), (1, .int (iI (wt - 1))), (0, .ref 517)]) (st' := [.int (iI (-3)), .int (iI (-3))]) rfl ?_
      refine T_zicmp_nef xr_43_132 (t := 186) (pc' := 135) rfl rfl (by decide) ?_
      refine T_p xr_43_135 xn_43 (pc' := 136) (ls' := [(5, .int (iI nc)), (4, .int (iI (-3))), (3, .int (iI (j - i))), (2, .int (iI i)), (1, .int (iI (wt - 1))), (0, .ref 517)]) (st' := [.ref 517]) rfl ?_
      have h1470 := (hf1469.1 517 (by omega)).trans (h1440)
      refine T_get xr_43_136 h1470 rfl (v := .ref 523) rfl (pc' := 139) rfl ?_
      refine T_p xr_43_139 xn_43 (pc' := 140) (ls' := [(5, .int (iI nc)), (4, .int (iI (-3))), (3, .int (iI (j - i))), (2, .int (iI i)), (1, .int (iI (wt - 1))), (0, .ref 517)]) (st' := [.int (iI (wt - 1)), .ref 523]) rfl ?_
      have h1471 := (hf1469.1 523 (by omega)).trans ((hf1425.1 523 (by omega)).trans (h1407))
      refine T_ziald xr_43_140 h1471 (pc' := 141) rfl ?_
      refine T_p xr_43_141 xn_43 (pc' := 143) (ls' := [(6, .int (iI (fK (wt - 1)))), (5, .int (iI nc)), (4, .int (iI (-3))), (3, .int (iI (j - i))), (2, .int (iI i)), (1, .int (iI (wt - 1))), (0, .ref 517)]) (st' := []) rfl ?_
      refine T_p xr_43_143 xn_43 (pc' := 144) (ls' := [(6, .int (iI (fK (wt - 1)))), (5, .int (iI nc)), (4, .int (iI (-3))), (3, .int (iI (j - i))), (2, .int (iI i)), (1, .int (iI (wt - 1))), (0, .ref 517)]) (st' := [.ref 517]) rfl ?_
      refine T_get xr_43_144 h1470 rfl (v := .ref 524) rfl (pc' := 147) rfl ?_
      refine T_p xr_43_147 xn_43 (pc' := 148) (ls' := [(6, .int (iI (fK (wt - 1)))), (5, .int (iI nc)), (4, .int (iI (-3))), (3, .int (iI (j - i))), (2, .int (iI i)), (1, .int (iI (wt - 1))), (0, .ref 517)]) (st' := [.int (iI (wt - 1)), .ref 524]) rfl ?_
      have h1472 := (hf1469.1 524 (by omega)).trans (ha1424)
      refine T_zlald xr_43_148 h1472 (pc' := 149) rfl ?_
      refine T_le (y := (iL (k : Int))) (by rw [hp1423, hFn]) ?_
      refine T_p xr_43_149 xn_43 (pc' := 151) (ls' := [(7, .long (iL (k : Int))), (6, .int (iI (fK (wt - 1)))), (5, .int (iI nc)), (4, .int (iI (-3))), (3, .int (iI (j - i))), (2, .int (iI i)), (1, .int (iI (wt - 1))), (0, .ref 517)]) (st' := []) rfl ?_
      refine T_p xr_43_151 xn_43 (pc' := 152) (ls' := [(7, .long (iL (k : Int))), (6, .int (iI (fK (wt - 1)))), (5, .int (iI nc)), (4, .int (iI (-3))), (3, .int (iI (j - i))), (2, .int (iI i)), (1, .int (iI (wt - 1))), (0, .ref 517)]) (st' := [.ref 517]) rfl ?_
      refine T_p xr_43_152 xn_43 (pc' := 153) (ls' := [(7, .long (iL (k : Int))), (6, .int (iI (fK (wt - 1)))), (5, .int (iI nc)), (4, .int (iI (-3))), (3, .int (iI (j - i))), (2, .int (iI i)), (1, .int (iI (wt - 1))), (0, .ref 517)]) (st' := [.int (iI i), .ref 517]) rfl ?_
      refine T_p xr_43_153 xn_43 (pc' := 154) (ls' := [(7, .long (iL (k : Int))), (6, .int (iI (fK (wt - 1)))), (5, .int (iI nc)), (4, .int (iI (-3))), (3, .int (iI (j - i))), (2, .int (iI i)), (1, .int (iI (wt - 1))), (0, .ref 517)]) (st' := [.int (iI 1), .int (iI i), .ref 517]) rfl ?_
      refine T_ziadd xr_43_154 (z := i + 1) rfl (pc' := 155) rfl ?_
      refine T_p xr_43_155 xn_43 (pc' := 156) (ls' := [(7, .long (iL (k : Int))), (6, .int (iI (fK (wt - 1)))), (5, .int (iI nc)), (4, .int (iI (-3))), (3, .int (iI (j - i))), (2, .int (iI i)), (1, .int (iI (wt - 1))), (0, .ref 517)]) (st' := [.int (iI i), .int (iI (i + 1)), .ref 517]) rfl ?_
      refine T_p xr_43_156 xn_43 (pc' := 157) (ls' := [(7, .long (iL (k : Int))), (6, .int (iI (fK (wt - 1)))), (5, .int (iI nc)), (4, .int (iI (-3))), (3, .int (iI (j - i))), (2, .int (iI i)), (1, .int (iI (wt - 1))), (0, .ref 517)]) (st' := [.int (iI (j - i)), .int (iI i), .int (iI (i + 1)), .ref 517]) rfl ?_
      refine T_ziadd xr_43_157 (z := i + (j - i)) rfl (pc' := 158) rfl ?_
      refine T_p xr_43_158 xn_43 (pc' := 159) (ls' := [(7, .long (iL (k : Int))), (6, .int (iI (fK (wt - 1)))), (5, .int (iI nc)), (4, .int (iI (-3))), (3, .int (iI (j - i))), (2, .int (iI i)), (1, .int (iI (wt - 1))), (0, .ref 517)]) (st' := [.int (iI 1), .int (iI (i + (j - i))), .int (iI (i + 1)), .ref 517]) rfl ?_
      refine T_zisub xr_43_159 (z := (i + (j - i)) - 1) rfl (pc' := 160) rfl ?_
      refine T_ie (y := iI (j - 1)) (by congr 1; omega) ?_
      refine T_p xr_43_160 xn_43 (pc' := 162) (ls' := [(7, .long (iL (k : Int))), (6, .int (iI (fK (wt - 1)))), (5, .int (iI nc)), (4, .int (iI (-3))), (3, .int (iI (j - i))), (2, .int (iI i)), (1, .int (iI (wt - 1))), (0, .ref 517)]) (st' := [.int (iI nc), .int (iI (j - 1)), .int (iI (i + 1)), .ref 517]) rfl ?_
      refine T_p xr_43_162 xn_43 (pc' := 163) (ls' := [(7, .long (iL (k : Int))), (6, .int (iI (fK (wt - 1)))), (5, .int (iI nc)), (4, .int (iI (-3))), (3, .int (iI (j - i))), (2, .int (iI i)), (1, .int (iI (wt - 1))), (0, .ref 517)]) (st' := [.int (iI 0), .int (iI nc), .int (iI (j - 1)), .int (iI (i + 1)), .ref 517]) rfl ?_
      refine T_cv (S := S1451) (q := 517) xr_43_163 xf_41.1 xf_41.2.1 xn_41 (as := [.int (iI (i + 1)), .int (iI (j - 1)), .int (iI nc), .int (iI 0)]) (r := []) rfl h1470 (Nat.le_of_ble_eq_true rfl) (Nat.le_of_ble_eq_true rfl) (pc' := 166) rfl (ls' := [(0, .ref 517), (1, .int (iI (i + 1))), (2, .int (iI (j - 1))), (3, .int (iI nc)), (4, .int (iI 0))]) rfl ?_
      refine T_p xr_41_0 xn_41 (pc' := 1) (ls' := [(0, .ref 517), (1, .int (iI (i + 1))), (2, .int (iI (j - 1))), (3, .int (iI nc)), (4, .int (iI 0))]) (st' := [.ref 517]) rfl ?_
      refine T_get xr_41_1 h1470 rfl (v := .int (iI (wt - 1))) rfl (pc' := 4) rfl ?_
      refine T_p xr_41_4 xn_41 (pc' := 6) (ls' := [(0, .ref 517), (1, .int (iI (i + 1))), (2, .int (iI (j - 1))), (3, .int (iI nc)), (4, .int (iI 0))]) (st' := [.int (iI 30), .int (iI (wt - 1))]) rfl ?_
      refine T_zicmp_ge xr_41_6 (t := 60) (pc' := 9) rfl rfl (fun c1473 => ?_) (fun c1473 => ?_)
      · skip
        have c1473 : 30 ≤ (wt - 1) := c1473
        exact (show False by omega).elim
      · skip
        have c1473 : ¬ (30 ≤ (wt - 1)) := c1473
        refine T_p xr_41_9 xn_41 (pc' := 10) (ls' := [(0, .ref 517), (1, .int (iI (i + 1))), (2, .int (iI (j - 1))), (3, .int (iI nc)), (4, .int (iI 0))]) (st' := [.ref 517]) rfl ?_
        refine T_get xr_41_10 h1470 rfl (v := .ref 518) rfl (pc' := 13) rfl ?_
        refine T_p xr_41_13 xn_41 (pc' := 14) (ls' := [(0, .ref 517), (1, .int (iI (i + 1))), (2, .int (iI (j - 1))), (3, .int (iI nc)), (4, .int (iI 0))]) (st' := [.ref 517, .ref 518]) rfl ?_
        refine T_get xr_41_14 h1470 rfl (v := .int (iI (wt - 1))) rfl (pc' := 17) rfl ?_
        refine T_p xr_41_17 xn_41 (pc' := 18) (ls' := [(0, .ref 517), (1, .int (iI (i + 1))), (2, .int (iI (j - 1))), (3, .int (iI nc)), (4, .int (iI 0))]) (st' := [.int (iI (i + 1)), .int (iI (wt - 1)), .ref 518]) rfl ?_
        have h1474 := (hf1469.1 518 (by omega)).trans ((hf1425.1 518 (by omega)).trans (h1400))
        refine T_ziast xr_41_18 h1474 (pc' := 19) rfl (fun S1475 h1476 n1477 e1478 => ?_)
        refine T_p xr_41_19 xn_41 (pc' := 20) (ls' := [(0, .ref 517), (1, .int (iI (i + 1))), (2, .int (iI (j - 1))), (3, .int (iI nc)), (4, .int (iI 0))]) (st' := [.ref 517]) rfl ?_
        have h1479 := (n1477 517 (by decide)).trans (h1470)
        refine T_get xr_41_20 h1479 rfl (v := .ref 519) rfl (pc' := 23) rfl ?_
        refine T_p xr_41_23 xn_41 (pc' := 24) (ls' := [(0, .ref 517), (1, .int (iI (i + 1))), (2, .int (iI (j - 1))), (3, .int (iI nc)), (4, .int (iI 0))]) (st' := [.ref 517, .ref 519]) rfl ?_
        refine T_get xr_41_24 h1479 rfl (v := .int (iI (wt - 1))) rfl (pc' := 27) rfl ?_
        refine T_p xr_41_27 xn_41 (pc' := 28) (ls' := [(0, .ref 517), (1, .int (iI (i + 1))), (2, .int (iI (j - 1))), (3, .int (iI nc)), (4, .int (iI 0))]) (st' := [.int (iI (j - 1)), .int (iI (wt - 1)), .ref 519]) rfl ?_
        have h1480 := (n1477 519 (by decide)).trans ((hf1469.1 519 (by omega)).trans ((hf1425.1 519 (by omega)).trans (h1401)))
        refine T_ziast xr_41_28 h1480 (pc' := 29) rfl (fun S1481 h1482 n1483 e1484 => ?_)
        refine T_p xr_41_29 xn_41 (pc' := 30) (ls' := [(0, .ref 517), (1, .int (iI (i + 1))), (2, .int (iI (j - 1))), (3, .int (iI nc)), (4, .int (iI 0))]) (st' := [.ref 517]) rfl ?_
        have h1485 := (n1483 517 (by decide)).trans (h1479)
        refine T_get xr_41_30 h1485 rfl (v := .ref 520) rfl (pc' := 33) rfl ?_
        refine T_p xr_41_33 xn_41 (pc' := 34) (ls' := [(0, .ref 517), (1, .int (iI (i + 1))), (2, .int (iI (j - 1))), (3, .int (iI nc)), (4, .int (iI 0))]) (st' := [.ref 517, .ref 520]) rfl ?_
        refine T_get xr_41_34 h1485 rfl (v := .int (iI (wt - 1))) rfl (pc' := 37) rfl ?_
        refine T_p xr_41_37 xn_41 (pc' := 38) (ls' := [(0, .ref 517), (1, .int (iI (i + 1))), (2, .int (iI (j - 1))), (3, .int (iI nc)), (4, .int (iI 0))]) (st' := [.int (iI nc), .int (iI (wt - 1)), .ref 520]) rfl ?_
        have h1486 := (n1483 520 (by decide)).trans ((n1477 520 (by decide)).trans ((hf1469.1 520 (by omega)).trans (h1441)))
        refine T_ziast xr_41_38 h1486 (pc' := 39) rfl (fun S1487 h1488 n1489 e1490 => ?_)
        refine T_p xr_41_39 xn_41 (pc' := 40) (ls' := [(0, .ref 517), (1, .int (iI (i + 1))), (2, .int (iI (j - 1))), (3, .int (iI nc)), (4, .int (iI 0))]) (st' := [.ref 517]) rfl ?_
        have h1491 := (n1489 517 (by decide)).trans (h1485)
        refine T_get xr_41_40 h1491 rfl (v := .ref 521) rfl (pc' := 43) rfl ?_
        refine T_p xr_41_43 xn_41 (pc' := 44) (ls' := [(0, .ref 517), (1, .int (iI (i + 1))), (2, .int (iI (j - 1))), (3, .int (iI nc)), (4, .int (iI 0))]) (st' := [.ref 517, .ref 521]) rfl ?_
        refine T_get xr_41_44 h1491 rfl (v := .int (iI (wt - 1))) rfl (pc' := 47) rfl ?_
        refine T_p xr_41_47 xn_41 (pc' := 49) (ls' := [(0, .ref 517), (1, .int (iI (i + 1))), (2, .int (iI (j - 1))), (3, .int (iI nc)), (4, .int (iI 0))]) (st' := [.int (iI 0), .int (iI (wt - 1)), .ref 521]) rfl ?_
        have h1492 := (n1489 521 (by decide)).trans ((n1483 521 (by decide)).trans ((n1477 521 (by decide)).trans ((hf1469.1 521 (by omega)).trans (h1442))))
        refine T_ziast xr_41_49 h1492 (pc' := 50) rfl (fun S1493 h1494 n1495 e1496 => ?_)
        refine T_p xr_41_50 xn_41 (pc' := 51) (ls' := [(0, .ref 517), (1, .int (iI (i + 1))), (2, .int (iI (j - 1))), (3, .int (iI nc)), (4, .int (iI 0))]) (st' := [.ref 517]) rfl ?_
        refine T_p xr_41_51 xn_41 (pc' := 52) (ls' := [(0, .ref 517), (1, .int (iI (i + 1))), (2, .int (iI (j - 1))), (3, .int (iI nc)), (4, .int (iI 0))]) (st' := [.ref 517, .ref 517]) rfl ?_
        have h1497 := (n1495 517 (by decide)).trans (h1491)
        refine T_get xr_41_52 h1497 rfl (v := .int (iI (wt - 1))) rfl (pc' := 55) rfl ?_
        refine T_p xr_41_55 xn_41 (pc' := 56) (ls' := [(0, .ref 517), (1, .int (iI (i + 1))), (2, .int (iI (j - 1))), (3, .int (iI nc)), (4, .int (iI 0))]) (st' := [.int (iI 1), .int (iI (wt - 1)), .ref 517]) rfl ?_
        refine T_ziadd xr_41_56 (z := wt) (by omega) (pc' := 57) rfl ?_
        refine T_put xr_41_57 h1497 rfl (Nat.le_of_ble_eq_true rfl) rfl (fs' := [.ref 511, .ref 501, .ref 504, .int (iI wt), .ref 518, .ref 519, .ref 520, .ref 521, .ref 522, .ref 523, .ref 524, .ref 525, .ref 526]) rfl (pc' := 60) rfl (fun S1498 h1499 n1500 e1501 => ?_)
        refine T_vret xr_41_60 xf_41.2.2 ?_
        show X_T sc 43 (166, [(7, .long (iL (k : Int))), (6, .int (iI (fK (wt - 1)))), (5, .int (iI nc)), (4, .int (iI (-3))), (3, .int (iI (j - i))), (2, .int (iI i)), (1, .int (iI (wt - 1))), (0, .ref 517)], [], S1498) _
        refine T_p xr_43_166 xn_43 (pc' := 167) (ls' := [(7, .long (iL (k : Int))), (6, .int (iI (fK (wt - 1)))), (5, .int (iI nc)), (4, .int (iI (-3))), (3, .int (iI (j - i))), (2, .int (iI i)), (1, .int (iI (wt - 1))), (0, .ref 517)]) (st' := [.ref 517]) rfl ?_
        refine T_p xr_43_167 xn_43 (pc' := 168) (ls' := [(7, .long (iL (k : Int))), (6, .int (iI (fK (wt - 1)))), (5, .int (iI nc)), (4, .int (iI (-3))), (3, .int (iI (j - i))), (2, .int (iI i)), (1, .int (iI (wt - 1))), (0, .ref 517)]) (st' := [.ref 517, .ref 517]) rfl ?_
        refine T_get xr_43_168 h1499 rfl (v := .ref 511) rfl (pc' := 171) rfl ?_
        have h1502 := (n1500 511 (by decide)).trans ((n1495 511 (by decide)).trans ((n1489 511 (by decide)).trans ((n1483 511 (by decide)).trans ((n1477 511 (by decide)).trans ((hf1469.1 511 (by omega)).trans ((hf1425.1 511 (by omega)).trans (h1409)))))))
        refine T_get xr_43_171 h1502 rfl (v := .ref B) rfl (pc' := 174) rfl ?_
        refine T_p xr_43_174 xn_43 (pc' := 176) (ls' := [(7, .long (iL (k : Int))), (6, .int (iI (fK (wt - 1)))), (5, .int (iI nc)), (4, .int (iI (-3))), (3, .int (iI (j - i))), (2, .int (iI i)), (1, .int (iI (wt - 1))), (0, .ref 517)]) (st' := [.int (iI (fK (wt - 1))), .ref B, .ref 517]) rfl ?_
        have h1503 := (n1500 B (by omega)).trans ((n1495 B (by omega)).trans ((n1489 B (by omega)).trans ((n1483 B (by omega)).trans ((n1477 B (by omega)).trans ((hf1469.1 B (by omega)).trans ((hf1425.1 B (by omega)).trans (h1410)))))))
        refine T_cv (S := S1498) (q := B) xr_43_176 xf_15.1 xf_15.2.1 xn_15 (as := [.int (iI (fK (wt - 1)))]) (r := [.ref 517]) rfl h1503 (Nat.le_of_ble_eq_true rfl) (Nat.le_of_ble_eq_true rfl) (pc' := 179) rfl (ls' := [(0, .ref B), (1, .int (iI (fK (wt - 1))))]) rfl ?_
        have hs1511 : C_ws S1498 B (gD G) (gW G) := C_ws.fr (P := fun q => 501 ≤ q ∧ q ≤ 529) hs1416 ((((((((X_Fr.rf).tr (X_Fr.mono ⟨hf1425.1, hf1425.2⟩ (fun q hq => (by omega)))).tr (X_Fr.mono ⟨hf1469.1, hf1469.2⟩ (fun q hq => (by omega)))).tr (X_Fr.of n1477 e1478 (by omega))).tr (X_Fr.of n1483 e1484 (by omega))).tr (X_Fr.of n1489 e1490 (by omega))).tr (X_Fr.of n1495 e1496 (by omega))).tr (X_Fr.of n1500 e1501 (by omega))) (fun k h1 h2 => by omega)
        have h1512 := (n1500 (B + 1) (by omega)).trans ((n1495 (B + 1) (by omega)).trans ((n1489 (B + 1) (by omega)).trans ((n1483 (B + 1) (by omega)).trans ((n1477 (B + 1) (by omega)).trans ((hf1469.1 (B + 1) (by omega)).trans ((hf1425.1 (B + 1) (by omega)).trans (h1411)))))))
        have h1513 := (n1500 (B + 2) (by omega)).trans ((n1495 (B + 2) (by omega)).trans ((n1489 (B + 2) (by omega)).trans ((n1483 (B + 2) (by omega)).trans ((n1477 (B + 2) (by omega)).trans ((hf1469.1 (B + 2) (by omega)).trans ((hf1425.1 (B + 2) (by omega)).trans (h1412)))))))
        have h1514 := (n1500 (B + 3) (by omega)).trans ((n1495 (B + 3) (by omega)).trans ((n1489 (B + 3) (by omega)).trans ((n1483 (B + 3) (by omega)).trans ((n1477 (B + 3) (by omega)).trans ((hf1469.1 (B + 3) (by omega)).trans ((hf1425.1 (B + 3) (by omega)).trans (h1413)))))))
        have h1515 := (n1500 (B + 4) (by omega)).trans ((n1495 (B + 4) (by omega)).trans ((n1489 (B + 4) (by omega)).trans ((n1483 (B + 4) (by omega)).trans ((n1477 (B + 4) (by omega)).trans ((hf1469.1 (B + 4) (by omega)).trans ((hf1425.1 (B + 4) (by omega)).trans (h1414)))))))
        have h1516 := (n1500 (B + 5) (by omega)).trans ((n1495 (B + 5) (by omega)).trans ((n1489 (B + 5) (by omega)).trans ((n1483 (B + 5) (by omega)).trans ((n1477 (B + 5) (by omega)).trans ((hf1469.1 (B + 5) (by omega)).trans ((hf1425.1 (B + 5) (by omega)).trans (h1415)))))))
        refine T_mono (c_wordsOfKinds sc S1498 B rc (gk G) (gw G) rn (gl G) kn (ga G) (gD G) (gW G) (fK (wt - 1)) ⟨h1503, h1512, h1513, h1514, h1515, ⟨f, h1516, hf⟩, ⟨by omega, by omega⟩, ⟨by omega, by omega⟩, ⟨by omega, by omega⟩⟩ hs1511) (fun v1504 S1505 h1506 => ?_)
        obtain ⟨r1507, h1508, hx1509, h1510⟩ := h1506
        rw [h1508, h1510]
        show X_T sc 43 (179, [(7, .long (iL (k : Int))), (6, .int (iI (fK (wt - 1)))), (5, .int (iI nc)), (4, .int (iI (-3))), (3, .int (iI (j - i))), (2, .int (iI i)), (1, .int (iI (wt - 1))), (0, .ref 517)], [.int (iI r1507), .ref 517], S1498) _
        refine T_p xr_43_179 xn_43 (pc' := 181) (ls' := [(7, .long (iL (k : Int))), (6, .int (iI (fK (wt - 1)))), (5, .int (iI nc)), (4, .int (iI (-3))), (3, .int (iI (j - i))), (2, .int (iI i)), (1, .int (iI (wt - 1))), (0, .ref 517)]) (st' := [.int (iI (fK (wt - 1))), .int (iI r1507), .ref 517]) rfl ?_
        refine T_p xr_43_181 xn_43 (pc' := 183) (ls' := [(7, .long (iL (k : Int))), (6, .int (iI (fK (wt - 1)))), (5, .int (iI nc)), (4, .int (iI (-3))), (3, .int (iI (j - i))), (2, .int (iI i)), (1, .int (iI (wt - 1))), (0, .ref 517)]) (st' := [.long (iL (k : Int)), .int (iI (fK (wt - 1))), .int (iI r1507), .ref 517]) rfl ?_
        refine T_cv (S := S1498) (q := 517) xr_43_183 xf_42.1 xf_42.2.1 xn_42 (as := [.int (iI r1507), .int (iI (fK (wt - 1))), .long (iL (k : Int))]) (r := []) rfl h1499 (Nat.le_of_ble_eq_true rfl) (Nat.le_of_ble_eq_true rfl) (pc' := 186) rfl (ls' := [(0, .ref 517), (1, .int (iI r1507)), (2, .int (iI (fK (wt - 1)))), (3, .long (iL (k : Int)))]) rfl ?_
        refine T_p xr_42_0 xn_42 (pc' := 1) (ls' := [(0, .ref 517), (1, .int (iI r1507)), (2, .int (iI (fK (wt - 1)))), (3, .long (iL (k : Int)))]) (st' := [.ref 517]) rfl ?_
        refine T_get xr_42_1 h1499 rfl (v := .int (iI wt)) rfl (pc' := 4) rfl ?_
        refine T_zif_le xr_42_4 (t := 43) (pc' := 7) rfl rfl (fun c1517 => ?_) (fun c1517 => ?_)
        · skip
          have c1517 : wt ≤ 0 := c1517
          exact (show False by omega).elim
        · skip
          have c1517 : ¬ (wt ≤ 0) := c1517
          refine T_p xr_42_7 xn_42 (pc' := 8) (ls' := [(0, .ref 517), (1, .int (iI r1507)), (2, .int (iI (fK (wt - 1)))), (3, .long (iL (k : Int)))]) (st' := [.ref 517]) rfl ?_
          refine T_get xr_42_8 h1499 rfl (v := .ref 522) rfl (pc' := 11) rfl ?_
          refine T_p xr_42_11 xn_42 (pc' := 12) (ls' := [(0, .ref 517), (1, .int (iI r1507)), (2, .int (iI (fK (wt - 1)))), (3, .long (iL (k : Int)))]) (st' := [.ref 517, .ref 522]) rfl ?_
          refine T_get xr_42_12 h1499 rfl (v := .int (iI wt)) rfl (pc' := 15) rfl ?_
          refine T_p xr_42_15 xn_42 (pc' := 16) (ls' := [(0, .ref 517), (1, .int (iI r1507)), (2, .int (iI (fK (wt - 1)))), (3, .long (iL (k : Int)))]) (st' := [.int (iI 1), .int (iI wt), .ref 522]) rfl ?_
          refine T_zisub xr_42_16 (z := wt - 1) rfl (pc' := 17) rfl ?_
          refine T_p xr_42_17 xn_42 (pc' := 18) (ls' := [(0, .ref 517), (1, .int (iI r1507)), (2, .int (iI (fK (wt - 1)))), (3, .long (iL (k : Int)))]) (st' := [.int (iI r1507), .int (iI (wt - 1)), .ref 522]) rfl ?_
          have h1518 := (n1500 522 (by decide)).trans ((n1495 522 (by decide)).trans ((n1489 522 (by decide)).trans ((n1483 522 (by decide)).trans ((n1477 522 (by decide)).trans ((hf1469.1 522 (by omega)).trans ((hf1425.1 522 (by omega)).trans (h1406)))))))
          refine T_ziast xr_42_18 h1518 (pc' := 19) rfl (fun S1519 h1520 n1521 e1522 => ?_)
          refine T_p xr_42_19 xn_42 (pc' := 20) (ls' := [(0, .ref 517), (1, .int (iI r1507)), (2, .int (iI (fK (wt - 1)))), (3, .long (iL (k : Int)))]) (st' := [.ref 517]) rfl ?_
          have h1523 := (n1521 517 (by decide)).trans (h1499)
          refine T_get xr_42_20 h1523 rfl (v := .ref 523) rfl (pc' := 23) rfl ?_
          refine T_p xr_42_23 xn_42 (pc' := 24) (ls' := [(0, .ref 517), (1, .int (iI r1507)), (2, .int (iI (fK (wt - 1)))), (3, .long (iL (k : Int)))]) (st' := [.ref 517, .ref 523]) rfl ?_
          refine T_get xr_42_24 h1523 rfl (v := .int (iI wt)) rfl (pc' := 27) rfl ?_
          refine T_p xr_42_27 xn_42 (pc' := 28) (ls' := [(0, .ref 517), (1, .int (iI r1507)), (2, .int (iI (fK (wt - 1)))), (3, .long (iL (k : Int)))]) (st' := [.int (iI 1), .int (iI wt), .ref 523]) rfl ?_
          refine T_zisub xr_42_28 (z := wt - 1) rfl (pc' := 29) rfl ?_
          refine T_p xr_42_29 xn_42 (pc' := 30) (ls' := [(0, .ref 517), (1, .int (iI r1507)), (2, .int (iI (fK (wt - 1)))), (3, .long (iL (k : Int)))]) (st' := [.int (iI (fK (wt - 1))), .int (iI (wt - 1)), .ref 523]) rfl ?_
          have h1524 := (n1521 523 (by decide)).trans ((n1500 523 (by decide)).trans ((n1495 523 (by decide)).trans ((n1489 523 (by decide)).trans ((n1483 523 (by decide)).trans ((n1477 523 (by decide)).trans (h1471))))))
          refine T_ziast xr_42_30 h1524 (pc' := 31) rfl (fun S1525 h1526 n1527 e1528 => ?_)
          refine T_p xr_42_31 xn_42 (pc' := 32) (ls' := [(0, .ref 517), (1, .int (iI r1507)), (2, .int (iI (fK (wt - 1)))), (3, .long (iL (k : Int)))]) (st' := [.ref 517]) rfl ?_
          have h1529 := (n1527 517 (by decide)).trans (h1523)
          refine T_get xr_42_32 h1529 rfl (v := .ref 524) rfl (pc' := 35) rfl ?_
          refine T_p xr_42_35 xn_42 (pc' := 36) (ls' := [(0, .ref 517), (1, .int (iI r1507)), (2, .int (iI (fK (wt - 1)))), (3, .long (iL (k : Int)))]) (st' := [.ref 517, .ref 524]) rfl ?_
          refine T_get xr_42_36 h1529 rfl (v := .int (iI wt)) rfl (pc' := 39) rfl ?_
          refine T_p xr_42_39 xn_42 (pc' := 40) (ls' := [(0, .ref 517), (1, .int (iI r1507)), (2, .int (iI (fK (wt - 1)))), (3, .long (iL (k : Int)))]) (st' := [.int (iI 1), .int (iI wt), .ref 524]) rfl ?_
          refine T_zisub xr_42_40 (z := wt - 1) rfl (pc' := 41) rfl ?_
          refine T_p xr_42_41 xn_42 (pc' := 42) (ls' := [(0, .ref 517), (1, .int (iI r1507)), (2, .int (iI (fK (wt - 1)))), (3, .long (iL (k : Int)))]) (st' := [.long (iL (k : Int)), .int (iI (wt - 1)), .ref 524]) rfl ?_
          have h1530 := (n1527 524 (by decide)).trans ((n1521 524 (by decide)).trans ((n1500 524 (by decide)).trans ((n1495 524 (by decide)).trans ((n1489 524 (by decide)).trans ((n1483 524 (by decide)).trans ((n1477 524 (by decide)).trans (h1472)))))))
          refine T_zlast xr_42_42 h1530 (pc' := 43) rfl (fun S1531 h1532 n1533 e1534 => ?_)
          refine T_vret xr_42_43 xf_42.2.2 ?_
          show X_T sc 43 (186, [(7, .long (iL (k : Int))), (6, .int (iI (fK (wt - 1)))), (5, .int (iI nc)), (4, .int (iI (-3))), (3, .int (iI (j - i))), (2, .int (iI i)), (1, .int (iI (wt - 1))), (0, .ref 517)], [], S1531) _
          refine T_vret xr_43_186 xf_43.2.2 ?_
          refine hQ _ _ ?_
          have h1535 := (n1533 505 (by decide)).trans ((n1527 505 (by decide)).trans ((n1521 505 (by decide)).trans ((n1500 505 (by decide)).trans ((n1495 505 (by decide)).trans ((n1489 505 (by decide)).trans ((n1483 505 (by decide)).trans ((n1477 505 (by decide)).trans (ha1463))))))))
          have h1536 := (n1533 506 (by decide)).trans ((n1527 506 (by decide)).trans ((n1521 506 (by decide)).trans ((n1500 506 (by decide)).trans ((n1495 506 (by decide)).trans ((n1489 506 (by decide)).trans ((n1483 506 (by decide)).trans ((n1477 506 (by decide)).trans (ha1464))))))))
          have h1537 := (n1533 507 (by decide)).trans ((n1527 507 (by decide)).trans ((n1521 507 (by decide)).trans ((n1500 507 (by decide)).trans ((n1495 507 (by decide)).trans ((n1489 507 (by decide)).trans ((n1483 507 (by decide)).trans ((n1477 507 (by decide)).trans (ha1465))))))))
          have h1538 := (n1533 508 (by decide)).trans ((n1527 508 (by decide)).trans ((n1521 508 (by decide)).trans ((n1500 508 (by decide)).trans ((n1495 508 (by decide)).trans ((n1489 508 (by decide)).trans ((n1483 508 (by decide)).trans ((n1477 508 (by decide)).trans (ha1466))))))))
          have h1539 := (n1533 509 (by decide)).trans ((n1527 509 (by decide)).trans ((n1521 509 (by decide)).trans ((n1500 509 (by decide)).trans ((n1495 509 (by decide)).trans ((n1489 509 (by decide)).trans ((n1483 509 (by decide)).trans ((n1477 509 (by decide)).trans (ha1467))))))))
          have h1540 := (n1533 510 (by decide)).trans ((n1527 510 (by decide)).trans ((n1521 510 (by decide)).trans ((n1500 510 (by decide)).trans ((n1495 510 (by decide)).trans ((n1489 510 (by decide)).trans ((n1483 510 (by decide)).trans ((n1477 510 (by decide)).trans (ha1468))))))))
          have h1541 := (n1533 518 (by decide)).trans ((n1527 518 (by decide)).trans ((n1521 518 (by decide)).trans ((n1500 518 (by decide)).trans ((n1495 518 (by decide)).trans ((n1489 518 (by decide)).trans ((n1483 518 (by decide)).trans (h1476)))))))
          have h1542 := (n1533 519 (by decide)).trans ((n1527 519 (by decide)).trans ((n1521 519 (by decide)).trans ((n1500 519 (by decide)).trans ((n1495 519 (by decide)).trans ((n1489 519 (by decide)).trans (h1482))))))
          have h1543 := (n1533 520 (by decide)).trans ((n1527 520 (by decide)).trans ((n1521 520 (by decide)).trans ((n1500 520 (by decide)).trans ((n1495 520 (by decide)).trans (h1488)))))
          have h1544 := (n1533 521 (by decide)).trans ((n1527 521 (by decide)).trans ((n1521 521 (by decide)).trans ((n1500 521 (by decide)).trans (h1494))))
          have h1545 := (n1533 522 (by decide)).trans ((n1527 522 (by decide)).trans (h1520))
          have h1546 := (n1533 523 (by decide)).trans (h1526)
          have h1547 := (n1533 516 (by decide)).trans ((n1527 516 (by decide)).trans ((n1521 516 (by decide)).trans ((n1500 516 (by decide)).trans ((n1495 516 (by decide)).trans ((n1489 516 (by decide)).trans ((n1483 516 (by decide)).trans ((n1477 516 (by decide)).trans ((hf1469.1 516 (by omega)).trans ((hf1425.1 516 (by omega)).trans ((n1398 516 (by decide)).trans (hA516)))))))))))
          have h1548 := (n1533 525 (by decide)).trans ((n1527 525 (by decide)).trans ((n1521 525 (by decide)).trans ((n1500 525 (by decide)).trans ((n1495 525 (by decide)).trans ((n1489 525 (by decide)).trans ((n1483 525 (by decide)).trans ((n1477 525 (by decide)).trans ((hf1469.1 525 (by omega)).trans ((hf1425.1 525 (by omega)).trans ((n1398 525 (by decide)).trans (hA525)))))))))))
          have h1549 := (n1533 526 (by decide)).trans ((n1527 526 (by decide)).trans ((n1521 526 (by decide)).trans ((n1500 526 (by decide)).trans ((n1495 526 (by decide)).trans ((n1489 526 (by decide)).trans ((n1483 526 (by decide)).trans ((n1477 526 (by decide)).trans ((hf1469.1 526 (by omega)).trans ((hf1425.1 526 (by omega)).trans ((n1398 526 (by decide)).trans (hA526)))))))))))
          have hMb := X_Mok_b (N' := X_nn N nc (-3) i (j - i) pa ho) hG htn.2 hM hwt hT hp1422 (show ¬ j = i + 1 by omega)
          have h1550 := (n1533 517 (by decide)).trans (h1529)
          have h1551 := (n1533 504 (by decide)).trans ((n1527 504 (by decide)).trans ((n1521 504 (by decide)).trans ((n1500 504 (by decide)).trans ((n1495 504 (by decide)).trans ((n1489 504 (by decide)).trans ((n1483 504 (by decide)).trans ((n1477 504 (by decide)).trans (ho1462))))))))
          exact ⟨wt, X_ug St (wt - 1) (i + 1, j - 1, nc, 0, u, 0, 0, k), X_nn N nc (-3) i (j - i) pa ho, nW1453, nF1454, nL1455, nP1456, nH1457, nC1458, (X_ug fF (wt - 1) (i + 1)), (X_ug fE (wt - 1) (j - 1)), (X_ug fP (wt - 1) nc), (X_ug fH (wt - 1) 0), (X_ug fW (wt - 1) r1507), (X_ug fK (wt - 1) (fK (wt - 1))), (X_ug fN1420 (wt - 1) (iL (k : Int))), tl, hF, hE, rfl, (X_mk_b hT hp1422 (by omega)), hMb.2, (by
                have hz := F_st.push (t := (i + 1, j - 1, nc, 0, u, 0, 0, k)) (F_st.pop hst (fun q hq => hp1423 q)) rfl rfl rfl rfl ⟨rfl, rfl, rfl, rfl, fun v h1 h2 => by rw [hx1509 v h1 (by omega)]; exact ⟨fun z => ⟨(hFk _ (hG.kd v h1 h2).1 (hG.kd v h1 h2).2).mp z.2, Or.inl rfl⟩, fun z => ⟨h2, (hFk _ (hG.kd v h1 h2).1 (hG.kd v h1 h2).2).mpr z.1⟩⟩, hFk, rfl⟩ rfl rfl rfl
                rw [show wt - 1 + 1 = wt by omega] at hz
                exact hz), hp1460, hp1461, h1550, h1551, h1535, h1536, h1537, h1538, h1539, h1540, h1541, h1542, h1543, h1544, h1545, h1546, h1532, h1547, h1548, h1549, (((((((((((X_Fr.rf).tr (X_Fr.of n1398 e1399 (by omega))).tr (X_Fr.mono ⟨hf1425.1, hf1425.2⟩ (fun q hq => (by omega)))).tr (X_Fr.mono ⟨hf1469.1, hf1469.2⟩ (fun q hq => (by omega)))).tr (X_Fr.of n1477 e1478 (by omega))).tr (X_Fr.of n1483 e1484 (by omega))).tr (X_Fr.of n1489 e1490 (by omega))).tr (X_Fr.of n1495 e1496 (by omega))).tr (X_Fr.of n1500 e1501 (by omega))).tr (X_Fr.of n1521 e1522 (by omega))).tr (X_Fr.of n1527 e1528 (by omega))).tr (X_Fr.of n1533 e1534 (by omega))⟩
    · skip
      have c1439 : ¬ (¬ (j - i) = 1) := c1439
      refine T_p xr_43_49 xn_43 (pc' := 51) (ls' := [(4, .int (iI (-1))), (3, .int (iI (j - i))), (2, .int (iI i)), (1, .int (iI (wt - 1))), (0, .ref 517)]) (st' := [.int (iI (-2))]) rfl ?_
      refine T_p xr_43_51 xn_43 (pc' := 56) (ls' := [(4, .int (iI (-1))), (3, .int (iI (j - i))), (2, .int (iI i)), (1, .int (iI (wt - 1))), (0, .ref 517)]) (st' := [.int (iI (-2))]) rfl ?_
      refine T_p xr_43_56 xn_43 (pc' := 58) (ls' := [(4, .int (iI (-2))), (3, .int (iI (j - i))), (2, .int (iI i)), (1, .int (iI (wt - 1))), (0, .ref 517)]) (st' := []) rfl ?_
      refine T_p xr_43_58 xn_43 (pc' := 59) (ls' := [(4, .int (iI (-2))), (3, .int (iI (j - i))), (2, .int (iI i)), (1, .int (iI (wt - 1))), (0, .ref 517)]) (st' := [.ref 517]) rfl ?_
      have h1552 := (hf1425.1 517 (by omega)).trans (h1397)
      refine T_get xr_43_59 h1552 rfl (v := .ref 504) rfl (pc' := 62) rfl ?_
      refine T_p xr_43_62 xn_43 (pc' := 64) (ls' := [(4, .int (iI (-2))), (3, .int (iI (j - i))), (2, .int (iI i)), (1, .int (iI (wt - 1))), (0, .ref 517)]) (st' := [.int (iI (-2)), .ref 504]) rfl ?_
      refine T_p xr_43_64 xn_43 (pc' := 65) (ls' := [(4, .int (iI (-2))), (3, .int (iI (j - i))), (2, .int (iI i)), (1, .int (iI (wt - 1))), (0, .ref 517)]) (st' := [.int (iI i), .int (iI (-2)), .ref 504]) rfl ?_
      refine T_p xr_43_65 xn_43 (pc' := 66) (ls' := [(4, .int (iI (-2))), (3, .int (iI (j - i))), (2, .int (iI i)), (1, .int (iI (wt - 1))), (0, .ref 517)]) (st' := [.int (iI (j - i)), .int (iI i), .int (iI (-2)), .ref 504]) rfl ?_
      refine T_p xr_43_66 xn_43 (pc' := 67) (ls' := [(4, .int (iI (-2))), (3, .int (iI (j - i))), (2, .int (iI i)), (1, .int (iI (wt - 1))), (0, .ref 517)]) (st' := [.ref 517, .int (iI (j - i)), .int (iI i), .int (iI (-2)), .ref 504]) rfl ?_
      refine T_get xr_43_67 h1552 rfl (v := .ref 520) rfl (pc' := 70) rfl ?_
      refine T_p xr_43_70 xn_43 (pc' := 71) (ls' := [(4, .int (iI (-2))), (3, .int (iI (j - i))), (2, .int (iI i)), (1, .int (iI (wt - 1))), (0, .ref 517)]) (st' := [.int (iI (wt - 1)), .ref 520, .int (iI (j - i)), .int (iI i), .int (iI (-2)), .ref 504]) rfl ?_
      have h1553 := (hf1425.1 520 (by omega)).trans ((n1398 520 (by decide)).trans (hA520))
      refine T_ziald xr_43_71 h1553 (pc' := 72) rfl ?_
      refine T_ie (y := iI pa) (by rw [hFp]) ?_
      refine T_p xr_43_72 xn_43 (pc' := 73) (ls' := [(4, .int (iI (-2))), (3, .int (iI (j - i))), (2, .int (iI i)), (1, .int (iI (wt - 1))), (0, .ref 517)]) (st' := [.ref 517, .int (iI pa), .int (iI (j - i)), .int (iI i), .int (iI (-2)), .ref 504]) rfl ?_
      refine T_get xr_43_73 h1552 rfl (v := .ref 521) rfl (pc' := 76) rfl ?_
      refine T_p xr_43_76 xn_43 (pc' := 77) (ls' := [(4, .int (iI (-2))), (3, .int (iI (j - i))), (2, .int (iI i)), (1, .int (iI (wt - 1))), (0, .ref 517)]) (st' := [.int (iI (wt - 1)), .ref 521, .int (iI pa), .int (iI (j - i)), .int (iI i), .int (iI (-2)), .ref 504]) rfl ?_
      have h1554 := (hf1425.1 521 (by omega)).trans ((n1398 521 (by decide)).trans (hA521))
      refine T_ziald xr_43_77 h1554 (pc' := 78) rfl ?_
      refine T_ie (y := iI ho) (by rw [hFh]) ?_
      have h1555 := (hf1425.1 504 (by omega)).trans ((n1398 504 (by decide)).trans (hO504))
      refine T_cv (S := S1418) (q := 504) xr_43_78 xf_84.1 xf_84.2.1 xn_84 (as := [.int (iI (-2)), .int (iI i), .int (iI (j - i)), .int (iI pa), .int (iI ho)]) (r := []) rfl h1555 (Nat.le_of_ble_eq_true rfl) (Nat.le_of_ble_eq_true rfl) (pc' := 81) rfl (ls' := [(0, .ref 504), (1, .int (iI (-2))), (2, .int (iI i)), (3, .int (iI (j - i))), (4, .int (iI pa)), (5, .int (iI ho))]) rfl ?_
      have h1556 := (hf1425.1 505 (by omega)).trans ((n1398 505 (by decide)).trans (hA505))
      have h1557 := (hf1425.1 506 (by omega)).trans ((n1398 506 (by decide)).trans (hA506))
      have h1558 := (hf1425.1 507 (by omega)).trans ((n1398 507 (by decide)).trans (hA507))
      have h1559 := (hf1425.1 508 (by omega)).trans ((n1398 508 (by decide)).trans (hA508))
      have h1560 := (hf1425.1 509 (by omega)).trans ((n1398 509 (by decide)).trans (hA509))
      have h1561 := (hf1425.1 510 (by omega)).trans ((n1398 510 (by decide)).trans (hA510))
      refine T_mono (c_add sc S1418 nW nF nL nP nH nC nc N (-2) i (j - i) pa ho h1555 h1556 h1557 h1558 h1559 h1560 h1561 (by omega) (by omega) hnd hch) (fun v1562 S1563 h1564 => ?_)
      rcases h1564 with ⟨nW1565, nF1566, nL1567, nP1568, nH1569, nC1570, hv1571, hp1572, hp1573, ho1574, ha1575, ha1576, ha1577, ha1578, ha1579, ha1580, hf1581⟩
      rw [hv1571]
      show X_T sc 43 (81, [(4, .int (iI (-2))), (3, .int (iI (j - i))), (2, .int (iI i)), (1, .int (iI (wt - 1))), (0, .ref 517)], [.int (iI nc)], S1563) _
      refine T_p xr_43_81 xn_43 (pc' := 83) (ls' := [(5, .int (iI nc)), (4, .int (iI (-2))), (3, .int (iI (j - i))), (2, .int (iI i)), (1, .int (iI (wt - 1))), (0, .ref 517)]) (st' := []) rfl ?_
      refine T_p xr_43_83 xn_43 (pc' := 85) (ls' := [(5, .int (iI nc)), (4, .int (iI (-2))), (3, .int (iI (j - i))), (2, .int (iI i)), (1, .int (iI (wt - 1))), (0, .ref 517)]) (st' := [.int (iI (-2))]) rfl ?_
      refine T_zif_ltt xr_43_85 (t := 128) rfl (by decide) ?_
      refine T_p xr_43_128 xn_43 (pc' := 130) (ls' := [(5, .int (iI nc)), (4, .int (iI (-2))), (3, .int (iI (j - i))), (2, .int (iI i)), (1, .int (iI (wt - 1))), (0, .ref 517)]) (st' := [.int (iI (-2))]) rfl ?_
      refine T_p xr_43_130 xn_43 (pc' := 132) (ls' := [(5, .int (iI nc)), (4, .int (iI (-2))), (3, .int (iI (j - i))), (2, .int (iI i)), (1, .int (iI (wt - 1))), (0, .ref 517)]) (st' := [.int (iI (-3)), .int (iI (-2))]) rfl ?_
      refine T_zicmp_net xr_43_132 (t := 186) rfl (by decide) ?_
      refine T_vret xr_43_186 xf_43.2.2 ?_
      refine hQ _ _ ?_
      have h1582 := (hf1581.1 518 (by omega)).trans ((hf1425.1 518 (by omega)).trans (h1400))
      have h1583 := (hf1581.1 519 (by omega)).trans ((hf1425.1 519 (by omega)).trans (h1401))
      have h1584 := (hf1581.1 520 (by omega)).trans (h1553)
      have h1585 := (hf1581.1 521 (by omega)).trans (h1554)
      have h1586 := (hf1581.1 522 (by omega)).trans ((hf1425.1 522 (by omega)).trans (h1406))
      have h1587 := (hf1581.1 523 (by omega)).trans ((hf1425.1 523 (by omega)).trans (h1407))
      have h1588 := (hf1581.1 524 (by omega)).trans (ha1424)
      have h1589 := (hf1581.1 516 (by omega)).trans ((hf1425.1 516 (by omega)).trans ((n1398 516 (by decide)).trans (hA516)))
      have h1590 := (hf1581.1 525 (by omega)).trans ((hf1425.1 525 (by omega)).trans ((n1398 525 (by decide)).trans (hA525)))
      have h1591 := (hf1581.1 526 (by omega)).trans ((hf1425.1 526 (by omega)).trans ((n1398 526 (by decide)).trans (hA526)))
      have h1592 := (hf1581.1 517 (by omega)).trans (h1552)
      exact ⟨wt - 1, St, X_nn N nc (-2) i (j - i) pa ho, nW1565, nF1566, nL1567, nP1568, nH1569, nC1570, fF, fE, fP, fH, fW, fK, fN1420, tl, hF, hE, rfl, (X_mk_n hT hp1422 (by omega)), (X_Mok_n hM hwt hT), (F_st.pop hst (fun q hq => hp1423 q)), hp1572, hp1573, h1592, ho1574, ha1575, ha1576, ha1577, ha1578, ha1579, ha1580, h1582, h1583, h1584, h1585, h1586, h1587, h1588, h1589, h1590, h1591, (((X_Fr.rf).tr (X_Fr.of n1398 e1399 (by omega))).tr (X_Fr.mono ⟨hf1425.1, hf1425.2⟩ (fun q hq => (by omega)))).tr (X_Fr.mono ⟨hf1581.1, hf1581.2⟩ (fun q hq => (by omega)))⟩
  · skip
    rw [hv1429]
    show X_T sc 43 (36, [(3, .int (iI (j - i))), (2, .int (iI i)), (1, .int (iI (wt - 1))), (0, .ref 517)], [.int (iI v1426)], S1418) _
    refine T_p xr_43_36 xn_43 (pc' := 38) (ls' := [(4, .int (iI v1426)), (3, .int (iI (j - i))), (2, .int (iI i)), (1, .int (iI (wt - 1))), (0, .ref 517)]) (st' := []) rfl ?_
    refine T_p xr_43_38 xn_43 (pc' := 40) (ls' := [(4, .int (iI v1426)), (3, .int (iI (j - i))), (2, .int (iI i)), (1, .int (iI (wt - 1))), (0, .ref 517)]) (st' := [.int (iI v1426)]) rfl ?_
    refine T_p xr_43_40 xn_43 (pc' := 41) (ls' := [(4, .int (iI v1426)), (3, .int (iI (j - i))), (2, .int (iI i)), (1, .int (iI (wt - 1))), (0, .ref 517)]) (st' := [.int (iI (-1)), .int (iI v1426)]) rfl ?_
    refine T_zicmp_ne xr_43_41 (t := 58) (pc' := 44) rfl rfl (fun c1593 => ?_) (fun c1593 => ?_)
    · skip
      have c1593 : ¬ v1426 = (-1) := c1593
      refine T_p xr_43_58 xn_43 (pc' := 59) (ls' := [(4, .int (iI v1426)), (3, .int (iI (j - i))), (2, .int (iI i)), (1, .int (iI (wt - 1))), (0, .ref 517)]) (st' := [.ref 517]) rfl ?_
      have h1594 := (hf1438.1 517 (by omega)).trans (h1397)
      refine T_get xr_43_59 h1594 rfl (v := .ref 504) rfl (pc' := 62) rfl ?_
      refine T_p xr_43_62 xn_43 (pc' := 64) (ls' := [(4, .int (iI v1426)), (3, .int (iI (j - i))), (2, .int (iI i)), (1, .int (iI (wt - 1))), (0, .ref 517)]) (st' := [.int (iI v1426), .ref 504]) rfl ?_
      refine T_p xr_43_64 xn_43 (pc' := 65) (ls' := [(4, .int (iI v1426)), (3, .int (iI (j - i))), (2, .int (iI i)), (1, .int (iI (wt - 1))), (0, .ref 517)]) (st' := [.int (iI i), .int (iI v1426), .ref 504]) rfl ?_
      refine T_p xr_43_65 xn_43 (pc' := 66) (ls' := [(4, .int (iI v1426)), (3, .int (iI (j - i))), (2, .int (iI i)), (1, .int (iI (wt - 1))), (0, .ref 517)]) (st' := [.int (iI (j - i)), .int (iI i), .int (iI v1426), .ref 504]) rfl ?_
      refine T_p xr_43_66 xn_43 (pc' := 67) (ls' := [(4, .int (iI v1426)), (3, .int (iI (j - i))), (2, .int (iI i)), (1, .int (iI (wt - 1))), (0, .ref 517)]) (st' := [.ref 517, .int (iI (j - i)), .int (iI i), .int (iI v1426), .ref 504]) rfl ?_
      refine T_get xr_43_67 h1594 rfl (v := .ref 520) rfl (pc' := 70) rfl ?_
      refine T_p xr_43_70 xn_43 (pc' := 71) (ls' := [(4, .int (iI v1426)), (3, .int (iI (j - i))), (2, .int (iI i)), (1, .int (iI (wt - 1))), (0, .ref 517)]) (st' := [.int (iI (wt - 1)), .ref 520, .int (iI (j - i)), .int (iI i), .int (iI v1426), .ref 504]) rfl ?_
      have h1595 := (hf1438.1 520 (by omega)).trans ((n1398 520 (by decide)).trans (hA520))
      refine T_ziald xr_43_71 h1595 (pc' := 72) rfl ?_
      refine T_ie (y := iI pa) (by rw [hFp]) ?_
      refine T_p xr_43_72 xn_43 (pc' := 73) (ls' := [(4, .int (iI v1426)), (3, .int (iI (j - i))), (2, .int (iI i)), (1, .int (iI (wt - 1))), (0, .ref 517)]) (st' := [.ref 517, .int (iI pa), .int (iI (j - i)), .int (iI i), .int (iI v1426), .ref 504]) rfl ?_
      refine T_get xr_43_73 h1594 rfl (v := .ref 521) rfl (pc' := 76) rfl ?_
      refine T_p xr_43_76 xn_43 (pc' := 77) (ls' := [(4, .int (iI v1426)), (3, .int (iI (j - i))), (2, .int (iI i)), (1, .int (iI (wt - 1))), (0, .ref 517)]) (st' := [.int (iI (wt - 1)), .ref 521, .int (iI pa), .int (iI (j - i)), .int (iI i), .int (iI v1426), .ref 504]) rfl ?_
      have h1596 := (hf1438.1 521 (by omega)).trans ((n1398 521 (by decide)).trans (hA521))
      refine T_ziald xr_43_77 h1596 (pc' := 78) rfl ?_
      refine T_ie (y := iI ho) (by rw [hFh]) ?_
      have h1597 := (hf1438.1 504 (by omega)).trans ((n1398 504 (by decide)).trans (hO504))
      refine T_cv (S := S1418) (q := 504) xr_43_78 xf_84.1 xf_84.2.1 xn_84 (as := [.int (iI v1426), .int (iI i), .int (iI (j - i)), .int (iI pa), .int (iI ho)]) (r := []) rfl h1597 (Nat.le_of_ble_eq_true rfl) (Nat.le_of_ble_eq_true rfl) (pc' := 81) rfl (ls' := [(0, .ref 504), (1, .int (iI v1426)), (2, .int (iI i)), (3, .int (iI (j - i))), (4, .int (iI pa)), (5, .int (iI ho))]) rfl ?_
      have h1598 := (hf1438.1 505 (by omega)).trans ((n1398 505 (by decide)).trans (hA505))
      have h1599 := (hf1438.1 506 (by omega)).trans ((n1398 506 (by decide)).trans (hA506))
      have h1600 := (hf1438.1 507 (by omega)).trans ((n1398 507 (by decide)).trans (hA507))
      have h1601 := (hf1438.1 508 (by omega)).trans ((n1398 508 (by decide)).trans (hA508))
      have h1602 := (hf1438.1 509 (by omega)).trans ((n1398 509 (by decide)).trans (hA509))
      have h1603 := (hf1438.1 510 (by omega)).trans ((n1398 510 (by decide)).trans (hA510))
      refine T_mono (c_add sc S1418 nW nF nL nP nH nC nc N v1426 i (j - i) pa ho h1597 h1598 h1599 h1600 h1601 h1602 h1603 (by omega) (by omega) hnd hch) (fun v1604 S1605 h1606 => ?_)
      rcases h1606 with ⟨nW1607, nF1608, nL1609, nP1610, nH1611, nC1612, hv1613, hp1614, hp1615, ho1616, ha1617, ha1618, ha1619, ha1620, ha1621, ha1622, hf1623⟩
      rw [hv1613]
      show X_T sc 43 (81, [(4, .int (iI v1426)), (3, .int (iI (j - i))), (2, .int (iI i)), (1, .int (iI (wt - 1))), (0, .ref 517)], [.int (iI nc)], S1605) _
      refine T_p xr_43_81 xn_43 (pc' := 83) (ls' := [(5, .int (iI nc)), (4, .int (iI v1426)), (3, .int (iI (j - i))), (2, .int (iI i)), (1, .int (iI (wt - 1))), (0, .ref 517)]) (st' := []) rfl ?_
      refine T_p xr_43_83 xn_43 (pc' := 85) (ls' := [(5, .int (iI nc)), (4, .int (iI v1426)), (3, .int (iI (j - i))), (2, .int (iI i)), (1, .int (iI (wt - 1))), (0, .ref 517)]) (st' := [.int (iI v1426)]) rfl ?_
      refine T_zif_lt xr_43_85 (t := 128) (pc' := 88) rfl rfl (fun c1624 => ?_) (fun c1624 => ?_)
      · skip
        have c1624 : v1426 < 0 := c1624
        exact (show False by omega).elim
      · skip
        have c1624 : ¬ (v1426 < 0) := c1624
        refine T_p xr_43_88 xn_43 (pc' := 89) (ls' := [(5, .int (iI nc)), (4, .int (iI v1426)), (3, .int (iI (j - i))), (2, .int (iI i)), (1, .int (iI (wt - 1))), (0, .ref 517)]) (st' := [.ref 517]) rfl ?_
        have h1625 := (hf1623.1 517 (by omega)).trans (h1594)
        refine T_get xr_43_89 h1625 rfl (v := .ref 511) rfl (pc' := 92) rfl ?_
        refine T_p xr_43_92 xn_43 (pc' := 94) (ls' := [(5, .int (iI nc)), (4, .int (iI v1426)), (3, .int (iI (j - i))), (2, .int (iI i)), (1, .int (iI (wt - 1))), (0, .ref 517)]) (st' := [.int (iI v1426), .ref 511]) rfl ?_
        refine T_p xr_43_94 xn_43 (pc' := 95) (ls' := [(5, .int (iI nc)), (4, .int (iI v1426)), (3, .int (iI (j - i))), (2, .int (iI i)), (1, .int (iI (wt - 1))), (0, .ref 517)]) (st' := [.int (iI i), .int (iI v1426), .ref 511]) rfl ?_
        refine T_p xr_43_95 xn_43 (pc' := 96) (ls' := [(5, .int (iI nc)), (4, .int (iI v1426)), (3, .int (iI (j - i))), (2, .int (iI i)), (1, .int (iI (wt - 1))), (0, .ref 517)]) (st' := [.int (iI i), .int (iI i), .int (iI v1426), .ref 511]) rfl ?_
        refine T_p xr_43_96 xn_43 (pc' := 97) (ls' := [(5, .int (iI nc)), (4, .int (iI v1426)), (3, .int (iI (j - i))), (2, .int (iI i)), (1, .int (iI (wt - 1))), (0, .ref 517)]) (st' := [.int (iI (j - i)), .int (iI i), .int (iI i), .int (iI v1426), .ref 511]) rfl ?_
        refine T_ziadd xr_43_97 (z := i + (j - i)) rfl (pc' := 98) rfl ?_
        refine T_ie (y := iI j) (by congr 1; omega) ?_
        have h1626 := (hf1623.1 511 (by omega)).trans ((hf1438.1 511 (by omega)).trans (h1409))
        refine T_cv (S := S1605) (q := 511) xr_43_98 xf_36.1 xf_36.2.1 xn_36 (as := [.int (iI v1426), .int (iI i), .int (iI j)]) (r := []) rfl h1626 (Nat.le_of_ble_eq_true rfl) (Nat.le_of_ble_eq_true rfl) (pc' := 101) rfl (ls' := [(0, .ref 511), (1, .int (iI v1426)), (2, .int (iI i)), (3, .int (iI j))]) rfl ?_
        have h1627 := (hf1623.1 515 (by omega)).trans ((hf1438.1 515 (by omega)).trans (h1405))
        have h1628 := (hf1623.1 516 (by omega)).trans ((hf1438.1 516 (by omega)).trans ((n1398 516 (by decide)).trans (hA516)))
        have h1629 := (hf1623.1 501 (by omega)).trans ((hf1438.1 501 (by omega)).trans ((n1398 501 (by decide)).trans (hO501)))
        have h1630 := (hf1623.1 B (by omega)).trans ((hf1438.1 B (by omega)).trans (h1410))
        have h1631 := (hf1623.1 (B + 1) (by omega)).trans ((hf1438.1 (B + 1) (by omega)).trans (h1411))
        have h1632 := (hf1623.1 (B + 2) (by omega)).trans ((hf1438.1 (B + 2) (by omega)).trans (h1412))
        have h1633 := (hf1623.1 (B + 3) (by omega)).trans ((hf1438.1 (B + 3) (by omega)).trans (h1413))
        have h1634 := (hf1623.1 (B + 4) (by omega)).trans ((hf1438.1 (B + 4) (by omega)).trans (h1414))
        have h1635 := (hf1623.1 (B + 5) (by omega)).trans ((hf1438.1 (B + 5) (by omega)).trans (h1415))
        have hs1636 : C_ws S1605 B (gD G) (gW G) := C_ws.fr (P := fun q => 501 ≤ q ∧ q ≤ 529) hs1416 (((X_Fr.rf).tr (X_Fr.mono ⟨hf1438.1, hf1438.2⟩ (fun q hq => (by omega)))).tr (X_Fr.mono ⟨hf1623.1, hf1623.2⟩ (fun q hq => (by omega)))) (fun k h1 h2 => by omega)
        have h1637 := (hf1623.1 502 (by omega)).trans ((hf1438.1 502 (by omega)).trans ((n1398 502 (by decide)).trans (hA502)))
        refine T_mono (c_prepareTails sc S1605 oH tl B rc rn kn G tn fl v1426 i j h1629 h1626 h1627 h1628 hB ⟨h1630, h1631, h1632, h1633, h1634, ⟨f, h1635, hf⟩, ⟨by omega, by omega⟩, ⟨by omega, by omega⟩, ⟨by omega, by omega⟩⟩ hs1636 hG h1637 (by omega) (by omega) (fun p h1 h2 e g1 g2 g3 m h3 h4 => (hcht p m (by omega) h3 (by omega)).2.2.2 _ hp1431.1 hp1431.2 e g1 g2 g3)) (fun v1638 S1639 h1640 => ?_)
        rcases h1640 with ⟨tl1641, hv1642, hp1643, ha1644, hf1645⟩
        rw [hv1642]
        show X_T sc 43 (101, [(5, .int (iI nc)), (4, .int (iI v1426)), (3, .int (iI (j - i))), (2, .int (iI i)), (1, .int (iI (wt - 1))), (0, .ref 517)], [], S1639) _
        refine T_p xr_43_101 xn_43 (pc' := 102) (ls' := [(5, .int (iI nc)), (4, .int (iI v1426)), (3, .int (iI (j - i))), (2, .int (iI i)), (1, .int (iI (wt - 1))), (0, .ref 517)]) (st' := [.ref 517]) rfl ?_
        refine T_p xr_43_102 xn_43 (pc' := 104) (ls' := [(5, .int (iI nc)), (4, .int (iI v1426)), (3, .int (iI (j - i))), (2, .int (iI i)), (1, .int (iI (wt - 1))), (0, .ref 517)]) (st' := [.int (iI v1426), .ref 517]) rfl ?_
        refine T_p xr_43_104 xn_43 (pc' := 106) (ls' := [(5, .int (iI nc)), (4, .int (iI v1426)), (3, .int (iI (j - i))), (2, .int (iI i)), (1, .int (iI (wt - 1))), (0, .ref 517)]) (st' := [.int (iI nc), .int (iI v1426), .ref 517]) rfl ?_
        refine T_p xr_43_106 xn_43 (pc' := 107) (ls' := [(5, .int (iI nc)), (4, .int (iI v1426)), (3, .int (iI (j - i))), (2, .int (iI i)), (1, .int (iI (wt - 1))), (0, .ref 517)]) (st' := [.ref 517, .int (iI nc), .int (iI v1426), .ref 517]) rfl ?_
        refine T_p xr_43_107 xn_43 (pc' := 109) (ls' := [(5, .int (iI nc)), (4, .int (iI v1426)), (3, .int (iI (j - i))), (2, .int (iI i)), (1, .int (iI (wt - 1))), (0, .ref 517)]) (st' := [.int (iI v1426), .ref 517, .int (iI nc), .int (iI v1426), .ref 517]) rfl ?_
        refine T_p xr_43_109 xn_43 (pc' := 110) (ls' := [(5, .int (iI nc)), (4, .int (iI v1426)), (3, .int (iI (j - i))), (2, .int (iI i)), (1, .int (iI (wt - 1))), (0, .ref 517)]) (st' := [.int (iI i), .int (iI v1426), .ref 517, .int (iI nc), .int (iI v1426), .ref 517]) rfl ?_
        refine T_p xr_43_110 xn_43 (pc' := 111) (ls' := [(5, .int (iI nc)), (4, .int (iI v1426)), (3, .int (iI (j - i))), (2, .int (iI i)), (1, .int (iI (wt - 1))), (0, .ref 517)]) (st' := [.int (iI i), .int (iI i), .int (iI v1426), .ref 517, .int (iI nc), .int (iI v1426), .ref 517]) rfl ?_
        refine T_p xr_43_111 xn_43 (pc' := 112) (ls' := [(5, .int (iI nc)), (4, .int (iI v1426)), (3, .int (iI (j - i))), (2, .int (iI i)), (1, .int (iI (wt - 1))), (0, .ref 517)]) (st' := [.int (iI (j - i)), .int (iI i), .int (iI i), .int (iI v1426), .ref 517, .int (iI nc), .int (iI v1426), .ref 517]) rfl ?_
        refine T_ziadd xr_43_112 (z := i + (j - i)) rfl (pc' := 113) rfl ?_
        refine T_ie (y := iI j) (by congr 1; omega) ?_
        refine T_p xr_43_113 xn_43 (pc' := 114) (ls' := [(5, .int (iI nc)), (4, .int (iI v1426)), (3, .int (iI (j - i))), (2, .int (iI i)), (1, .int (iI (wt - 1))), (0, .ref 517)]) (st' := [.ref 517, .int (iI j), .int (iI i), .int (iI v1426), .ref 517, .int (iI nc), .int (iI v1426), .ref 517]) rfl ?_
        have h1646 := (hf1645.1 517 (by omega)).trans (h1625)
        refine T_get xr_43_114 h1646 rfl (v := .ref 524) rfl (pc' := 117) rfl ?_
        refine T_p xr_43_117 xn_43 (pc' := 118) (ls' := [(5, .int (iI nc)), (4, .int (iI v1426)), (3, .int (iI (j - i))), (2, .int (iI i)), (1, .int (iI (wt - 1))), (0, .ref 517)]) (st' := [.int (iI (wt - 1)), .ref 524, .int (iI j), .int (iI i), .int (iI v1426), .ref 517, .int (iI nc), .int (iI v1426), .ref 517]) rfl ?_
        have h1647 := (hf1645.1 524 (by omega)).trans ((hf1623.1 524 (by omega)).trans (ha1437))
        refine T_zlald xr_43_118 h1647 (pc' := 119) rfl ?_
        refine T_le (y := (iL (k1427 : Int))) hp1435 ?_
        refine T_cv (S := S1639) (q := 517) xr_43_119 xf_45.1 xf_45.2.1 xn_45 (as := [.int (iI v1426), .int (iI i), .int (iI j), .long (iL (k1427 : Int))]) (r := [.int (iI nc), .int (iI v1426), .ref 517]) rfl h1646 (Nat.le_of_ble_eq_true rfl) (Nat.le_of_ble_eq_true rfl) (pc' := 122) rfl (ls' := [(0, .ref 517), (1, .int (iI v1426)), (2, .int (iI i)), (3, .int (iI j)), (4, .long (iL (k1427 : Int)))]) rfl ?_
        have h1648 := (hf1645.1 512 (by omega)).trans ((hf1623.1 512 (by omega)).trans ((hf1438.1 512 (by omega)).trans (h1402)))
        have h1649 := (hf1645.1 513 (by omega)).trans ((hf1623.1 513 (by omega)).trans ((hf1438.1 513 (by omega)).trans (h1403)))
        have h1650 := (hf1645.1 514 (by omega)).trans ((hf1623.1 514 (by omega)).trans ((hf1438.1 514 (by omega)).trans (h1404)))
        have h1651 := (hf1645.1 515 (by omega)).trans (h1627)
        have h1652 := (hf1645.1 525 (by omega)).trans ((hf1623.1 525 (by omega)).trans ((hf1438.1 525 (by omega)).trans ((n1398 525 (by decide)).trans (hA525))))
        have h1653 := (hf1645.1 526 (by omega)).trans ((hf1623.1 526 (by omega)).trans ((hf1438.1 526 (by omega)).trans ((n1398 526 (by decide)).trans (hA526))))
        have h1654 := (hf1645.1 511 (by omega)).trans (h1626)
        have h1655 := (hf1645.1 B (by omega)).trans (h1630)
        have h1656 := (hf1645.1 (B + 1) (by omega)).trans (h1631)
        have h1657 := (hf1645.1 (B + 2) (by omega)).trans (h1632)
        have h1658 := (hf1645.1 (B + 3) (by omega)).trans (h1633)
        have h1659 := (hf1645.1 (B + 4) (by omega)).trans (h1634)
        have h1660 := (hf1645.1 (B + 5) (by omega)).trans (h1635)
        have hs1661 : C_ws S1639 B (gD G) (gW G) := C_ws.fr (P := fun q => 501 ≤ q ∧ q ≤ 529) hs1636 ((X_Fr.rf).tr (X_Fr.mono ⟨hf1645.1, hf1645.2⟩ (fun q hq => (by omega)))) (fun k h1 h2 => by omega)
        refine T_mono (c_splitWord sc S1639 oK oW oA oH tl1641 hF hE B rc rn kn G tn fl (wt - 1) v1426 i j k1427 h1654 h1646 h1648 h1649 h1650 h1651 ha1644 h1652 h1653 hB ⟨h1655, h1656, h1657, h1658, h1659, ⟨f, h1660, hf⟩, ⟨by omega, by omega⟩, ⟨by omega, by omega⟩, ⟨by omega, by omega⟩⟩ hs1661 hG (by omega) (by omega) (by omega) (by omega) hcht hp1643) (fun v1662 S1663 h1664 => ?_)
        rcases h1664 with ⟨l1665, HF1666, HE1667, hF1668, hE1669, hv1670, hp1671, hp1672, hp1673, ha1674, ha1675, hf1676⟩
        rw [hv1670]
        have hW1677 := X_Mok_w (N' := X_nn N nc v1426 i (j - i) pa ho) hG htn.2 hM hwt hT hp1431 hp1433 (Nat.le_trans hp1434 hIm) hp1671 hp1673
        show X_T sc 43 (122, [(5, .int (iI nc)), (4, .int (iI v1426)), (3, .int (iI (j - i))), (2, .int (iI i)), (1, .int (iI (wt - 1))), (0, .ref 517)], [.long (iL (l1665 : Int)), .int (iI nc), .int (iI v1426), .ref 517], S1663) _
        have h1678 := (hf1676.1 517 (by omega)).trans (h1646)
        refine T_cv (S := S1663) (q := 517) xr_43_122 xf_46.1 xf_46.2.1 xn_46 (as := [.int (iI v1426), .int (iI nc), .long (iL (l1665 : Int))]) (r := []) rfl h1678 (Nat.le_of_ble_eq_true rfl) (Nat.le_of_ble_eq_true rfl) (pc' := 125) rfl (ls' := [(0, .ref 517), (1, .int (iI v1426)), (2, .int (iI nc)), (3, .long (iL (l1665 : Int)))]) rfl ?_
        have h1679 := (hf1676.1 512 (by omega)).trans (h1648)
        have h1680 := (hf1676.1 513 (by omega)).trans (h1649)
        have h1681 := (hf1676.1 514 (by omega)).trans (h1650)
        have h1682 := (hf1676.1 515 (by omega)).trans (h1651)
        have h1683 := (hf1676.1 518 (by omega)).trans ((hf1645.1 518 (by omega)).trans ((hf1623.1 518 (by omega)).trans ((hf1438.1 518 (by omega)).trans (h1400))))
        have h1684 := (hf1676.1 519 (by omega)).trans ((hf1645.1 519 (by omega)).trans ((hf1623.1 519 (by omega)).trans ((hf1438.1 519 (by omega)).trans (h1401))))
        have h1685 := (hf1676.1 520 (by omega)).trans ((hf1645.1 520 (by omega)).trans ((hf1623.1 520 (by omega)).trans (h1595)))
        have h1686 := (hf1676.1 521 (by omega)).trans ((hf1645.1 521 (by omega)).trans ((hf1623.1 521 (by omega)).trans (h1596)))
        have h1687 := (hf1676.1 522 (by omega)).trans ((hf1645.1 522 (by omega)).trans ((hf1623.1 522 (by omega)).trans ((hf1438.1 522 (by omega)).trans (h1406))))
        have h1688 := (hf1676.1 523 (by omega)).trans ((hf1645.1 523 (by omega)).trans ((hf1623.1 523 (by omega)).trans ((hf1438.1 523 (by omega)).trans (h1407))))
        have h1689 := (hf1676.1 524 (by omega)).trans (h1647)
        have h1690 := (hf1676.1 511 (by omega)).trans (h1654)
        have h1691 := (hf1676.1 B (by omega)).trans (h1655)
        have h1692 := (hf1676.1 (B + 1) (by omega)).trans (h1656)
        have h1693 := (hf1676.1 (B + 2) (by omega)).trans (h1657)
        have h1694 := (hf1676.1 (B + 3) (by omega)).trans (h1658)
        have h1695 := (hf1676.1 (B + 4) (by omega)).trans (h1659)
        have h1696 := (hf1676.1 (B + 5) (by omega)).trans (h1660)
        have hs1697 : C_ws S1663 B (gD G) (gW G) := C_ws.fr (P := fun q => 501 ≤ q ∧ q ≤ 529) hs1661 ((X_Fr.rf).tr (X_Fr.mono ⟨hf1676.1, hf1676.2⟩ (fun q hq => (by omega)))) (fun k h1 h2 => by omega)
        refine T_mono (c_fillWord sc S1663 oK oW oA oH fF fE fP fH fW fK fN1428 hF1668 hE1669 B rc rn kn G tn fl (wt - 1) v1426 nc l1665 HF1666 HE1667 St h1690 h1678 h1679 h1680 h1681 h1682 h1683 h1684 h1685 h1686 h1687 h1688 h1689 ha1674 ha1675 hB ⟨h1691, h1692, h1693, h1694, h1695, ⟨f, h1696, hf⟩, ⟨by omega, by omega⟩, ⟨by omega, by omega⟩, ⟨by omega, by omega⟩⟩ hs1697 hG (by omega) (by omega) hcht (F_st.pop hst hp1436) hp1672 (fun z g1 g2 => by have hz := hW1677.1 z g1 g2; exact ⟨by omega, hz.2⟩) (by omega) (by omega)) (fun v1698 S1699 h1700 => ?_)
        rcases h1700 with ⟨r1701, St1702, fF1703, fE1704, fP1705, fH1706, fW1707, fK1708, fN1709, hv1710, hp1711, hp1712, ho1713, ha1714, ha1715, ha1716, ha1717, ha1718, ha1719, ha1720, hf1721⟩
        rw [hv1710]
        show X_T sc 43 (125, [(5, .int (iI nc)), (4, .int (iI v1426)), (3, .int (iI (j - i))), (2, .int (iI i)), (1, .int (iI (wt - 1))), (0, .ref 517)], [], S1699) _
        refine T_p xr_43_125 xn_43 (pc' := 186) (ls' := [(5, .int (iI nc)), (4, .int (iI v1426)), (3, .int (iI (j - i))), (2, .int (iI i)), (1, .int (iI (wt - 1))), (0, .ref 517)]) (st' := []) rfl ?_
        refine T_vret xr_43_186 xf_43.2.2 ?_
        refine hQ _ _ ?_
        have h1722 := (hf1721.1 505 (by omega)).trans ((hf1676.1 505 (by omega)).trans ((hf1645.1 505 (by omega)).trans (ha1617)))
        have h1723 := (hf1721.1 506 (by omega)).trans ((hf1676.1 506 (by omega)).trans ((hf1645.1 506 (by omega)).trans (ha1618)))
        have h1724 := (hf1721.1 507 (by omega)).trans ((hf1676.1 507 (by omega)).trans ((hf1645.1 507 (by omega)).trans (ha1619)))
        have h1725 := (hf1721.1 508 (by omega)).trans ((hf1676.1 508 (by omega)).trans ((hf1645.1 508 (by omega)).trans (ha1620)))
        have h1726 := (hf1721.1 509 (by omega)).trans ((hf1676.1 509 (by omega)).trans ((hf1645.1 509 (by omega)).trans (ha1621)))
        have h1727 := (hf1721.1 510 (by omega)).trans ((hf1676.1 510 (by omega)).trans ((hf1645.1 510 (by omega)).trans (ha1622)))
        have h1728 := (hf1721.1 516 (by omega)).trans ((hf1676.1 516 (by omega)).trans (ha1644))
        have h1729 := (hf1721.1 525 (by omega)).trans (ha1674)
        have h1730 := (hf1721.1 526 (by omega)).trans (ha1675)
        have h1731 := (hf1721.1 504 (by omega)).trans ((hf1676.1 504 (by omega)).trans ((hf1645.1 504 (by omega)).trans (ho1616)))
        exact ⟨r1701, St1702, X_nn N nc v1426 i (j - i) pa ho, nW1607, nF1608, nL1609, nP1610, nH1611, nC1612, fF1703, fE1704, fP1705, fH1706, fW1707, fK1708, fN1709, tl1641, hF1668, hE1669, rfl, (by
              have hz := X_mk_w (N := N) (nc := nc) hT hp1430 hp1432 hp1671
              rw [hp1711] at hz
              exact hz), (by
              have hz := hW1677.2.2.2
              rw [hp1711] at hz
              exact hz), hp1712, hp1614, hp1615, ho1713, h1731, h1722, h1723, h1724, h1725, h1726, h1727, ha1714, ha1715, ha1716, ha1717, ha1718, ha1719, ha1720, h1728, h1729, h1730, ((((((X_Fr.rf).tr (X_Fr.of n1398 e1399 (by omega))).tr (X_Fr.mono ⟨hf1438.1, hf1438.2⟩ (fun q hq => (by omega)))).tr (X_Fr.mono ⟨hf1623.1, hf1623.2⟩ (fun q hq => (by omega)))).tr (X_Fr.mono ⟨hf1645.1, hf1645.2⟩ (fun q hq => (by omega)))).tr (X_Fr.mono ⟨hf1676.1, hf1676.2⟩ (fun q hq => (by omega)))).tr (X_Fr.mono ⟨hf1721.1, hf1721.2⟩ (fun q hq => (by omega)))⟩
    · skip
      have c1593 : ¬ (¬ v1426 = (-1)) := c1593
      exact (show False by omega).elim
