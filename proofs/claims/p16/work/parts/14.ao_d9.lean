section
theorem xr_43_0 : X_row 43 0 = some (0, (.aload_n 0, 1), (0, 0, 0)) := by decide +kernel
theorem xr_43_1 : X_row 43 1 = some (1, (.dup, 1), (0, 0, 0)) := by decide +kernel
theorem xr_43_2 : X_row 43 2 = some (2, (.getfield 9, 3), (2, 3, 24)) := by decide +kernel
theorem xr_43_5 : X_row 43 5 = some (5, (.iconst 1, 1), (0, 0, 0)) := by decide +kernel
theorem xr_43_6 : X_row 43 6 = some (6, (.isub, 1), (0, 0, 0)) := by decide +kernel
theorem xr_43_7 : X_row 43 7 = some (7, (.putfield 9, 3), (2, 3, 24)) := by decide +kernel
theorem xr_43_10 : X_row 43 10 = some (10, (.aload_n 0, 1), (0, 0, 0)) := by decide +kernel
theorem xr_43_11 : X_row 43 11 = some (11, (.getfield 9, 3), (2, 3, 24)) := by decide +kernel
theorem xr_43_14 : X_row 43 14 = some (14, (.istore_n 1, 1), (0, 0, 0)) := by decide +kernel
theorem xr_43_15 : X_row 43 15 = some (15, (.aload_n 0, 1), (0, 0, 0)) := by decide +kernel
theorem xr_43_16 : X_row 43 16 = some (16, (.getfield 15, 3), (2, 4, 26)) := by decide +kernel
theorem xr_43_19 : X_row 43 19 = some (19, (.iload_n 1, 1), (0, 0, 0)) := by decide +kernel
theorem xr_43_20 : X_row 43 20 = some (20, (.iaload, 1), (0, 0, 0)) := by decide +kernel
theorem xr_43_21 : X_row 43 21 = some (21, (.istore_n 2, 1), (0, 0, 0)) := by decide +kernel
theorem xr_43_22 : X_row 43 22 = some (22, (.aload_n 0, 1), (0, 0, 0)) := by decide +kernel
theorem xr_43_23 : X_row 43 23 = some (23, (.getfield 19, 3), (2, 5, 28)) := by decide +kernel
theorem xr_43_26 : X_row 43 26 = some (26, (.iload_n 1, 1), (0, 0, 0)) := by decide +kernel
theorem xr_43_27 : X_row 43 27 = some (27, (.iaload, 1), (0, 0, 0)) := by decide +kernel
theorem xr_43_28 : X_row 43 28 = some (28, (.iload_n 2, 1), (0, 0, 0)) := by decide +kernel
theorem xr_43_29 : X_row 43 29 = some (29, (.isub, 1), (0, 0, 0)) := by decide +kernel
theorem xr_43_30 : X_row 43 30 = some (30, (.istore_n 3, 1), (0, 0, 0)) := by decide +kernel
theorem xr_43_31 : X_row 43 31 = some (31, (.aload_n 0, 1), (0, 0, 0)) := by decide +kernel
theorem xr_43_32 : X_row 43 32 = some (32, (.iload_n 1, 1), (0, 0, 0)) := by decide +kernel
theorem xr_43_33 : X_row 43 33 = some (33, (.invokevirtual 77, 3), (44, 8, 0)) := by decide +kernel
theorem xr_43_36 : X_row 43 36 = some (36, (.istore 4, 2), (0, 0, 0)) := by decide +kernel
theorem xr_43_38 : X_row 43 38 = some (38, (.iload 4, 2), (0, 0, 0)) := by decide +kernel
theorem xr_43_40 : X_row 43 40 = some (40, (.iconst (-1), 1), (0, 0, 0)) := by decide +kernel
theorem xr_43_41 : X_row 43 41 = some (41, (.if_icmp .ne 17, 3), (0, 0, 0)) := by decide +kernel
theorem xr_43_44 : X_row 43 44 = some (44, (.iload_n 3, 1), (0, 0, 0)) := by decide +kernel
theorem xr_43_45 : X_row 43 45 = some (45, (.iconst 1, 1), (0, 0, 0)) := by decide +kernel
theorem xr_43_46 : X_row 43 46 = some (46, (.if_icmp .ne 8, 3), (0, 0, 0)) := by decide +kernel
theorem xr_43_49 : X_row 43 49 = some (49, (.bipush (-2), 2), (0, 0, 0)) := by decide +kernel
theorem xr_43_51 : X_row 43 51 = some (51, (.goto 5, 3), (0, 0, 0)) := by decide +kernel
theorem xr_43_54 : X_row 43 54 = some (54, (.bipush (-3), 2), (0, 0, 0)) := by decide +kernel
theorem xr_43_56 : X_row 43 56 = some (56, (.istore 4, 2), (0, 0, 0)) := by decide +kernel
theorem xr_43_58 : X_row 43 58 = some (58, (.aload_n 0, 1), (0, 0, 0)) := by decide +kernel
theorem xr_43_59 : X_row 43 59 = some (59, (.getfield 52, 3), (2, 2, 22)) := by decide +kernel
theorem xr_43_62 : X_row 43 62 = some (62, (.iload 4, 2), (0, 0, 0)) := by decide +kernel
theorem xr_43_64 : X_row 43 64 = some (64, (.iload_n 2, 1), (0, 0, 0)) := by decide +kernel
theorem xr_43_65 : X_row 43 65 = some (65, (.iload_n 3, 1), (0, 0, 0)) := by decide +kernel
theorem xr_43_66 : X_row 43 66 = some (66, (.aload_n 0, 1), (0, 0, 0)) := by decide +kernel
theorem xr_43_67 : X_row 43 67 = some (67, (.getfield 22, 3), (2, 6, 30)) := by decide +kernel
theorem xr_43_70 : X_row 43 70 = some (70, (.iload_n 1, 1), (0, 0, 0)) := by decide +kernel
theorem xr_43_71 : X_row 43 71 = some (71, (.iaload, 1), (0, 0, 0)) := by decide +kernel
theorem xr_43_72 : X_row 43 72 = some (72, (.aload_n 0, 1), (0, 0, 0)) := by decide +kernel
theorem xr_43_73 : X_row 43 73 = some (73, (.getfield 25, 3), (2, 7, 32)) := by decide +kernel
theorem xr_43_76 : X_row 43 76 = some (76, (.iload_n 1, 1), (0, 0, 0)) := by decide +kernel
theorem xr_43_77 : X_row 43 77 = some (77, (.iaload, 1), (0, 0, 0)) := by decide +kernel
theorem xr_43_78 : X_row 43 78 = some (78, (.invokevirtual 81, 3), (84, 16, 0)) := by decide +kernel
theorem xr_43_81 : X_row 43 81 = some (81, (.istore 5, 2), (0, 0, 0)) := by decide +kernel
theorem xr_43_83 : X_row 43 83 = some (83, (.iload 4, 2), (0, 0, 0)) := by decide +kernel
theorem xr_43_85 : X_row 43 85 = some (85, (.ifCond .lt 43, 3), (0, 0, 0)) := by decide +kernel
theorem xr_43_88 : X_row 43 88 = some (88, (.aload_n 0, 1), (0, 0, 0)) := by decide +kernel
theorem xr_43_89 : X_row 43 89 = some (89, (.getfield 44, 3), (2, 0, 18)) := by decide +kernel
theorem xr_43_92 : X_row 43 92 = some (92, (.iload 4, 2), (0, 0, 0)) := by decide +kernel
theorem xr_43_94 : X_row 43 94 = some (94, (.iload_n 2, 1), (0, 0, 0)) := by decide +kernel
theorem xr_43_95 : X_row 43 95 = some (95, (.iload_n 2, 1), (0, 0, 0)) := by decide +kernel
theorem xr_43_96 : X_row 43 96 = some (96, (.iload_n 3, 1), (0, 0, 0)) := by decide +kernel
theorem xr_43_97 : X_row 43 97 = some (97, (.iadd, 1), (0, 0, 0)) := by decide +kernel
theorem xr_43_98 : X_row 43 98 = some (98, (.invokevirtual 85, 3), (36, 18, 0)) := by decide +kernel
theorem xr_43_101 : X_row 43 101 = some (101, (.aload_n 0, 1), (0, 0, 0)) := by decide +kernel
theorem xr_43_102 : X_row 43 102 = some (102, (.iload 4, 2), (0, 0, 0)) := by decide +kernel
theorem xr_43_104 : X_row 43 104 = some (104, (.iload 5, 2), (0, 0, 0)) := by decide +kernel
theorem xr_43_106 : X_row 43 106 = some (106, (.aload_n 0, 1), (0, 0, 0)) := by decide +kernel
theorem xr_43_107 : X_row 43 107 = some (107, (.iload 4, 2), (0, 0, 0)) := by decide +kernel
theorem xr_43_109 : X_row 43 109 = some (109, (.iload_n 2, 1), (0, 0, 0)) := by decide +kernel
theorem xr_43_110 : X_row 43 110 = some (110, (.iload_n 2, 1), (0, 0, 0)) := by decide +kernel
theorem xr_43_111 : X_row 43 111 = some (111, (.iload_n 3, 1), (0, 0, 0)) := by decide +kernel
theorem xr_43_112 : X_row 43 112 = some (112, (.iadd, 1), (0, 0, 0)) := by decide +kernel
theorem xr_43_113 : X_row 43 113 = some (113, (.aload_n 0, 1), (0, 0, 0)) := by decide +kernel
theorem xr_43_114 : X_row 43 114 = some (114, (.getfield 34, 3), (2, 10, 38)) := by decide +kernel
theorem xr_43_117 : X_row 43 117 = some (117, (.iload_n 1, 1), (0, 0, 0)) := by decide +kernel
theorem xr_43_118 : X_row 43 118 = some (118, (.laload, 1), (0, 0, 0)) := by decide +kernel
theorem xr_43_119 : X_row 43 119 = some (119, (.invokevirtual 91, 3), (45, 20, 0)) := by decide +kernel
theorem xr_43_122 : X_row 43 122 = some (122, (.invokevirtual 95, 3), (46, 30, 0)) := by decide +kernel
theorem xr_43_125 : X_row 43 125 = some (125, (.goto 61, 3), (0, 0, 0)) := by decide +kernel
theorem xr_43_128 : X_row 43 128 = some (128, (.iload 4, 2), (0, 0, 0)) := by decide +kernel
theorem xr_43_130 : X_row 43 130 = some (130, (.bipush (-3), 2), (0, 0, 0)) := by decide +kernel
theorem xr_43_132 : X_row 43 132 = some (132, (.if_icmp .ne 54, 3), (0, 0, 0)) := by decide +kernel
theorem xr_43_135 : X_row 43 135 = some (135, (.aload_n 0, 1), (0, 0, 0)) := by decide +kernel
theorem xr_43_136 : X_row 43 136 = some (136, (.getfield 31, 3), (2, 9, 36)) := by decide +kernel
theorem xr_43_139 : X_row 43 139 = some (139, (.iload_n 1, 1), (0, 0, 0)) := by decide +kernel
theorem xr_43_140 : X_row 43 140 = some (140, (.iaload, 1), (0, 0, 0)) := by decide +kernel
theorem xr_43_141 : X_row 43 141 = some (141, (.istore 6, 2), (0, 0, 0)) := by decide +kernel
theorem xr_43_143 : X_row 43 143 = some (143, (.aload_n 0, 1), (0, 0, 0)) := by decide +kernel
theorem xr_43_144 : X_row 43 144 = some (144, (.getfield 34, 3), (2, 10, 38)) := by decide +kernel
theorem xr_43_147 : X_row 43 147 = some (147, (.iload_n 1, 1), (0, 0, 0)) := by decide +kernel
theorem xr_43_148 : X_row 43 148 = some (148, (.laload, 1), (0, 0, 0)) := by decide +kernel
theorem xr_43_149 : X_row 43 149 = some (149, (.lstore 7, 2), (0, 0, 0)) := by decide +kernel
theorem xr_43_151 : X_row 43 151 = some (151, (.aload_n 0, 1), (0, 0, 0)) := by decide +kernel
theorem xr_43_152 : X_row 43 152 = some (152, (.iload_n 2, 1), (0, 0, 0)) := by decide +kernel
theorem xr_43_153 : X_row 43 153 = some (153, (.iconst 1, 1), (0, 0, 0)) := by decide +kernel
theorem xr_43_154 : X_row 43 154 = some (154, (.iadd, 1), (0, 0, 0)) := by decide +kernel
theorem xr_43_155 : X_row 43 155 = some (155, (.iload_n 2, 1), (0, 0, 0)) := by decide +kernel
theorem xr_43_156 : X_row 43 156 = some (156, (.iload_n 3, 1), (0, 0, 0)) := by decide +kernel
theorem xr_43_157 : X_row 43 157 = some (157, (.iadd, 1), (0, 0, 0)) := by decide +kernel
theorem xr_43_158 : X_row 43 158 = some (158, (.iconst 1, 1), (0, 0, 0)) := by decide +kernel
theorem xr_43_159 : X_row 43 159 = some (159, (.isub, 1), (0, 0, 0)) := by decide +kernel
theorem xr_43_160 : X_row 43 160 = some (160, (.iload 5, 2), (0, 0, 0)) := by decide +kernel
theorem xr_43_162 : X_row 43 162 = some (162, (.iconst 0, 1), (0, 0, 0)) := by decide +kernel
theorem xr_43_163 : X_row 43 163 = some (163, (.invokevirtual 66, 3), (41, 2, 0)) := by decide +kernel
theorem xr_43_166 : X_row 43 166 = some (166, (.aload_n 0, 1), (0, 0, 0)) := by decide +kernel
theorem xr_43_167 : X_row 43 167 = some (167, (.aload_n 0, 1), (0, 0, 0)) := by decide +kernel
theorem xr_43_168 : X_row 43 168 = some (168, (.getfield 44, 3), (2, 0, 18)) := by decide +kernel
theorem xr_43_171 : X_row 43 171 = some (171, (.getfield 98, 3), (1, 0, 17)) := by decide +kernel
theorem xr_43_174 : X_row 43 174 = some (174, (.iload 6, 2), (0, 0, 0)) := by decide +kernel
theorem xr_43_176 : X_row 43 176 = some (176, (.invokevirtual 102, 3), (15, 32, 0)) := by decide +kernel
theorem xr_43_179 : X_row 43 179 = some (179, (.iload 6, 2), (0, 0, 0)) := by decide +kernel
theorem xr_43_181 : X_row 43 181 = some (181, (.lload 7, 2), (0, 0, 0)) := by decide +kernel
theorem xr_43_183 : X_row 43 183 = some (183, (.invokevirtual 70, 3), (42, 4, 0)) := by decide +kernel
theorem xr_43_186 : X_row 43 186 = some (186, (.return_, 1), (0, 0, 0)) := by decide +kernel
theorem xr_84_0 : X_row 84 0 = some (0, (.aload_n 0, 1), (0, 0, 0)) := by decide +kernel
theorem xr_84_1 : X_row 84 1 = some (1, (.getfield 9, 3), (5, 0, 0)) := by decide +kernel
theorem xr_84_4 : X_row 84 4 = some (4, (.bipush 30, 2), (0, 0, 0)) := by decide +kernel
theorem xr_84_6 : X_row 84 6 = some (6, (.if_icmp .lt 5, 3), (0, 0, 0)) := by decide +kernel
theorem xr_84_11 : X_row 84 11 = some (11, (.aload_n 0, 1), (0, 0, 0)) := by decide +kernel
theorem xr_84_12 : X_row 84 12 = some (12, (.getfield 9, 3), (5, 0, 0)) := by decide +kernel
theorem xr_84_15 : X_row 84 15 = some (15, (.istore 6, 2), (0, 0, 0)) := by decide +kernel
theorem xr_84_17 : X_row 84 17 = some (17, (.aload_n 0, 1), (0, 0, 0)) := by decide +kernel
theorem xr_84_18 : X_row 84 18 = some (18, (.getfield 15, 3), (5, 1, 2)) := by decide +kernel
theorem xr_84_21 : X_row 84 21 = some (21, (.iload 6, 2), (0, 0, 0)) := by decide +kernel
theorem xr_84_23 : X_row 84 23 = some (23, (.iload_n 1, 1), (0, 0, 0)) := by decide +kernel
theorem xr_84_24 : X_row 84 24 = some (24, (.iastore, 1), (0, 0, 0)) := by decide +kernel
theorem xr_84_25 : X_row 84 25 = some (25, (.aload_n 0, 1), (0, 0, 0)) := by decide +kernel
theorem xr_84_26 : X_row 84 26 = some (26, (.getfield 19, 3), (5, 2, 4)) := by decide +kernel
theorem xr_84_29 : X_row 84 29 = some (29, (.iload 6, 2), (0, 0, 0)) := by decide +kernel
theorem xr_84_31 : X_row 84 31 = some (31, (.iload_n 2, 1), (0, 0, 0)) := by decide +kernel
theorem xr_84_32 : X_row 84 32 = some (32, (.iastore, 1), (0, 0, 0)) := by decide +kernel
theorem xr_84_33 : X_row 84 33 = some (33, (.aload_n 0, 1), (0, 0, 0)) := by decide +kernel
theorem xr_84_34 : X_row 84 34 = some (34, (.getfield 22, 3), (5, 3, 6)) := by decide +kernel
theorem xr_84_37 : X_row 84 37 = some (37, (.iload 6, 2), (0, 0, 0)) := by decide +kernel
theorem xr_84_39 : X_row 84 39 = some (39, (.iload_n 3, 1), (0, 0, 0)) := by decide +kernel
theorem xr_84_40 : X_row 84 40 = some (40, (.iastore, 1), (0, 0, 0)) := by decide +kernel
theorem xr_84_41 : X_row 84 41 = some (41, (.aload_n 0, 1), (0, 0, 0)) := by decide +kernel
theorem xr_84_42 : X_row 84 42 = some (42, (.getfield 25, 3), (5, 4, 8)) := by decide +kernel
theorem xr_84_45 : X_row 84 45 = some (45, (.iload 6, 2), (0, 0, 0)) := by decide +kernel
theorem xr_84_47 : X_row 84 47 = some (47, (.iload 4, 2), (0, 0, 0)) := by decide +kernel
theorem xr_84_49 : X_row 84 49 = some (49, (.iastore, 1), (0, 0, 0)) := by decide +kernel
theorem xr_84_50 : X_row 84 50 = some (50, (.aload_n 0, 1), (0, 0, 0)) := by decide +kernel
theorem xr_84_51 : X_row 84 51 = some (51, (.getfield 28, 3), (5, 5, 10)) := by decide +kernel
theorem xr_84_54 : X_row 84 54 = some (54, (.iload 6, 2), (0, 0, 0)) := by decide +kernel
theorem xr_84_56 : X_row 84 56 = some (56, (.iload 5, 2), (0, 0, 0)) := by decide +kernel
theorem xr_84_58 : X_row 84 58 = some (58, (.iastore, 1), (0, 0, 0)) := by decide +kernel
theorem xr_84_59 : X_row 84 59 = some (59, (.iload 4, 2), (0, 0, 0)) := by decide +kernel
theorem xr_84_61 : X_row 84 61 = some (61, (.ifCond .lt 22, 3), (0, 0, 0)) := by decide +kernel
theorem xr_84_64 : X_row 84 64 = some (64, (.iload 5, 2), (0, 0, 0)) := by decide +kernel
theorem xr_84_66 : X_row 84 66 = some (66, (.ifCond .lt 17, 3), (0, 0, 0)) := by decide +kernel
theorem xr_84_69 : X_row 84 69 = some (69, (.aload_n 0, 1), (0, 0, 0)) := by decide +kernel
theorem xr_84_70 : X_row 84 70 = some (70, (.getfield 31, 3), (5, 6, 12)) := by decide +kernel
theorem xr_84_73 : X_row 84 73 = some (73, (.iload 4, 2), (0, 0, 0)) := by decide +kernel
theorem xr_84_75 : X_row 84 75 = some (75, (.iconst 4, 1), (0, 0, 0)) := by decide +kernel
theorem xr_84_76 : X_row 84 76 = some (76, (.imul, 1), (0, 0, 0)) := by decide +kernel
theorem xr_84_77 : X_row 84 77 = some (77, (.iload 5, 2), (0, 0, 0)) := by decide +kernel
theorem xr_84_79 : X_row 84 79 = some (79, (.iadd, 1), (0, 0, 0)) := by decide +kernel
theorem xr_84_80 : X_row 84 80 = some (80, (.iload 6, 2), (0, 0, 0)) := by decide +kernel
theorem xr_84_82 : X_row 84 82 = some (82, (.iastore, 1), (0, 0, 0)) := by decide +kernel
theorem xr_84_83 : X_row 84 83 = some (83, (.aload_n 0, 1), (0, 0, 0)) := by decide +kernel
theorem xr_84_84 : X_row 84 84 = some (84, (.dup, 1), (0, 0, 0)) := by decide +kernel
theorem xr_84_85 : X_row 84 85 = some (85, (.getfield 9, 3), (5, 0, 0)) := by decide +kernel
theorem xr_84_88 : X_row 84 88 = some (88, (.iconst 1, 1), (0, 0, 0)) := by decide +kernel
theorem xr_84_89 : X_row 84 89 = some (89, (.iadd, 1), (0, 0, 0)) := by decide +kernel
theorem xr_84_90 : X_row 84 90 = some (90, (.putfield 9, 3), (5, 0, 0)) := by decide +kernel
theorem xr_84_93 : X_row 84 93 = some (93, (.iload 6, 2), (0, 0, 0)) := by decide +kernel
theorem xr_84_95 : X_row 84 95 = some (95, (.ireturn, 1), (0, 0, 0)) := by decide +kernel
theorem xn_43 : X_nL 43 = 9 := by decide +kernel
theorem xf_43 : X_na 43 = 0 ∧ X_ci 43 = 2 ∧ X_rt 43 = none := by decide +kernel
theorem xn_84 : X_nL 84 = 7 := by decide +kernel
theorem xf_84 : X_na 84 = 5 ∧ X_ci 84 = 5 ∧ X_rt 84 = (some .int) := by decide +kernel
theorem c_add (sc : X_Sc) (S : X_S) (nW : Int → Int) (nF : Int → Int) (nL : Int → Int) (nP : Int → Int) (nH : Int → Int) (nC : Int → Int) (nc : Int) (N : Int → Int → Int) (a : Int) (b : Int) (c : Int) (d : Int) (e : Int) (hO504 : S.1 504 = .inr (5, [.int (iI nc), .ref 505, .ref 506, .ref 507, .ref 508, .ref 509, .ref 510])) (hA505 : S.1 505 = .inl (.int, 30, .inl fun k : Nat => iI (nW (k : Int)))) (hA506 : S.1 506 = .inl (.int, 30, .inl fun k : Nat => iI (nF (k : Int)))) (hA507 : S.1 507 = .inl (.int, 30, .inl fun k : Nat => iI (nL (k : Int)))) (hA508 : S.1 508 = .inl (.int, 30, .inl fun k : Nat => iI (nP (k : Int)))) (hA509 : S.1 509 = .inl (.int, 30, .inl fun k : Nat => iI (nH (k : Int)))) (hA510 : S.1 510 = .inl (.int, 120, .inl fun k : Nat => iI (nC (k : Int)))) (hnc : 0 ≤ nc ∧ nc < 30) (hd : -1 ≤ d ∧ d < 30 ∧ -1 ≤ e ∧ e ≤ 3) (hnd : F_nd nc N nW nF nL nP nH) (hch : F_ch nc N nC) : X_T sc 84 (0, [(0, .ref 504), (1, .int (iI a)), (2, .int (iI b)), (3, .int (iI c)), (4, .int (iI d)), (5, .int (iI e))], [], S) (fun v S' => ∃ (nW1 : Int → Int) (nF1 : Int → Int) (nL1 : Int → Int) (nP1 : Int → Int) (nH1 : Int → Int) (nC1 : Int → Int), v = some (.int (iI nc)) ∧ F_nd (nc + 1) (X_nn N nc a b c d e) nW1 nF1 nL1 nP1 nH1 ∧ F_ch (nc + 1) (X_nn N nc a b c d e) nC1 ∧ S'.1 504 = .inr (5, [.int (iI (nc + 1)), .ref 505, .ref 506, .ref 507, .ref 508, .ref 509, .ref 510]) ∧ S'.1 505 = .inl (.int, 30, .inl fun k : Nat => iI (nW1 (k : Int))) ∧ S'.1 506 = .inl (.int, 30, .inl fun k : Nat => iI (nF1 (k : Int))) ∧ S'.1 507 = .inl (.int, 30, .inl fun k : Nat => iI (nL1 (k : Int))) ∧ S'.1 508 = .inl (.int, 30, .inl fun k : Nat => iI (nP1 (k : Int))) ∧ S'.1 509 = .inl (.int, 30, .inl fun k : Nat => iI (nH1 (k : Int))) ∧ S'.1 510 = .inl (.int, 120, .inl fun k : Nat => iI (nC1 (k : Int))) ∧ (X_Fr (fun q => 504 ≤ q ∧ q ≤ 510) S S')) := by
  refine X_QI (fun Q hQ => ?_)
  refine T_p xr_84_0 xn_84 (pc' := 1) (ls' := [(0, .ref 504), (1, .int (iI a)), (2, .int (iI b)), (3, .int (iI c)), (4, .int (iI d)), (5, .int (iI e))]) (st' := [.ref 504]) rfl ?_
  refine T_get xr_84_1 hO504 rfl (v := .int (iI nc)) rfl (pc' := 4) rfl ?_
  refine T_p xr_84_4 xn_84 (pc' := 6) (ls' := [(0, .ref 504), (1, .int (iI a)), (2, .int (iI b)), (3, .int (iI c)), (4, .int (iI d)), (5, .int (iI e))]) (st' := [.int (iI 30), .int (iI nc)]) rfl ?_
  refine T_zicmp_lt xr_84_6 (t := 11) (pc' := 9) rfl rfl (fun c1326 => ?_) (fun c1326 => ?_)
  · skip
    have c1326 : nc < 30 := c1326
    refine T_p xr_84_11 xn_84 (pc' := 12) (ls' := [(0, .ref 504), (1, .int (iI a)), (2, .int (iI b)), (3, .int (iI c)), (4, .int (iI d)), (5, .int (iI e))]) (st' := [.ref 504]) rfl ?_
    refine T_get xr_84_12 hO504 rfl (v := .int (iI nc)) rfl (pc' := 15) rfl ?_
    refine T_p xr_84_15 xn_84 (pc' := 17) (ls' := [(6, .int (iI nc)), (0, .ref 504), (1, .int (iI a)), (2, .int (iI b)), (3, .int (iI c)), (4, .int (iI d)), (5, .int (iI e))]) (st' := []) rfl ?_
    refine T_p xr_84_17 xn_84 (pc' := 18) (ls' := [(6, .int (iI nc)), (0, .ref 504), (1, .int (iI a)), (2, .int (iI b)), (3, .int (iI c)), (4, .int (iI d)), (5, .int (iI e))]) (st' := [.ref 504]) rfl ?_
    refine T_get xr_84_18 hO504 rfl (v := .ref 505) rfl (pc' := 21) rfl ?_
    refine T_p xr_84_21 xn_84 (pc' := 23) (ls' := [(6, .int (iI nc)), (0, .ref 504), (1, .int (iI a)), (2, .int (iI b)), (3, .int (iI c)), (4, .int (iI d)), (5, .int (iI e))]) (st' := [.int (iI nc), .ref 505]) rfl ?_
    refine T_p xr_84_23 xn_84 (pc' := 24) (ls' := [(6, .int (iI nc)), (0, .ref 504), (1, .int (iI a)), (2, .int (iI b)), (3, .int (iI c)), (4, .int (iI d)), (5, .int (iI e))]) (st' := [.int (iI a), .int (iI nc), .ref 505]) rfl ?_
    refine T_ziast xr_84_24 hA505 (pc' := 25) rfl (fun S1327 h1328 n1329 e1330 => ?_)
    refine T_p xr_84_25 xn_84 (pc' := 26) (ls' := [(6, .int (iI nc)), (0, .ref 504), (1, .int (iI a)), (2, .int (iI b)), (3, .int (iI c)), (4, .int (iI d)), (5, .int (iI e))]) (st' := [.ref 504]) rfl ?_
    have h1331 := (n1329 504 (by decide)).trans (hO504)
    refine T_get xr_84_26 h1331 rfl (v := .ref 506) rfl (pc' := 29) rfl ?_
    refine T_p xr_84_29 xn_84 (pc' := 31) (ls' := [(6, .int (iI nc)), (0, .ref 504), (1, .int (iI a)), (2, .int (iI b)), (3, .int (iI c)), (4, .int (iI d)), (5, .int (iI e))]) (st' := [.int (iI nc), .ref 506]) rfl ?_
    refine T_p xr_84_31 xn_84 (pc' := 32) (ls' := [(6, .int (iI nc)), (0, .ref 504), (1, .int (iI a)), (2, .int (iI b)), (3, .int (iI c)), (4, .int (iI d)), (5, .int (iI e))]) (st' := [.int (iI b), .int (iI nc), .ref 506]) rfl ?_
    have h1332 := (n1329 506 (by decide)).trans (hA506)
    refine T_ziast xr_84_32 h1332 (pc' := 33) rfl (fun S1333 h1334 n1335 e1336 => ?_)
    refine T_p xr_84_33 xn_84 (pc' := 34) (ls' := [(6, .int (iI nc)), (0, .ref 504), (1, .int (iI a)), (2, .int (iI b)), (3, .int (iI c)), (4, .int (iI d)), (5, .int (iI e))]) (st' := [.ref 504]) rfl ?_
    have h1337 := (n1335 504 (by decide)).trans (h1331)
    refine T_get xr_84_34 h1337 rfl (v := .ref 507) rfl (pc' := 37) rfl ?_
    refine T_p xr_84_37 xn_84 (pc' := 39) (ls' := [(6, .int (iI nc)), (0, .ref 504), (1, .int (iI a)), (2, .int (iI b)), (3, .int (iI c)), (4, .int (iI d)), (5, .int (iI e))]) (st' := [.int (iI nc), .ref 507]) rfl ?_
    refine T_p xr_84_39 xn_84 (pc' := 40) (ls' := [(6, .int (iI nc)), (0, .ref 504), (1, .int (iI a)), (2, .int (iI b)), (3, .int (iI c)), (4, .int (iI d)), (5, .int (iI e))]) (st' := [.int (iI c), .int (iI nc), .ref 507]) rfl ?_
    have h1338 := (n1335 507 (by decide)).trans ((n1329 507 (by decide)).trans (hA507))
    refine T_ziast xr_84_40 h1338 (pc' := 41) rfl (fun S1339 h1340 n1341 e1342 => ?_)
    refine T_p xr_84_41 xn_84 (pc' := 42) (ls' := [(6, .int (iI nc)), (0, .ref 504), (1, .int (iI a)), (2, .int (iI b)), (3, .int (iI c)), (4, .int (iI d)), (5, .int (iI e))]) (st' := [.ref 504]) rfl ?_
    have h1343 := (n1341 504 (by decide)).trans (h1337)
    refine T_get xr_84_42 h1343 rfl (v := .ref 508) rfl (pc' := 45) rfl ?_
    refine T_p xr_84_45 xn_84 (pc' := 47) (ls' := [(6, .int (iI nc)), (0, .ref 504), (1, .int (iI a)), (2, .int (iI b)), (3, .int (iI c)), (4, .int (iI d)), (5, .int (iI e))]) (st' := [.int (iI nc), .ref 508]) rfl ?_
    refine T_p xr_84_47 xn_84 (pc' := 49) (ls' := [(6, .int (iI nc)), (0, .ref 504), (1, .int (iI a)), (2, .int (iI b)), (3, .int (iI c)), (4, .int (iI d)), (5, .int (iI e))]) (st' := [.int (iI d), .int (iI nc), .ref 508]) rfl ?_
    have h1344 := (n1341 508 (by decide)).trans ((n1335 508 (by decide)).trans ((n1329 508 (by decide)).trans (hA508)))
    refine T_ziast xr_84_49 h1344 (pc' := 50) rfl (fun S1345 h1346 n1347 e1348 => ?_)
    refine T_p xr_84_50 xn_84 (pc' := 51) (ls' := [(6, .int (iI nc)), (0, .ref 504), (1, .int (iI a)), (2, .int (iI b)), (3, .int (iI c)), (4, .int (iI d)), (5, .int (iI e))]) (st' := [.ref 504]) rfl ?_
    have h1349 := (n1347 504 (by decide)).trans (h1343)
    refine T_get xr_84_51 h1349 rfl (v := .ref 509) rfl (pc' := 54) rfl ?_
    refine T_p xr_84_54 xn_84 (pc' := 56) (ls' := [(6, .int (iI nc)), (0, .ref 504), (1, .int (iI a)), (2, .int (iI b)), (3, .int (iI c)), (4, .int (iI d)), (5, .int (iI e))]) (st' := [.int (iI nc), .ref 509]) rfl ?_
    refine T_p xr_84_56 xn_84 (pc' := 58) (ls' := [(6, .int (iI nc)), (0, .ref 504), (1, .int (iI a)), (2, .int (iI b)), (3, .int (iI c)), (4, .int (iI d)), (5, .int (iI e))]) (st' := [.int (iI e), .int (iI nc), .ref 509]) rfl ?_
    have h1350 := (n1347 509 (by decide)).trans ((n1341 509 (by decide)).trans ((n1335 509 (by decide)).trans ((n1329 509 (by decide)).trans (hA509))))
    refine T_ziast xr_84_58 h1350 (pc' := 59) rfl (fun S1351 h1352 n1353 e1354 => ?_)
    refine T_p xr_84_59 xn_84 (pc' := 61) (ls' := [(6, .int (iI nc)), (0, .ref 504), (1, .int (iI a)), (2, .int (iI b)), (3, .int (iI c)), (4, .int (iI d)), (5, .int (iI e))]) (st' := [.int (iI d)]) rfl ?_
    refine T_zif_lt xr_84_61 (t := 83) (pc' := 64) rfl rfl (fun c1355 => ?_) (fun c1355 => ?_)
    · skip
      have c1355 : d < 0 := c1355
      refine T_p xr_84_83 xn_84 (pc' := 84) (ls' := [(6, .int (iI nc)), (0, .ref 504), (1, .int (iI a)), (2, .int (iI b)), (3, .int (iI c)), (4, .int (iI d)), (5, .int (iI e))]) (st' := [.ref 504]) rfl ?_
      refine T_p xr_84_84 xn_84 (pc' := 85) (ls' := [(6, .int (iI nc)), (0, .ref 504), (1, .int (iI a)), (2, .int (iI b)), (3, .int (iI c)), (4, .int (iI d)), (5, .int (iI e))]) (st' := [.ref 504, .ref 504]) rfl ?_
      have h1356 := (n1353 504 (by decide)).trans (h1349)
      refine T_get xr_84_85 h1356 rfl (v := .int (iI nc)) rfl (pc' := 88) rfl ?_
      refine T_p xr_84_88 xn_84 (pc' := 89) (ls' := [(6, .int (iI nc)), (0, .ref 504), (1, .int (iI a)), (2, .int (iI b)), (3, .int (iI c)), (4, .int (iI d)), (5, .int (iI e))]) (st' := [.int (iI 1), .int (iI nc), .ref 504]) rfl ?_
      refine T_ziadd xr_84_89 (z := nc + 1) rfl (pc' := 90) rfl ?_
      refine T_put xr_84_90 h1356 rfl (Nat.le_of_ble_eq_true rfl) rfl (fs' := [.int (iI (nc + 1)), .ref 505, .ref 506, .ref 507, .ref 508, .ref 509, .ref 510]) rfl (pc' := 93) rfl (fun S1357 h1358 n1359 e1360 => ?_)
      refine T_p xr_84_93 xn_84 (pc' := 95) (ls' := [(6, .int (iI nc)), (0, .ref 504), (1, .int (iI a)), (2, .int (iI b)), (3, .int (iI c)), (4, .int (iI d)), (5, .int (iI e))]) (st' := [.int (iI nc)]) rfl ?_
      refine T_iret xr_84_95 xf_84.2.2 rfl ?_
      refine hQ _ _ ?_
      have h1361 := (n1359 505 (by decide)).trans ((n1353 505 (by decide)).trans ((n1347 505 (by decide)).trans ((n1341 505 (by decide)).trans ((n1335 505 (by decide)).trans (h1328)))))
      have h1362 := (n1359 506 (by decide)).trans ((n1353 506 (by decide)).trans ((n1347 506 (by decide)).trans ((n1341 506 (by decide)).trans (h1334))))
      have h1363 := (n1359 507 (by decide)).trans ((n1353 507 (by decide)).trans ((n1347 507 (by decide)).trans (h1340)))
      have h1364 := (n1359 508 (by decide)).trans ((n1353 508 (by decide)).trans (h1346))
      have h1365 := (n1359 509 (by decide)).trans (h1352)
      have h1366 := (n1359 510 (by decide)).trans ((n1353 510 (by decide)).trans ((n1347 510 (by decide)).trans ((n1341 510 (by decide)).trans ((n1335 510 (by decide)).trans ((n1329 510 (by decide)).trans (hA510))))))
      exact ⟨(X_ug nW nc a), (X_ug nF nc b), (X_ug nL nc c), (X_ug nP nc d), (X_ug nH nc e), nC, rfl, (F_nd.add hnd), (F_ch.add0 hch hnc.1 (by omega)), h1358, h1361, h1362, h1363, h1364, h1365, h1366, ((((((X_Fr.rf).tr (X_Fr.of n1329 e1330 (by first | decide | exact ⟨Nat.le_add_right _ _, Nat.add_le_add_left (by decide) _⟩ | omega))).tr (X_Fr.of n1335 e1336 (by first | decide | exact ⟨Nat.le_add_right _ _, Nat.add_le_add_left (by decide) _⟩ | omega))).tr (X_Fr.of n1341 e1342 (by first | decide | exact ⟨Nat.le_add_right _ _, Nat.add_le_add_left (by decide) _⟩ | omega))).tr (X_Fr.of n1347 e1348 (by first | decide | exact ⟨Nat.le_add_right _ _, Nat.add_le_add_left (by decide) _⟩ | omega))).tr (X_Fr.of n1353 e1354 (by first | decide | exact ⟨Nat.le_add_right _ _, Nat.add_le_add_left (by decide) _⟩ | omega))).tr (X_Fr.of n1359 e1360 (by first | decide | exact ⟨Nat.le_add_right _ _, Nat.add_le_add_left (by decide) _⟩ | omega))⟩
    · skip
      have c1355 : ¬ (d < 0) := c1355
      refine T_p xr_84_64 xn_84 (pc' := 66) (ls' := [(6, .int (iI nc)), (0, .ref 504), (1, .int (iI a)), (2, .int (iI b)), (3, .int (iI c)), (4, .int (iI d)), (5, .int (iI e))]) (st' := [.int (iI e)]) rfl ?_
      refine T_zif_lt xr_84_66 (t := 83) (pc' := 69) rfl rfl (fun c1367 => ?_) (fun c1367 => ?_)
      · skip
        have c1367 : e < 0 := c1367
        refine T_p xr_84_83 xn_84 (pc' := 84) (ls' := [(6, .int (iI nc)), (0, .ref 504), (1, .int (iI a)), (2, .int (iI b)), (3, .int (iI c)), (4, .int (iI d)), (5, .int (iI e))]) (st' := [.ref 504]) rfl ?_
        refine T_p xr_84_84 xn_84 (pc' := 85) (ls' := [(6, .int (iI nc)), (0, .ref 504), (1, .int (iI a)), (2, .int (iI b)), (3, .int (iI c)), (4, .int (iI d)), (5, .int (iI e))]) (st' := [.ref 504, .ref 504]) rfl ?_
        have h1368 := (n1353 504 (by decide)).trans (h1349)
        refine T_get xr_84_85 h1368 rfl (v := .int (iI nc)) rfl (pc' := 88) rfl ?_
        refine T_p xr_84_88 xn_84 (pc' := 89) (ls' := [(6, .int (iI nc)), (0, .ref 504), (1, .int (iI a)), (2, .int (iI b)), (3, .int (iI c)), (4, .int (iI d)), (5, .int (iI e))]) (st' := [.int (iI 1), .int (iI nc), .ref 504]) rfl ?_
        refine T_ziadd xr_84_89 (z := nc + 1) rfl (pc' := 90) rfl ?_
        refine T_put xr_84_90 h1368 rfl (Nat.le_of_ble_eq_true rfl) rfl (fs' := [.int (iI (nc + 1)), .ref 505, .ref 506, .ref 507, .ref 508, .ref 509, .ref 510]) rfl (pc' := 93) rfl (fun S1369 h1370 n1371 e1372 => ?_)
        refine T_p xr_84_93 xn_84 (pc' := 95) (ls' := [(6, .int (iI nc)), (0, .ref 504), (1, .int (iI a)), (2, .int (iI b)), (3, .int (iI c)), (4, .int (iI d)), (5, .int (iI e))]) (st' := [.int (iI nc)]) rfl ?_
        refine T_iret xr_84_95 xf_84.2.2 rfl ?_
        refine hQ _ _ ?_
        have h1373 := (n1371 505 (by decide)).trans ((n1353 505 (by decide)).trans ((n1347 505 (by decide)).trans ((n1341 505 (by decide)).trans ((n1335 505 (by decide)).trans (h1328)))))
        have h1374 := (n1371 506 (by decide)).trans ((n1353 506 (by decide)).trans ((n1347 506 (by decide)).trans ((n1341 506 (by decide)).trans (h1334))))
        have h1375 := (n1371 507 (by decide)).trans ((n1353 507 (by decide)).trans ((n1347 507 (by decide)).trans (h1340)))
        have h1376 := (n1371 508 (by decide)).trans ((n1353 508 (by decide)).trans (h1346))
        have h1377 := (n1371 509 (by decide)).trans (h1352)
        have h1378 := (n1371 510 (by decide)).trans ((n1353 510 (by decide)).trans ((n1347 510 (by decide)).trans ((n1341 510 (by decide)).trans ((n1335 510 (by decide)).trans ((n1329 510 (by decide)).trans (hA510))))))
        exact ⟨(X_ug nW nc a), (X_ug nF nc b), (X_ug nL nc c), (X_ug nP nc d), (X_ug nH nc e), nC, rfl, (F_nd.add hnd), (F_ch.add0 hch hnc.1 (by omega)), h1370, h1373, h1374, h1375, h1376, h1377, h1378, ((((((X_Fr.rf).tr (X_Fr.of n1329 e1330 (by first | decide | exact ⟨Nat.le_add_right _ _, Nat.add_le_add_left (by decide) _⟩ | omega))).tr (X_Fr.of n1335 e1336 (by first | decide | exact ⟨Nat.le_add_right _ _, Nat.add_le_add_left (by decide) _⟩ | omega))).tr (X_Fr.of n1341 e1342 (by first | decide | exact ⟨Nat.le_add_right _ _, Nat.add_le_add_left (by decide) _⟩ | omega))).tr (X_Fr.of n1347 e1348 (by first | decide | exact ⟨Nat.le_add_right _ _, Nat.add_le_add_left (by decide) _⟩ | omega))).tr (X_Fr.of n1353 e1354 (by first | decide | exact ⟨Nat.le_add_right _ _, Nat.add_le_add_left (by decide) _⟩ | omega))).tr (X_Fr.of n1371 e1372 (by first | decide | exact ⟨Nat.le_add_right _ _, Nat.add_le_add_left (by decide) _⟩ | omega))⟩
      · skip
        have c1367 : ¬ (e < 0) := c1367
        refine T_p xr_84_69 xn_84 (pc' := 70) (ls' := [(6, .int (iI nc)), (0, .ref 504), (1, .int (iI a)), (2, .int (iI b)), (3, .int (iI c)), (4, .int (iI d)), (5, .int (iI e))]) (st' := [.ref 504]) rfl ?_
        have h1379 := (n1353 504 (by decide)).trans (h1349)
        refine T_get xr_84_70 h1379 rfl (v := .ref 510) rfl (pc' := 73) rfl ?_
        refine T_p xr_84_73 xn_84 (pc' := 75) (ls' := [(6, .int (iI nc)), (0, .ref 504), (1, .int (iI a)), (2, .int (iI b)), (3, .int (iI c)), (4, .int (iI d)), (5, .int (iI e))]) (st' := [.int (iI d), .ref 510]) rfl ?_
        refine T_p xr_84_75 xn_84 (pc' := 76) (ls' := [(6, .int (iI nc)), (0, .ref 504), (1, .int (iI a)), (2, .int (iI b)), (3, .int (iI c)), (4, .int (iI d)), (5, .int (iI e))]) (st' := [.int (iI 4), .int (iI d), .ref 510]) rfl ?_
        refine T_zimul xr_84_76 (z := d * 4) rfl (pc' := 77) rfl ?_
        refine T_p xr_84_77 xn_84 (pc' := 79) (ls' := [(6, .int (iI nc)), (0, .ref 504), (1, .int (iI a)), (2, .int (iI b)), (3, .int (iI c)), (4, .int (iI d)), (5, .int (iI e))]) (st' := [.int (iI e), .int (iI (d * 4)), .ref 510]) rfl ?_
        refine T_ziadd xr_84_79 (z := (d * 4) + e) rfl (pc' := 80) rfl ?_
        refine T_p xr_84_80 xn_84 (pc' := 82) (ls' := [(6, .int (iI nc)), (0, .ref 504), (1, .int (iI a)), (2, .int (iI b)), (3, .int (iI c)), (4, .int (iI d)), (5, .int (iI e))]) (st' := [.int (iI nc), .int (iI ((d * 4) + e)), .ref 510]) rfl ?_
        have h1380 := (n1353 510 (by decide)).trans ((n1347 510 (by decide)).trans ((n1341 510 (by decide)).trans ((n1335 510 (by decide)).trans ((n1329 510 (by decide)).trans (hA510)))))
        refine T_ziast xr_84_82 h1380 (pc' := 83) rfl (fun S1381 h1382 n1383 e1384 => ?_)
        refine T_p xr_84_83 xn_84 (pc' := 84) (ls' := [(6, .int (iI nc)), (0, .ref 504), (1, .int (iI a)), (2, .int (iI b)), (3, .int (iI c)), (4, .int (iI d)), (5, .int (iI e))]) (st' := [.ref 504]) rfl ?_
        refine T_p xr_84_84 xn_84 (pc' := 85) (ls' := [(6, .int (iI nc)), (0, .ref 504), (1, .int (iI a)), (2, .int (iI b)), (3, .int (iI c)), (4, .int (iI d)), (5, .int (iI e))]) (st' := [.ref 504, .ref 504]) rfl ?_
        have h1385 := (n1383 504 (by decide)).trans (h1379)
        refine T_get xr_84_85 h1385 rfl (v := .int (iI nc)) rfl (pc' := 88) rfl ?_
        refine T_p xr_84_88 xn_84 (pc' := 89) (ls' := [(6, .int (iI nc)), (0, .ref 504), (1, .int (iI a)), (2, .int (iI b)), (3, .int (iI c)), (4, .int (iI d)), (5, .int (iI e))]) (st' := [.int (iI 1), .int (iI nc), .ref 504]) rfl ?_
        refine T_ziadd xr_84_89 (z := nc + 1) rfl (pc' := 90) rfl ?_
        refine T_put xr_84_90 h1385 rfl (Nat.le_of_ble_eq_true rfl) rfl (fs' := [.int (iI (nc + 1)), .ref 505, .ref 506, .ref 507, .ref 508, .ref 509, .ref 510]) rfl (pc' := 93) rfl (fun S1386 h1387 n1388 e1389 => ?_)
        refine T_p xr_84_93 xn_84 (pc' := 95) (ls' := [(6, .int (iI nc)), (0, .ref 504), (1, .int (iI a)), (2, .int (iI b)), (3, .int (iI c)), (4, .int (iI d)), (5, .int (iI e))]) (st' := [.int (iI nc)]) rfl ?_
        refine T_iret xr_84_95 xf_84.2.2 rfl ?_
        refine hQ _ _ ?_
        have h1390 := (n1388 505 (by decide)).trans ((n1383 505 (by decide)).trans ((n1353 505 (by decide)).trans ((n1347 505 (by decide)).trans ((n1341 505 (by decide)).trans ((n1335 505 (by decide)).trans (h1328))))))
        have h1391 := (n1388 506 (by decide)).trans ((n1383 506 (by decide)).trans ((n1353 506 (by decide)).trans ((n1347 506 (by decide)).trans ((n1341 506 (by decide)).trans (h1334)))))
        have h1392 := (n1388 507 (by decide)).trans ((n1383 507 (by decide)).trans ((n1353 507 (by decide)).trans ((n1347 507 (by decide)).trans (h1340))))
        have h1393 := (n1388 508 (by decide)).trans ((n1383 508 (by decide)).trans ((n1353 508 (by decide)).trans (h1346)))
        have h1394 := (n1388 509 (by decide)).trans ((n1383 509 (by decide)).trans (h1352))
        have h1395 := (n1388 510 (by decide)).trans (h1382)
        exact ⟨(X_ug nW nc a), (X_ug nF nc b), (X_ug nL nc c), (X_ug nP nc d), (X_ug nH nc e), (X_ug nC ((d * 4) + e) nc), rfl, (F_nd.add hnd), (F_ch.add hch hnc.1 (by omega) (by omega) rfl), h1387, h1390, h1391, h1392, h1393, h1394, h1395, (((((((X_Fr.rf).tr (X_Fr.of n1329 e1330 (by first | decide | exact ⟨Nat.le_add_right _ _, Nat.add_le_add_left (by decide) _⟩ | omega))).tr (X_Fr.of n1335 e1336 (by first | decide | exact ⟨Nat.le_add_right _ _, Nat.add_le_add_left (by decide) _⟩ | omega))).tr (X_Fr.of n1341 e1342 (by first | decide | exact ⟨Nat.le_add_right _ _, Nat.add_le_add_left (by decide) _⟩ | omega))).tr (X_Fr.of n1347 e1348 (by first | decide | exact ⟨Nat.le_add_right _ _, Nat.add_le_add_left (by decide) _⟩ | omega))).tr (X_Fr.of n1353 e1354 (by first | decide | exact ⟨Nat.le_add_right _ _, Nat.add_le_add_left (by decide) _⟩ | omega))).tr (X_Fr.of n1383 e1384 (by first | decide | exact ⟨Nat.le_add_right _ _, Nat.add_le_add_left (by decide) _⟩ | omega))).tr (X_Fr.of n1388 e1389 (by first | decide | exact ⟨Nat.le_add_right _ _, Nat.add_le_add_left (by decide) _⟩ | omega))⟩
  · skip
    have c1326 : ¬ (nc < 30) := c1326
    exact (show False by omega).elim
set_option maxHeartbeats 3000000 in
theorem c_makeNode (sc : X_Sc) (S : X_S) (oK : Int → Int64) (oW : Int → Int64) (oA : Int → Int64) (oH : Int → Int64) (tl : Int → Int64) (nW : Int → Int) (nF : Int → Int) (nL : Int → Int) (nP : Int → Int) (nH : Int → Int) (nC : Int → Int) (fF : Int → Int) (fE : Int → Int) (fP : Int → Int) (fH : Int → Int) (fW : Int → Int) (fK : Int → Int) (fN : Int → Int64) (hF : Int → Int) (hE : Int → Int) (B : Nat) (rc : Int) (rn : Int → Int64) (kn : Int → Int64) (G : X_G) (tn : Int) (fl : Int) (wt : Int) (nc : Int) (N : Int → Int → Int) (St : Int → X_It) (hO501 : S.1 501 = .inr (6, [.int (iI tn), .ref 502, .ref 503])) (hO511 : S.1 511 = .inr (1, [.ref B, .ref 501, .int (iI fl), .ref 512, .ref 513, .ref 514, .ref 515, .ref 516])) (hO517 : S.1 517 = .inr (2, [.ref 511, .ref 501, .ref 504, .int (iI wt), .ref 518, .ref 519, .ref 520, .ref 521, .ref 522, .ref 523, .ref 524, .ref 525, .ref 526])) (hO504 : S.1 504 = .inr (5, [.int (iI nc), .ref 505, .ref 506, .ref 507, .ref 508, .ref 509, .ref 510])) (hA512 : S.1 512 = .inl (.long, 5115, .inr (.inl fun k : Nat => oK (k : Int)))) (hA513 : S.1 513 = .inl (.long, 13950, .inr (.inl fun k : Nat => oW (k : Int)))) (hA514 : S.1 514 = .inl (.long, 465, .inr (.inl fun k : Nat => oA (k : Int)))) (hA515 : S.1 515 = .inl (.long, 55800, .inr (.inl fun k : Nat => oH (k : Int)))) (hA516 : S.1 516 = .inl (.long, 7200, .inr (.inl fun k : Nat => tl (k : Int)))) (hA505 : S.1 505 = .inl (.int, 30, .inl fun k : Nat => iI (nW (k : Int)))) (hA506 : S.1 506 = .inl (.int, 30, .inl fun k : Nat => iI (nF (k : Int)))) (hA507 : S.1 507 = .inl (.int, 30, .inl fun k : Nat => iI (nL (k : Int)))) (hA508 : S.1 508 = .inl (.int, 30, .inl fun k : Nat => iI (nP (k : Int)))) (hA509 : S.1 509 = .inl (.int, 30, .inl fun k : Nat => iI (nH (k : Int)))) (hA510 : S.1 510 = .inl (.int, 120, .inl fun k : Nat => iI (nC (k : Int)))) (hA518 : S.1 518 = .inl (.int, 30, .inl fun k : Nat => iI (fF (k : Int)))) (hA519 : S.1 519 = .inl (.int, 30, .inl fun k : Nat => iI (fE (k : Int)))) (hA520 : S.1 520 = .inl (.int, 30, .inl fun k : Nat => iI (fP (k : Int)))) (hA521 : S.1 521 = .inl (.int, 30, .inl fun k : Nat => iI (fH (k : Int)))) (hA522 : S.1 522 = .inl (.int, 30, .inl fun k : Nat => iI (fW (k : Int)))) (hA523 : S.1 523 = .inl (.int, 30, .inl fun k : Nat => iI (fK (k : Int)))) (hA524 : S.1 524 = .inl (.long, 30, .inr (.inl fun k : Nat => fN (k : Int)))) (hA525 : S.1 525 = .inl (.int, 4, .inl fun k : Nat => iI (hF (k : Int)))) (hA526 : S.1 526 = .inl (.int, 4, .inl fun k : Nat => iI (hE (k : Int)))) (hB : B = 4 ∨ B = 250) (hb : C_bk S B rc (gk G) (gw G) rn (gl G) kn (ga G)) (hs : C_ws S B (gD G) (gW G)) (hG : X_Gok G) (htn : 0 ≤ tn ∧ tn ≤ 30) (hA502 : S.1 502 = .inl (.long, 30, .inr (.inl fun k : Nat => (gt G) (k : Int)))) (hcht : X_cht G (-2) tn oK oW oA oH) (hM : X_Mok G tn (wt, St, nc, N)) (hwt : 0 < wt) (hst : F_st G wt St fF fE fP fH fW fK fN) (hnd : F_nd nc N nW nF nL nP nH) (hch : F_ch nc N nC) : X_T sc 43 (0, [(0, .ref 517)], [], S) (fun v S' => ∃ (r1 : Int) (St1 : Int → X_It) (N1 : Int → Int → Int) (nW1 : Int → Int) (nF1 : Int → Int) (nL1 : Int → Int) (nP1 : Int → Int) (nH1 : Int → Int) (nC1 : Int → Int) (fF1 : Int → Int) (fE1 : Int → Int) (fP1 : Int → Int) (fH1 : Int → Int) (fW1 : Int → Int) (fK1 : Int → Int) (fN1 : Int → Int64) (tl1 : Int → Int64) (hF1 : Int → Int) (hE1 : Int → Int), v = none ∧ X_mk G (wt, St, nc, N) = (r1, St1, nc + 1, N1) ∧ X_Mok G tn (r1, St1, nc + 1, N1) ∧ F_st G r1 St1 fF1 fE1 fP1 fH1 fW1 fK1 fN1 ∧ F_nd (nc + 1) N1 nW1 nF1 nL1 nP1 nH1 ∧ F_ch (nc + 1) N1 nC1 ∧ S'.1 517 = .inr (2, [.ref 511, .ref 501, .ref 504, .int (iI r1), .ref 518, .ref 519, .ref 520, .ref 521, .ref 522, .ref 523, .ref 524, .ref 525, .ref 526]) ∧ S'.1 504 = .inr (5, [.int (iI (nc + 1)), .ref 505, .ref 506, .ref 507, .ref 508, .ref 509, .ref 510]) ∧ S'.1 505 = .inl (.int, 30, .inl fun k : Nat => iI (nW1 (k : Int))) ∧ S'.1 506 = .inl (.int, 30, .inl fun k : Nat => iI (nF1 (k : Int))) ∧ S'.1 507 = .inl (.int, 30, .inl fun k : Nat => iI (nL1 (k : Int))) ∧ S'.1 508 = .inl (.int, 30, .inl fun k : Nat => iI (nP1 (k : Int))) ∧ S'.1 509 = .inl (.int, 30, .inl fun k : Nat => iI (nH1 (k : Int))) ∧ S'.1 510 = .inl (.int, 120, .inl fun k : Nat => iI (nC1 (k : Int))) ∧ S'.1 518 = .inl (.int, 30, .inl fun k : Nat => iI (fF1 (k : Int))) ∧ S'.1 519 = .inl (.int, 30, .inl fun k : Nat => iI (fE1 (k : Int))) ∧ S'.1 520 = .inl (.int, 30, .inl fun k : Nat => iI (fP1 (k : Int))) ∧ S'.1 521 = .inl (.int, 30, .inl fun k : Nat => iI (fH1 (k : Int))) ∧ S'.1 522 = .inl (.int, 30, .inl fun k : Nat => iI (fW1 (k : Int))) ∧ S'.1 523 = .inl (.int, 30, .inl fun k : Nat => iI (fK1 (k : Int))) ∧ S'.1 524 = .inl (.long, 30, .inr (.inl fun k : Nat => fN1 (k : Int))) ∧ S'.1 516 = .inl (.long, 7200, .inr (.inl fun k : Nat => tl1 (k : Int))) ∧ S'.1 525 = .inl (.int, 4, .inl fun k : Nat => iI (hF1 (k : Int))) ∧ S'.1 526 = .inl (.int, 4, .inl fun k : Nat => iI (hE1 (k : Int))) ∧ (X_Fr (fun q => (504 ≤ q ∧ q ≤ 510) ∨ (516 ≤ q ∧ q ≤ 526)) S S')) := by
  obtain ⟨hb0, hb1, hb2, hb3, hb4, ⟨f, hb5, hf⟩, ⟨hrc, hrcb⟩, ⟨hkc, hkcb⟩, ⟨hwc, hwcb⟩⟩ := id hb
  obtain ⟨⟨i, j, pa, ho, u, o, en, k⟩, hT⟩ : ∃ t : X_It, St (wt - 1) = t := ⟨_, rfl⟩
  have hle := X_Mok.le hM
  have hI := hM.2.2.1 (wt - 1) (show 0 ≤ wt - 1 by omega) (show wt - 1 < wt by omega)
  rw [show (wt, St, nc, N).2.1 (wt - 1) = (i, j, pa, ho, u, o, en, k) from hT] at hI
  have hM1 : 0 ≤ nc := hM.2.1
  have hM2 : nc + (X_Su (X_lw St) 0 wt : Int) ≤ tn := hM.2.2.2
  obtain ⟨hIij, hIp, hIh, hIph, hIu, hIo, hIe, hIk, hIm⟩ := hI
  have hIij : 0 ≤ i ∧ i < j ∧ j ≤ tn := hIij
  have hIp : -1 ≤ pa ∧ pa < nc ∨ pa = -1 := hIp
  have hIh : -1 ≤ ho ∧ ho ≤ 3 := hIh
  have hIk : k < X_Hc G (X_T_ G) u o en i j := hIk
  have hIm : k ≤ 9223372036854775807 := hIm
  have hF := hst (wt - 1) (by omega) (by omega)
  rw [hT] at hF
  obtain ⟨hFi, hFe, hFp, hFh, hFw, hFk, hFn⟩ := hF
  have hFi : fF (wt - 1) = i := hFi
  have hFe : fE (wt - 1) = j := hFe
  have hFp : fP (wt - 1) = pa := hFp
  have hFh : fH (wt - 1) = ho := hFh
  have hFn : fN (wt - 1) = iL (k : Int) := hFn
  have hpad : -1 ≤ pa ∧ pa < 30 := by omega
  refine X_QI (fun Q hQ => ?_)
  refine T_p xr_43_0 xn_43 (pc' := 1) (ls' := [(0, .ref 517)]) (st' := [.ref 517]) rfl ?_
  refine T_p xr_43_1 xn_43 (pc' := 2) (ls' := [(0, .ref 517)]) (st' := [.ref 517, .ref 517]) rfl ?_
  refine T_get xr_43_2 hO517 rfl (v := .int (iI wt)) rfl (pc' := 5) rfl ?_
  refine T_p xr_43_5 xn_43 (pc' := 6) (ls' := [(0, .ref 517)]) (st' := [.int (iI 1), .int (iI wt), .ref 517]) rfl ?_
  refine T_zisub xr_43_6 (z := wt - 1) rfl (pc' := 7) rfl ?_
  refine T_put xr_43_7 hO517 rfl (Nat.le_of_ble_eq_true rfl) rfl (fs' := [.ref 511, .ref 501, .ref 504, .int (iI (wt - 1)), .ref 518, .ref 519, .ref 520, .ref 521, .ref 522, .ref 523, .ref 524, .ref 525, .ref 526]) rfl (pc' := 10) rfl (fun S1396 h1397 n1398 e1399 => ?_)
  refine T_p xr_43_10 xn_43 (pc' := 11) (ls' := [(0, .ref 517)]) (st' := [.ref 517]) rfl ?_
  refine T_get xr_43_11 h1397 rfl (v := .int (iI (wt - 1))) rfl (pc' := 14) rfl ?_
  refine T_p xr_43_14 xn_43 (pc' := 15) (ls' := [(1, .int (iI (wt - 1))), (0, .ref 517)]) (st' := []) rfl ?_
  refine T_p xr_43_15 xn_43 (pc' := 16) (ls' := [(1, .int (iI (wt - 1))), (0, .ref 517)]) (st' := [.ref 517]) rfl ?_
  refine T_get xr_43_16 h1397 rfl (v := .ref 518) rfl (pc' := 19) rfl ?_
  refine T_p xr_43_19 xn_43 (pc' := 20) (ls' := [(1, .int (iI (wt - 1))), (0, .ref 517)]) (st' := [.int (iI (wt - 1)), .ref 518]) rfl ?_
  have h1400 := (n1398 518 (by decide)).trans (hA518)
  refine T_ziald xr_43_20 h1400 (pc' := 21) rfl ?_
  refine T_ie (y := iI i) (by rw [hFi]) ?_
  refine T_p xr_43_21 xn_43 (pc' := 22) (ls' := [(2, .int (iI i)), (1, .int (iI (wt - 1))), (0, .ref 517)]) (st' := []) rfl ?_
  refine T_p xr_43_22 xn_43 (pc' := 23) (ls' := [(2, .int (iI i)), (1, .int (iI (wt - 1))), (0, .ref 517)]) (st' := [.ref 517]) rfl ?_
  refine T_get xr_43_23 h1397 rfl (v := .ref 519) rfl (pc' := 26) rfl ?_
  refine T_p xr_43_26 xn_43 (pc' := 27) (ls' := [(2, .int (iI i)), (1, .int (iI (wt - 1))), (0, .ref 517)]) (st' := [.int (iI (wt - 1)), .ref 519]) rfl ?_
  have h1401 := (n1398 519 (by decide)).trans (hA519)
  refine T_ziald xr_43_27 h1401 (pc' := 28) rfl ?_
  refine T_ie (y := iI j) (by rw [hFe]) ?_
  refine T_p xr_43_28 xn_43 (pc' := 29) (ls' := [(2, .int (iI i)), (1, .int (iI (wt - 1))), (0, .ref 517)]) (st' := [.int (iI i), .int (iI j)]) rfl ?_
  refine T_zisub xr_43_29 (z := j - i) rfl (pc' := 30) rfl ?_
  refine T_p xr_43_30 xn_43 (pc' := 31) (ls' := [(3, .int (iI (j - i))), (2, .int (iI i)), (1, .int (iI (wt - 1))), (0, .ref 517)]) (st' := []) rfl ?_
  refine T_p xr_43_31 xn_43 (pc' := 32) (ls' := [(3, .int (iI (j - i))), (2, .int (iI i)), (1, .int (iI (wt - 1))), (0, .ref 517)]) (st' := [.ref 517]) rfl ?_
  refine T_p xr_43_32 xn_43 (pc' := 33) (ls' := [(3, .int (iI (j - i))), (2, .int (iI i)), (1, .int (iI (wt - 1))), (0, .ref 517)]) (st' := [.int (iI (wt - 1)), .ref 517]) rfl ?_
  refine T_cv (S := S1396) (q := 517) xr_43_33 xf_44.1 xf_44.2.1 xn_44 (as := [.int (iI (wt - 1))]) (r := []) rfl h1397 (Nat.le_of_ble_eq_true rfl) (Nat.le_of_ble_eq_true rfl) (pc' := 36) rfl (ls' := [(0, .ref 517), (1, .int (iI (wt - 1)))]) rfl ?_
  have h1402 := (n1398 512 (by decide)).trans (hA512)
  have h1403 := (n1398 513 (by decide)).trans (hA513)
  have h1404 := (n1398 514 (by decide)).trans (hA514)
  have h1405 := (n1398 515 (by decide)).trans (hA515)
  have h1406 := (n1398 522 (by decide)).trans (hA522)
  have h1407 := (n1398 523 (by decide)).trans (hA523)
  have h1408 := (n1398 524 (by decide)).trans (hA524)
  have h1409 := (n1398 511 (by decide)).trans (hO511)
  have h1410 := (n1398 B (by omega)).trans (hb0)
  have h1411 := (n1398 (B + 1) (by first | exact (fun h => absurd (Nat.add_left_cancel h) (by decide)) | omega)).trans (hb1)
  have h1412 := (n1398 (B + 2) (by first | exact (fun h => absurd (Nat.add_left_cancel h) (by decide)) | omega)).trans (hb2)
  have h1413 := (n1398 (B + 3) (by first | exact (fun h => absurd (Nat.add_left_cancel h) (by decide)) | omega)).trans (hb3)
  have h1414 := (n1398 (B + 4) (by first | exact (fun h => absurd (Nat.add_left_cancel h) (by decide)) | omega)).trans (hb4)
  have h1415 := (n1398 (B + 5) (by first | exact (fun h => absurd (Nat.add_left_cancel h) (by decide)) | omega)).trans (hb5)
  have hs1416 : C_ws S1396 B (gD G) (gW G) := C_ws.fr (P := fun q => 501 ≤ q ∧ q ≤ 529) hs ((X_Fr.rf).tr (X_Fr.of n1398 e1399 (by first | decide | exact ⟨Nat.le_add_right _ _, Nat.add_le_add_left (by decide) _⟩ | omega))) (fun k h1 h2 => by omega)
  refine T_mono (c_chooseWord sc S1396 oK oW oA oH fF fE fW fK fN B rc rn kn G tn fl (wt - 1) (wt - 1) i j u o en k h1409 h1397 h1402 h1403 h1404 h1405 h1400 h1401 h1406 h1407 h1408 hB ⟨h1410, h1411, h1412, h1413, h1414, ⟨f, h1415, hf⟩, ⟨by omega, by omega⟩, ⟨by omega, by omega⟩, ⟨by omega, by omega⟩⟩ hs1416 hG (by omega) (by omega) hFi hFe hFw hFk hFn hIk hIm (hcht i j (by omega) (by omega) (by omega))) (fun v1417 S1418 h1419 => ?_)
  rcases h1419 with ⟨fN1420, hv1421, hp1422, hp1423, ha1424, hf1425⟩ | ⟨v1426, k1427, fN1428, hv1429, hp1430, hp1431, hp1432, hp1433, hp1434, hp1435, hp1436, ha1437, hf1438⟩
  · skip
    rw [hv1421]
    show X_T sc 43 (36, [(3, .int (iI (j - i))), (2, .int (iI i)), (1, .int (iI (wt - 1))), (0, .ref 517)], [.int (iI (-1))], S1418) _
    refine T_p xr_43_36 xn_43 (pc' := 38) (ls' := [(4, .int (iI (-1))), (3, .int (iI (j - i))), (2, .int (iI i)), (1, .int (iI (wt - 1))), (0, .ref 517)]) (st' := []) rfl ?_
    refine T_p xr_43_38 xn_43 (pc' := 40) (ls' := [(4, .int (iI (-1))), (3, .int (iI (j - i))), (2, .int (iI i)), (1, .int (iI (wt - 1))), (0, .ref 517)]) (st' := [.int (iI (-1))]) rfl ?_
    refine T_p xr_43_40 xn_43 (pc' := 41) (ls' := [(4, .int (iI (-1))), (3, .int (iI (j - i))), (2, .int (iI i)), (1, .int (iI (wt - 1))), (0, .ref 517)]) (st' := [.int (iI (-1)), .int (iI (-1))]) rfl ?_
    refine T_zicmp_nef xr_43_41 (t := 58) (pc' := 44) rfl rfl (by decide) ?_
    refine T_p xr_43_44 xn_43 (pc' := 45) (ls' := [(4, .int (iI (-1))), (3, .int (iI (j - i))), (2, .int (iI i)), (1, .int (iI (wt - 1))), (0, .ref 517)]) (st' := [.int (iI (j - i))]) rfl ?_
    refine T_p xr_43_45 xn_43 (pc' := 46) (ls' := [(4, .int (iI (-1))), (3, .int (iI (j - i))), (2, .int (iI i)), (1, .int (iI (wt - 1))), (0, .ref 517)]) (st' := [.int (iI 1), .int (iI (j - i))]) rfl ?_
    refine T_zicmp_ne xr_43_46 (t := 54) (pc' := 49) rfl rfl (fun c1439 => ?_) (fun c1439 => ?_)
    · skip
      have c1439 : ¬ (j - i) = 1 := c1439
      refine T_p xr_43_54 xn_43 (pc' := 56) (ls' := [(4, .int (iI (-1))), (3, .int (iI (j - i))), (2, .int (iI i)), (1, .int (iI (wt - 1))), (0, .ref 517)]) (st' := [.int (iI (-3))]) rfl ?_
      refine T_p xr_43_56 xn_43 (pc' := 58) (ls' := [(4, .int (iI (-3))), (3, .int (iI (j - i))), (2, .int (iI i)), (1, .int (iI (wt - 1))), (0, .ref 517)]) (st' := []) rfl ?_
      refine T_p xr_43_58 xn_43 (pc' := 59) (ls' := [(4, .int (iI (-3))), (3, .int (iI (j - i))), (2, .int (iI i)), (1, .int (iI (wt - 1))), (0, .ref 517)]) (st' := [.ref 517]) rfl ?_
      have h1440 := (hf1425.1 517 (by first | decide | omega)).trans (h1397)
      refine T_get xr_43_59 h1440 rfl (v := .ref 504) rfl (pc' := 62) rfl ?_
      refine T_p xr_43_62 xn_43 (pc' := 64) (ls' := [(4, .int (iI (-3))), (3, .int (iI (j - i))), (2, .int (iI i)), (1, .int (iI (wt - 1))), (0, .ref 517)]) (st' := [.int (iI (-3)), .ref 504]) rfl ?_
      refine T_p xr_43_64 xn_43 (pc' := 65) (ls' := [(4, .int (iI (-3))), (3, .int (iI (j - i))), (2, .int (iI i)), (1, .int (iI (wt - 1))), (0, .ref 517)]) (st' := [.int (iI i), .int (iI (-3)), .ref 504]) rfl ?_
      refine T_p xr_43_65 xn_43 (pc' := 66) (ls' := [(4, .int (iI (-3))), (3, .int (iI (j - i))), (2, .int (iI i)), (1, .int (iI (wt - 1))), (0, .ref 517)]) (st' := [.int (iI (j - i)), .int (iI i), .int (iI (-3)), .ref 504]) rfl ?_
      refine T_p xr_43_66 xn_43 (pc' := 67) (ls' := [(4, .int (iI (-3))), (3, .int (iI (j - i))), (2, .int (iI i)), (1, .int (iI (wt - 1))), (0, .ref 517)]) (st' := [.ref 517, .int (iI (j - i)), .int (iI i), .int (iI (-3)), .ref 504]) rfl ?_
      refine T_get xr_43_67 h1440 rfl (v := .ref 520) rfl (pc' := 70) rfl ?_
      refine T_p xr_43_70 xn_43 (pc' := 71) (ls' := [(4, .int (iI (-3))), (3, .int (iI (j - i))), (2, .int (iI i)), (1, .int (iI (wt - 1))), (0, .ref 517)]) (st' := [.int (iI (wt - 1)), .ref 520, .int (iI (j - i)), .int (iI i), .int (iI (-3)), .ref 504]) rfl ?_
      have h1441 := (hf1425.1 520 (by first | decide | omega)).trans ((n1398 520 (by decide)).trans (hA520))
      refine T_ziald xr_43_71 h1441 (pc' := 72) rfl ?_
      refine T_ie (y := iI pa) (by rw [hFp]) ?_
      refine T_p xr_43_72 xn_43 (pc' := 73) (ls' := [(4, .int (iI (-3))), (3, .int (iI (j - i))), (2, .int (iI i)), (1, .int (iI (wt - 1))), (0, .ref 517)]) (st' := [.ref 517, .int (iI pa), .int (iI (j - i)), .int (iI i), .int (iI (-3)), .ref 504]) rfl ?_
      refine T_get xr_43_73 h1440 rfl (v := .ref 521) rfl (pc' := 76) rfl ?_
      refine T_p xr_43_76 xn_43 (pc' := 77) (ls' := [(4, .int (iI (-3))), (3, .int (iI (j - i))), (2, .int (iI i)), (1, .int (iI (wt - 1))), (0, .ref 517)]) (st' := [.int (iI (wt - 1)), .ref 521, .int (iI pa), .int (iI (j - i)), .int (iI i), .int (iI (-3)), .ref 504]) rfl ?_
      have h1442 := (hf1425.1 521 (by first | decide | omega)).trans ((n1398 521 (by decide)).trans (hA521))
      refine T_ziald xr_43_77 h1442 (pc' := 78) rfl ?_
      refine T_ie (y := iI ho) (by rw [hFh]) ?_
      have h1443 := (hf1425.1 504 (by first | decide | omega)).trans ((n1398 504 (by decide)).trans (hO504))
      refine T_cv (S := S1418) (q := 504) xr_43_78 xf_84.1 xf_84.2.1 xn_84 (as := [.int (iI (-3)), .int (iI i), .int (iI (j - i)), .int (iI pa), .int (iI ho)]) (r := []) rfl h1443 (Nat.le_of_ble_eq_true rfl) (Nat.le_of_ble_eq_true rfl) (pc' := 81) rfl (ls' := [(0, .ref 504), (1, .int (iI (-3))), (2, .int (iI i)), (3, .int (iI (j - i))), (4, .int (iI pa)), (5, .int (iI ho))]) rfl ?_
      have h1444 := (hf1425.1 505 (by first | decide | omega)).trans ((n1398 505 (by decide)).trans (hA505))
      have h1445 := (hf1425.1 506 (by first | decide | omega)).trans ((n1398 506 (by decide)).trans (hA506))
      have h1446 := (hf1425.1 507 (by first | decide | omega)).trans ((n1398 507 (by decide)).trans (hA507))
      have h1447 := (hf1425.1 508 (by first | decide | omega)).trans ((n1398 508 (by decide)).trans (hA508))
      have h1448 := (hf1425.1 509 (by first | decide | omega)).trans ((n1398 509 (by decide)).trans (hA509))
      have h1449 := (hf1425.1 510 (by first | decide | omega)).trans ((n1398 510 (by decide)).trans (hA510))
      refine T_mono (c_add sc S1418 nW nF nL nP nH nC nc N (-3) i (j - i) pa ho h1443 h1444 h1445 h1446 h1447 h1448 h1449 (by omega) (by omega) hnd hch) (fun v1450 S1451 h1452 => ?_)
      rcases h1452 with ⟨nW1453, nF1454, nL1455, nP1456, nH1457, nC1458, hv1459, hp1460, hp1461, ho1462, ha1463, ha1464, ha1465, ha1466, ha1467, ha1468, hf1469⟩
      rw [hv1459]
      show X_T sc 43 (81, [(4, .int (iI (-3))), (3, .int (iI (j - i))), (2, .int (iI i)), (1, .int (iI (wt - 1))), (0, .ref 517)], [.int (iI nc)], S1451) _
      refine T_p xr_43_81 xn_43 (pc' := 83) (ls' := [(5, .int (iI nc)), (4, .int (iI (-3))), (3, .int (iI (j - i))), (2, .int (iI i)), (1, .int (iI (wt - 1))), (0, .ref 517)]) (st' := []) rfl ?_
      refine T_p xr_43_83 xn_43 (pc' := 85) (ls' := [(5, .int (iI nc)), (4, .int (iI (-3))), (3, .int (iI (j - i))), (2, .int (iI i)), (1, .int (iI (wt - 1))), (0, .ref 517)]) (st' := [.int (iI (-3))]) rfl ?_
      refine T_zif_ltt xr_43_85 (t := 128) rfl (by decide) ?_
      refine T_p xr_43_128 xn_43 (pc' := 130) (ls' := [(5, .int (iI nc)), (4, .int (iI (-3))), (3, .int (iI (j - i))), (2, .int (iI i)), (1, .int (iI (wt - 1))), (0, .ref 517)]) (st' := [.int (iI (-3))]) rfl ?_
      refine T_p xr_43_130 xn_43 (pc' := 132) (ls' := [(5, .int (iI nc)), (4, .int (iI (-3))), (3, .int (iI (j - i))), (2, .int (iI i)), (1, .int (iI (wt - 1))), (0, .ref 517)]) (st' := [.int (iI (-3)), .int (iI (-3))]) rfl ?_
      refine T_zicmp_nef xr_43_132 (t := 186) (pc' := 135) rfl rfl (by decide) ?_
      refine T_p xr_43_135 xn_43 (pc' := 136) (ls' := [(5, .int (iI nc)), (4, .int (iI (-3))), (3, .int (iI (j - i))), (2, .int (iI i)), (1, .int (iI (wt - 1))), (0, .ref 517)]) (st' := [.ref 517]) rfl ?_
      have h1470 := (hf1469.1 517 (by first | decide | omega)).trans (h1440)
      refine T_get xr_43_136 h1470 rfl (v := .ref 523) rfl (pc' := 139) rfl ?_
      refine T_p xr_43_139 xn_43 (pc' := 140) (ls' := [(5, .int (iI nc)), (4, .int (iI (-3))), (3, .int (iI (j - i))), (2, .int (iI i)), (1, .int (iI (wt - 1))), (0, .ref 517)]) (st' := [.int (iI (wt - 1)), .ref 523]) rfl ?_
      have h1471 := (hf1469.1 523 (by first | decide | omega)).trans ((hf1425.1 523 (by first | decide | omega)).trans (h1407))
      refine T_ziald xr_43_140 h1471 (pc' := 141) rfl ?_
      refine T_p xr_43_141 xn_43 (pc' := 143) (ls' := [(6, .int (iI (fK (wt - 1)))), (5, .int (iI nc)), (4, .int (iI (-3))), (3, .int (iI (j - i))), (2, .int (iI i)), (1, .int (iI (wt - 1))), (0, .ref 517)]) (st' := []) rfl ?_
      refine T_p xr_43_143 xn_43 (pc' := 144) (ls' := [(6, .int (iI (fK (wt - 1)))), (5, .int (iI nc)), (4, .int (iI (-3))), (3, .int (iI (j - i))), (2, .int (iI i)), (1, .int (iI (wt - 1))), (0, .ref 517)]) (st' := [.ref 517]) rfl ?_
      refine T_get xr_43_144 h1470 rfl (v := .ref 524) rfl (pc' := 147) rfl ?_
      refine T_p xr_43_147 xn_43 (pc' := 148) (ls' := [(6, .int (iI (fK (wt - 1)))), (5, .int (iI nc)), (4, .int (iI (-3))), (3, .int (iI (j - i))), (2, .int (iI i)), (1, .int (iI (wt - 1))), (0, .ref 517)]) (st' := [.int (iI (wt - 1)), .ref 524]) rfl ?_
      have h1472 := (hf1469.1 524 (by first | decide | omega)).trans (ha1424)
      refine T_zlald xr_43_148 h1472 (pc' := 149) rfl ?_
      refine T_le (y := (iL (k : Int))) (by rw [hp1423, hFn]) ?_
      refine T_p xr_43_149 xn_43 (pc' := 151) (ls' := [(7, .long (iL (k : Int))), (6, .int (iI (fK (wt - 1)))), (5, .int (iI nc)), (4, .int (iI (-3))), (3, .int (iI (j - i))), (2, .int (iI i)), (1, .int (iI (wt - 1))), (0, .ref 517)]) (st' := []) rfl ?_
      refine T_p xr_43_151 xn_43 (pc' := 152) (ls' := [(7, .long (iL (k : Int))), (6, .int (iI (fK (wt - 1)))), (5, .int (iI nc)), (4, .int (iI (-3))), (3, .int (iI (j - i))), (2, .int (iI i)), (1, .int (iI (wt - 1))), (0, .ref 517)]) (st' := [.ref 517]) rfl ?_
      refine T_p xr_43_152 xn_43 (pc' := 153) (ls' := [(7, .long (iL (k : Int))), (6, .int (iI (fK (wt - 1)))), (5, .int (iI nc)), (4, .int (iI (-3))), (3, .int (iI (j - i))), (2, .int (iI i)), (1, .int (iI (wt - 1))), (0, .ref 517)]) (st' := [.int (iI i), .ref 517]) rfl ?_
      refine T_p xr_43_153 xn_43 (pc' := 154) (ls' := [(7, .long (iL (k : Int))), (6, .int (iI (fK (wt - 1)))), (5, .int (iI nc)), (4, .int (iI (-3))), (3, .int (iI (j - i))), (2, .int (iI i)), (1, .int (iI (wt - 1))), (0, .ref 517)]) (st' := [.int (iI 1), .int (iI i), .ref 517]) rfl ?_
      refine T_ziadd xr_43_154 (z := i + 1) rfl (pc' := 155) rfl ?_
      refine T_p xr_43_155 xn_43 (pc' := 156) (ls' := [(7, .long (iL (k : Int))), (6, .int (iI (fK (wt - 1)))), (5, .int (iI nc)), (4, .int (iI (-3))), (3, .int (iI (j - i))), (2, .int (iI i)), (1, .int (iI (wt - 1))), (0, .ref 517)]) (st' := [.int (iI i), .int (iI (i + 1)), .ref 517]) rfl ?_
      refine T_p xr_43_156 xn_43 (pc' := 157) (ls' := [(7, .long (iL (k : Int))), (6, .int (iI (fK (wt - 1)))), (5, .int (iI nc)), (4, .int (iI (-3))), (3, .int (iI (j - i))), (2, .int (iI i)), (1, .int (iI (wt - 1))), (0, .ref 517)]) (st' := [.int (iI (j - i)), .int (iI i), .int (iI (i + 1)), .ref 517]) rfl ?_
      refine T_ziadd xr_43_157 (z := i + (j - i)) rfl (pc' := 158) rfl ?_
      refine T_p xr_43_158 xn_43 (pc' := 159) (ls' := [(7, .long (iL (k : Int))), (6, .int (iI (fK (wt - 1)))), (5, .int (iI nc)), (4, .int (iI (-3))), (3, .int (iI (j - i))), (2, .int (iI i)), (1, .int (iI (wt - 1))), (0, .ref 517)]) (st' := [.int (iI 1), .int (iI (i + (j - i))), .int (iI (i + 1)), .ref 517]) rfl ?_
      refine T_zisub xr_43_159 (z := (i + (j - i)) - 1) rfl (pc' := 160) rfl ?_
      refine T_ie (y := iI (j - 1)) (by congr 1; omega) ?_
      refine T_p xr_43_160 xn_43 (pc' := 162) (ls' := [(7, .long (iL (k : Int))), (6, .int (iI (fK (wt - 1)))), (5, .int (iI nc)), (4, .int (iI (-3))), (3, .int (iI (j - i))), (2, .int (iI i)), (1, .int (iI (wt - 1))), (0, .ref 517)]) (st' := [.int (iI nc), .int (iI (j - 1)), .int (iI (i + 1)), .ref 517]) rfl ?_
      refine T_p xr_43_162 xn_43 (pc' := 163) (ls' := [(7, .long (iL (k : Int))), (6, .int (iI (fK (wt - 1)))), (5, .int (iI nc)), (4, .int (iI (-3))), (3, .int (iI (j - i))), (2, .int (iI i)), (1, .int (iI (wt - 1))), (0, .ref 517)]) (st' := [.int (iI 0), .int (iI nc), .int (iI (j - 1)), .int (iI (i + 1)), .ref 517]) rfl ?_
      refine T_cv (S := S1451) (q := 517) xr_43_163 xf_41.1 xf_41.2.1 xn_41 (as := [.int (iI (i + 1)), .int (iI (j - 1)), .int (iI nc), .int (iI 0)]) (r := []) rfl h1470 (Nat.le_of_ble_eq_true rfl) (Nat.le_of_ble_eq_true rfl) (pc' := 166) rfl (ls' := [(0, .ref 517), (1, .int (iI (i + 1))), (2, .int (iI (j - 1))), (3, .int (iI nc)), (4, .int (iI 0))]) rfl ?_
      refine T_p xr_41_0 xn_41 (pc' := 1) (ls' := [(0, .ref 517), (1, .int (iI (i + 1))), (2, .int (iI (j - 1))), (3, .int (iI nc)), (4, .int (iI 0))]) (st' := [.ref 517]) rfl ?_
      refine T_get xr_41_1 h1470 rfl (v := .int (iI (wt - 1))) rfl (pc' := 4) rfl ?_
      refine T_p xr_41_4 xn_41 (pc' := 6) (ls' := [(0, .ref 517), (1, .int (iI (i + 1))), (2, .int (iI (j - 1))), (3, .int (iI nc)), (4, .int (iI 0))]) (st' := [.int (iI 30), .int (iI (wt - 1))]) rfl ?_
      refine T_zicmp_ge xr_41_6 (t := 60) (pc' := 9) rfl rfl (fun c1473 => ?_) (fun c1473 => ?_)
      · skip
        have c1473 : 30 ≤ (wt - 1) := c1473
        exact (show False by omega).elim
      · skip
        have c1473 : ¬ (30 ≤ (wt - 1)) := c1473
        refine T_p xr_41_9 xn_41 (pc' := 10) (ls' := [(0, .ref 517), (1, .int (iI (i + 1))), (2, .int (iI (j - 1))), (3, .int (iI nc)), (4, .int (iI 0))]) (st' := [.ref 517]) rfl ?_
        refine T_get xr_41_10 h1470 rfl (v := .ref 518) rfl (pc' := 13) rfl ?_
        refine T_p xr_41_13 xn_41 (pc' := 14) (ls' := [(0, .ref 517), (1, .int (iI (i + 1))), (2, .int (iI (j - 1))), (3, .int (iI nc)), (4, .int (iI 0))]) (st' := [.ref 517, .ref 518]) rfl ?_
        refine T_get xr_41_14 h1470 rfl (v := .int (iI (wt - 1))) rfl (pc' := 17) rfl ?_
        refine T_p xr_41_17 xn_41 (pc' := 18) (ls' := [(0, .ref 517), (1, .int (iI (i + 1))), (2, .int (iI (j - 1))), (3, .int (iI nc)), (4, .int (iI 0))]) (st' := [.int (iI (i + 1)), .int (iI (wt - 1)), .ref 518]) rfl ?_
        have h1474 := (hf1469.1 518 (by first | decide | omega)).trans ((hf1425.1 518 (by first | decide | omega)).trans (h1400))
        refine T_ziast xr_41_18 h1474 (pc' := 19) rfl (fun S1475 h1476 n1477 e1478 => ?_)
        refine T_p xr_41_19 xn_41 (pc' := 20) (ls' := [(0, .ref 517), (1, .int (iI (i + 1))), (2, .int (iI (j - 1))), (3, .int (iI nc)), (4, .int (iI 0))]) (st' := [.ref 517]) rfl ?_
        have h1479 := (n1477 517 (by decide)).trans (h1470)
        refine T_get xr_41_20 h1479 rfl (v := .ref 519) rfl (pc' := 23) rfl ?_
        refine T_p xr_41_23 xn_41 (pc' := 24) (ls' := [(0, .ref 517), (1, .int (iI (i + 1))), (2, .int (iI (j - 1))), (3, .int (iI nc)), (4, .int (iI 0))]) (st' := [.ref 517, .ref 519]) rfl ?_
        refine T_get xr_41_24 h1479 rfl (v := .int (iI (wt - 1))) rfl (pc' := 27) rfl ?_
        refine T_p xr_41_27 xn_41 (pc' := 28) (ls' := [(0, .ref 517), (1, .int (iI (i + 1))), (2, .int (iI (j - 1))), (3, .int (iI nc)), (4, .int (iI 0))]) (st' := [.int (iI (j - 1)), .int (iI (wt - 1)), .ref 519]) rfl ?_
        have h1480 := (n1477 519 (by decide)).trans ((hf1469.1 519 (by first | decide | omega)).trans ((hf1425.1 519 (by first | decide | omega)).trans (h1401)))
        refine T_ziast xr_41_28 h1480 (pc' := 29) rfl (fun S1481 h1482 n1483 e1484 => ?_)
        refine T_p xr_41_29 xn_41 (pc' := 30) (ls' := [(0, .ref 517), (1, .int (iI (i + 1))), (2, .int (iI (j - 1))), (3, .int (iI nc)), (4, .int (iI 0))]) (st' := [.ref 517]) rfl ?_
        have h1485 := (n1483 517 (by decide)).trans (h1479)
        refine T_get xr_41_30 h1485 rfl (v := .ref 520) rfl (pc' := 33) rfl ?_
        refine T_p xr_41_33 xn_41 (pc' := 34) (ls' := [(0, .ref 517), (1, .int (iI (i + 1))), (2, .int (iI (j - 1))), (3, .int (iI nc)), (4, .int (iI 0))]) (st' := [.ref 517, .ref 520]) rfl ?_
        refine T_get xr_41_34 h1485 rfl (v := .int (iI (wt - 1))) rfl (pc' := 37) rfl ?_
        refine T_p xr_41_37 xn_41 (pc' := 38) (ls' := [(0, .ref 517), (1, .int (iI (i + 1))), (2, .int (iI (j - 1))), (3, .int (iI nc)), (4, .int (iI 0))]) (st' := [.int (iI nc), .int (iI (wt - 1)), .ref 520]) rfl ?_
        have h1486 := (n1483 520 (by decide)).trans ((n1477 520 (by decide)).trans ((hf1469.1 520 (by first | decide | omega)).trans (h1441)))
        refine T_ziast xr_41_38 h1486 (pc' := 39) rfl (fun S1487 h1488 n1489 e1490 => ?_)
        refine T_p xr_41_39 xn_41 (pc' := 40) (ls' := [(0, .ref 517), (1, .int (iI (i + 1))), (2, .int (iI (j - 1))), (3, .int (iI nc)), (4, .int (iI 0))]) (st' := [.ref 517]) rfl ?_
        have h1491 := (n1489 517 (by decide)).trans (h1485)
        refine T_get xr_41_40 h1491 rfl (v := .ref 521) rfl (pc' := 43) rfl ?_
        refine T_p xr_41_43 xn_41 (pc' := 44) (ls' := [(0, .ref 517), (1, .int (iI (i + 1))), (2, .int (iI (j - 1))), (3, .int (iI nc)), (4, .int (iI 0))]) (st' := [.ref 517, .ref 521]) rfl ?_
        refine T_get xr_41_44 h1491 rfl (v := .int (iI (wt - 1))) rfl (pc' := 47) rfl ?_
        refine T_p xr_41_47 xn_41 (pc' := 49) (ls' := [(0, .ref 517), (1, .int (iI (i + 1))), (2, .int (iI (j - 1))), (3, .int (iI nc)), (4, .int (iI 0))]) (st' := [.int (iI 0), .int (iI (wt - 1)), .ref 521]) rfl ?_
        have h1492 := (n1489 521 (by decide)).trans ((n1483 521 (by decide)).trans ((n1477 521 (by decide)).trans ((hf1469.1 521 (by first | decide | omega)).trans (h1442))))
        refine T_ziast xr_41_49 h1492 (pc' := 50) rfl (fun S1493 h1494 n1495 e1496 => ?_)
        refine T_p xr_41_50 xn_41 (pc' := 51) (ls' := [(0, .ref 517), (1, .int (iI (i + 1))), (2, .int (iI (j - 1))), (3, .int (iI nc)), (4, .int (iI 0))]) (st' := [.ref 517]) rfl ?_
        refine T_p xr_41_51 xn_41 (pc' := 52) (ls' := [(0, .ref 517), (1, .int (iI (i + 1))), (2, .int (iI (j - 1))), (3, .int (iI nc)), (4, .int (iI 0))]) (st' := [.ref 517, .ref 517]) rfl ?_
        have h1497 := (n1495 517 (by decide)).trans (h1491)
        refine T_get xr_41_52 h1497 rfl (v := .int (iI (wt - 1))) rfl (pc' := 55) rfl ?_
        refine T_p xr_41_55 xn_41 (pc' := 56) (ls' := [(0, .ref 517), (1, .int (iI (i + 1))), (2, .int (iI (j - 1))), (3, .int (iI nc)), (4, .int (iI 0))]) (st' := [.int (iI 1), .int (iI (wt - 1)), .ref 517]) rfl ?_
        refine T_ziadd xr_41_56 (z := wt) (by omega) (pc' := 57) rfl ?_
        refine T_put xr_41_57 h1497 rfl (Nat.le_of_ble_eq_true rfl) rfl (fs' := [.ref 511, .ref 501, .ref 504, .int (iI wt), .ref 518, .ref 519, .ref 520, .ref 521, .ref 522, .ref 523, .ref 524, .ref 525, .ref 526]) rfl (pc' := 60) rfl (fun S1498 h1499 n1500 e1501 => ?_)
        refine T_vret xr_41_60 xf_41.2.2 ?_
        show X_T sc 43 (166, [(7, .long (iL (k : Int))), (6, .int (iI (fK (wt - 1)))), (5, .int (iI nc)), (4, .int (iI (-3))), (3, .int (iI (j - i))), (2, .int (iI i)), (1, .int (iI (wt - 1))), (0, .ref 517)], [], S1498) _
        refine T_p xr_43_166 xn_43 (pc' := 167) (ls' := [(7, .long (iL (k : Int))), (6, .int (iI (fK (wt - 1)))), (5, .int (iI nc)), (4, .int (iI (-3))), (3, .int (iI (j - i))), (2, .int (iI i)), (1, .int (iI (wt - 1))), (0, .ref 517)]) (st' := [.ref 517]) rfl ?_
        refine T_p xr_43_167 xn_43 (pc' := 168) (ls' := [(7, .long (iL (k : Int))), (6, .int (iI (fK (wt - 1)))), (5, .int (iI nc)), (4, .int (iI (-3))), (3, .int (iI (j - i))), (2, .int (iI i)), (1, .int (iI (wt - 1))), (0, .ref 517)]) (st' := [.ref 517, .ref 517]) rfl ?_
        refine T_get xr_43_168 h1499 rfl (v := .ref 511) rfl (pc' := 171) rfl ?_
        have h1502 := (n1500 511 (by decide)).trans ((n1495 511 (by decide)).trans ((n1489 511 (by decide)).trans ((n1483 511 (by decide)).trans ((n1477 511 (by decide)).trans ((hf1469.1 511 (by first | decide | omega)).trans ((hf1425.1 511 (by first | decide | omega)).trans (h1409)))))))
        refine T_get xr_43_171 h1502 rfl (v := .ref B) rfl (pc' := 174) rfl ?_
        refine T_p xr_43_174 xn_43 (pc' := 176) (ls' := [(7, .long (iL (k : Int))), (6, .int (iI (fK (wt - 1)))), (5, .int (iI nc)), (4, .int (iI (-3))), (3, .int (iI (j - i))), (2, .int (iI i)), (1, .int (iI (wt - 1))), (0, .ref 517)]) (st' := [.int (iI (fK (wt - 1))), .ref B, .ref 517]) rfl ?_
        have h1503 := (n1500 B (by omega)).trans ((n1495 B (by omega)).trans ((n1489 B (by omega)).trans ((n1483 B (by omega)).trans ((n1477 B (by omega)).trans ((hf1469.1 B (by omega)).trans ((hf1425.1 B (by omega)).trans (h1410)))))))
        refine T_cv (S := S1498) (q := B) xr_43_176 xf_15.1 xf_15.2.1 xn_15 (as := [.int (iI (fK (wt - 1)))]) (r := [.ref 517]) rfl h1503 (Nat.le_of_ble_eq_true rfl) (Nat.le_of_ble_eq_true rfl) (pc' := 179) rfl (ls' := [(0, .ref B), (1, .int (iI (fK (wt - 1))))]) rfl ?_
        have hs1511 : C_ws S1498 B (gD G) (gW G) := C_ws.fr (P := fun q => 501 ≤ q ∧ q ≤ 529) hs1416 ((((((((X_Fr.rf).tr (X_Fr.mono ⟨hf1425.1, hf1425.2⟩ (fun q hq => (by omega)))).tr (X_Fr.mono ⟨hf1469.1, hf1469.2⟩ (fun q hq => (by omega)))).tr (X_Fr.of n1477 e1478 (by first | decide | exact ⟨Nat.le_add_right _ _, Nat.add_le_add_left (by decide) _⟩ | omega))).tr (X_Fr.of n1483 e1484 (by first | decide | exact ⟨Nat.le_add_right _ _, Nat.add_le_add_left (by decide) _⟩ | omega))).tr (X_Fr.of n1489 e1490 (by first | decide | exact ⟨Nat.le_add_right _ _, Nat.add_le_add_left (by decide) _⟩ | omega))).tr (X_Fr.of n1495 e1496 (by first | decide | exact ⟨Nat.le_add_right _ _, Nat.add_le_add_left (by decide) _⟩ | omega))).tr (X_Fr.of n1500 e1501 (by first | decide | exact ⟨Nat.le_add_right _ _, Nat.add_le_add_left (by decide) _⟩ | omega))) (fun k h1 h2 => by omega)
        have h1512 := (n1500 (B + 1) (by first | exact (fun h => absurd (Nat.add_left_cancel h) (by decide)) | omega)).trans ((n1495 (B + 1) (by first | exact (fun h => absurd (Nat.add_left_cancel h) (by decide)) | omega)).trans ((n1489 (B + 1) (by first | exact (fun h => absurd (Nat.add_left_cancel h) (by decide)) | omega)).trans ((n1483 (B + 1) (by first | exact (fun h => absurd (Nat.add_left_cancel h) (by decide)) | omega)).trans ((n1477 (B + 1) (by first | exact (fun h => absurd (Nat.add_left_cancel h) (by decide)) | omega)).trans ((hf1469.1 (B + 1) (by omega)).trans ((hf1425.1 (B + 1) (by omega)).trans (h1411)))))))
        have h1513 := (n1500 (B + 2) (by first | exact (fun h => absurd (Nat.add_left_cancel h) (by decide)) | omega)).trans ((n1495 (B + 2) (by first | exact (fun h => absurd (Nat.add_left_cancel h) (by decide)) | omega)).trans ((n1489 (B + 2) (by first | exact (fun h => absurd (Nat.add_left_cancel h) (by decide)) | omega)).trans ((n1483 (B + 2) (by first | exact (fun h => absurd (Nat.add_left_cancel h) (by decide)) | omega)).trans ((n1477 (B + 2) (by first | exact (fun h => absurd (Nat.add_left_cancel h) (by decide)) | omega)).trans ((hf1469.1 (B + 2) (by omega)).trans ((hf1425.1 (B + 2) (by omega)).trans (h1412)))))))
        have h1514 := (n1500 (B + 3) (by first | exact (fun h => absurd (Nat.add_left_cancel h) (by decide)) | omega)).trans ((n1495 (B + 3) (by first | exact (fun h => absurd (Nat.add_left_cancel h) (by decide)) | omega)).trans ((n1489 (B + 3) (by first | exact (fun h => absurd (Nat.add_left_cancel h) (by decide)) | omega)).trans ((n1483 (B + 3) (by first | exact (fun h => absurd (Nat.add_left_cancel h) (by decide)) | omega)).trans ((n1477 (B + 3) (by first | exact (fun h => absurd (Nat.add_left_cancel h) (by decide)) | omega)).trans ((hf1469.1 (B + 3) (by omega)).trans ((hf1425.1 (B + 3) (by omega)).trans (h1413)))))))
        have h1515 := (n1500 (B + 4) (by first | exact (fun h => absurd (Nat.add_left_cancel h) (by decide)) | omega)).trans ((n1495 (B + 4) (by first | exact (fun h => absurd (Nat.add_left_cancel h) (by decide)) | omega)).trans ((n1489 (B + 4) (by first | exact (fun h => absurd (Nat.add_left_cancel h) (by decide)) | omega)).trans ((n1483 (B + 4) (by first | exact (fun h => absurd (Nat.add_left_cancel h) (by decide)) | omega)).trans ((n1477 (B + 4) (by first | exact (fun h => absurd (Nat.add_left_cancel h) (by decide)) | omega)).trans ((hf1469.1 (B + 4) (by omega)).trans ((hf1425.1 (B + 4) (by omega)).trans (h1414)))))))
        have h1516 := (n1500 (B + 5) (by first | exact (fun h => absurd (Nat.add_left_cancel h) (by decide)) | omega)).trans ((n1495 (B + 5) (by first | exact (fun h => absurd (Nat.add_left_cancel h) (by decide)) | omega)).trans ((n1489 (B + 5) (by first | exact (fun h => absurd (Nat.add_left_cancel h) (by decide)) | omega)).trans ((n1483 (B + 5) (by first | exact (fun h => absurd (Nat.add_left_cancel h) (by decide)) | omega)).trans ((n1477 (B + 5) (by first | exact (fun h => absurd (Nat.add_left_cancel h) (by decide)) | omega)).trans ((hf1469.1 (B + 5) (by omega)).trans ((hf1425.1 (B + 5) (by omega)).trans (h1415)))))))
        refine T_mono (c_wordsOfKinds sc S1498 B rc (gk G) (gw G) rn (gl G) kn (ga G) (gD G) (gW G) (fK (wt - 1)) ⟨h1503, h1512, h1513, h1514, h1515, ⟨f, h1516, hf⟩, ⟨by omega, by omega⟩, ⟨by omega, by omega⟩, ⟨by omega, by omega⟩⟩ hs1511) (fun v1504 S1505 h1506 => ?_)
        obtain ⟨r1507, h1508, hx1509, h1510⟩ := h1506
        rw [h1508, h1510]
        show X_T sc 43 (179, [(7, .long (iL (k : Int))), (6, .int (iI (fK (wt - 1)))), (5, .int (iI nc)), (4, .int (iI (-3))), (3, .int (iI (j - i))), (2, .int (iI i)), (1, .int (iI (wt - 1))), (0, .ref 517)], [.int (iI r1507), .ref 517], S1498) _
        refine T_p xr_43_179 xn_43 (pc' := 181) (ls' := [(7, .long (iL (k : Int))), (6, .int (iI (fK (wt - 1)))), (5, .int (iI nc)), (4, .int (iI (-3))), (3, .int (iI (j - i))), (2, .int (iI i)), (1, .int (iI (wt - 1))), (0, .ref 517)]) (st' := [.int (iI (fK (wt - 1))), .int (iI r1507), .ref 517]) rfl ?_
        refine T_p xr_43_181 xn_43 (pc' := 183) (ls' := [(7, .long (iL (k : Int))), (6, .int (iI (fK (wt - 1)))), (5, .int (iI nc)), (4, .int (iI (-3))), (3, .int (iI (j - i))), (2, .int (iI i)), (1, .int (iI (wt - 1))), (0, .ref 517)]) (st' := [.long (iL (k : Int)), .int (iI (fK (wt - 1))), .int (iI r1507), .ref 517]) rfl ?_
        refine T_cv (S := S1498) (q := 517) xr_43_183 xf_42.1 xf_42.2.1 xn_42 (as := [.int (iI r1507), .int (iI (fK (wt - 1))), .long (iL (k : Int))]) (r := []) rfl h1499 (Nat.le_of_ble_eq_true rfl) (Nat.le_of_ble_eq_true rfl) (pc' := 186) rfl (ls' := [(0, .ref 517), (1, .int (iI r1507)), (2, .int (iI (fK (wt - 1)))), (3, .long (iL (k : Int)))]) rfl ?_
        refine T_p xr_42_0 xn_42 (pc' := 1) (ls' := [(0, .ref 517), (1, .int (iI r1507)), (2, .int (iI (fK (wt - 1)))), (3, .long (iL (k : Int)))]) (st' := [.ref 517]) rfl ?_
        refine T_get xr_42_1 h1499 rfl (v := .int (iI wt)) rfl (pc' := 4) rfl ?_
        refine T_zif_le xr_42_4 (t := 43) (pc' := 7) rfl rfl (fun c1517 => ?_) (fun c1517 => ?_)
        · skip
          have c1517 : wt ≤ 0 := c1517
          exact (show False by omega).elim
        · skip
          have c1517 : ¬ (wt ≤ 0) := c1517
          refine T_p xr_42_7 xn_42 (pc' := 8) (ls' := [(0, .ref 517), (1, .int (iI r1507)), (2, .int (iI (fK (wt - 1)))), (3, .long (iL (k : Int)))]) (st' := [.ref 517]) rfl ?_
          refine T_get xr_42_8 h1499 rfl (v := .ref 522) rfl (pc' := 11) rfl ?_
          refine T_p xr_42_11 xn_42 (pc' := 12) (ls' := [(0, .ref 517), (1, .int (iI r1507)), (2, .int (iI (fK (wt - 1)))), (3, .long (iL (k : Int)))]) (st' := [.ref 517, .ref 522]) rfl ?_
          refine T_get xr_42_12 h1499 rfl (v := .int (iI wt)) rfl (pc' := 15) rfl ?_
          refine T_p xr_42_15 xn_42 (pc' := 16) (ls' := [(0, .ref 517), (1, .int (iI r1507)), (2, .int (iI (fK (wt - 1)))), (3, .long (iL (k : Int)))]) (st' := [.int (iI 1), .int (iI wt), .ref 522]) rfl ?_
          refine T_zisub xr_42_16 (z := wt - 1) rfl (pc' := 17) rfl ?_
          refine T_p xr_42_17 xn_42 (pc' := 18) (ls' := [(0, .ref 517), (1, .int (iI r1507)), (2, .int (iI (fK (wt - 1)))), (3, .long (iL (k : Int)))]) (st' := [.int (iI r1507), .int (iI (wt - 1)), .ref 522]) rfl ?_
          have h1518 := (n1500 522 (by decide)).trans ((n1495 522 (by decide)).trans ((n1489 522 (by decide)).trans ((n1483 522 (by decide)).trans ((n1477 522 (by decide)).trans ((hf1469.1 522 (by first | decide | omega)).trans ((hf1425.1 522 (by first | decide | omega)).trans (h1406)))))))
          refine T_ziast xr_42_18 h1518 (pc' := 19) rfl (fun S1519 h1520 n1521 e1522 => ?_)
          refine T_p xr_42_19 xn_42 (pc' := 20) (ls' := [(0, .ref 517), (1, .int (iI r1507)), (2, .int (iI (fK (wt - 1)))), (3, .long (iL (k : Int)))]) (st' := [.ref 517]) rfl ?_
          have h1523 := (n1521 517 (by decide)).trans (h1499)
          refine T_get xr_42_20 h1523 rfl (v := .ref 523) rfl (pc' := 23) rfl ?_
          refine T_p xr_42_23 xn_42 (pc' := 24) (ls' := [(0, .ref 517), (1, .int (iI r1507)), (2, .int (iI (fK (wt - 1)))), (3, .long (iL (k : Int)))]) (st' := [.ref 517, .ref 523]) rfl ?_
          refine T_get xr_42_24 h1523 rfl (v := .int (iI wt)) rfl (pc' := 27) rfl ?_
          refine T_p xr_42_27 xn_42 (pc' := 28) (ls' := [(0, .ref 517), (1, .int (iI r1507)), (2, .int (iI (fK (wt - 1)))), (3, .long (iL (k : Int)))]) (st' := [.int (iI 1), .int (iI wt), .ref 523]) rfl ?_
          refine T_zisub xr_42_28 (z := wt - 1) rfl (pc' := 29) rfl ?_
          refine T_p xr_42_29 xn_42 (pc' := 30) (ls' := [(0, .ref 517), (1, .int (iI r1507)), (2, .int (iI (fK (wt - 1)))), (3, .long (iL (k : Int)))]) (st' := [.int (iI (fK (wt - 1))), .int (iI (wt - 1)), .ref 523]) rfl ?_
          have h1524 := (n1521 523 (by decide)).trans ((n1500 523 (by decide)).trans ((n1495 523 (by decide)).trans ((n1489 523 (by decide)).trans ((n1483 523 (by decide)).trans ((n1477 523 (by decide)).trans (h1471))))))
          refine T_ziast xr_42_30 h1524 (pc' := 31) rfl (fun S1525 h1526 n1527 e1528 => ?_)
          refine T_p xr_42_31 xn_42 (pc' := 32) (ls' := [(0, .ref 517), (1, .int (iI r1507)), (2, .int (iI (fK (wt - 1)))), (3, .long (iL (k : Int)))]) (st' := [.ref 517]) rfl ?_
          have h1529 := (n1527 517 (by decide)).trans (h1523)
          refine T_get xr_42_32 h1529 rfl (v := .ref 524) rfl (pc' := 35) rfl ?_
          refine T_p xr_42_35 xn_42 (pc' := 36) (ls' := [(0, .ref 517), (1, .int (iI r1507)), (2, .int (iI (fK (wt - 1)))), (3, .long (iL (k : Int)))]) (st' := [.ref 517, .ref 524]) rfl ?_
          refine T_get xr_42_36 h1529 rfl (v := .int (iI wt)) rfl (pc' := 39) rfl ?_
          refine T_p xr_42_39 xn_42 (pc' := 40) (ls' := [(0, .ref 517), (1, .int (iI r1507)), (2, .int (iI (fK (wt - 1)))), (3, .long (iL (k : Int)))]) (st' := [.int (iI 1), .int (iI wt), .ref 524]) rfl ?_
          refine T_zisub xr_42_40 (z := wt - 1) rfl (pc' := 41) rfl ?_
          refine T_p xr_42_41 xn_42 (pc' := 42) (ls' := [(0, .ref 517), (1, .int (iI r1507)), (2, .int (iI (fK (wt - 1)))), (3, .long (iL (k : Int)))]) (st' := [.long (iL (k : Int)), .int (iI (wt - 1)), .ref 524]) rfl ?_
          have h1530 := (n1527 524 (by decide)).trans ((n1521 524 (by decide)).trans ((n1500 524 (by decide)).trans ((n1495 524 (by decide)).trans ((n1489 524 (by decide)).trans ((n1483 524 (by decide)).trans ((n1477 524 (by decide)).trans (h1472)))))))
          refine T_zlast xr_42_42 h1530 (pc' := 43) rfl (fun S1531 h1532 n1533 e1534 => ?_)
          refine T_vret xr_42_43 xf_42.2.2 ?_
          show X_T sc 43 (186, [(7, .long (iL (k : Int))), (6, .int (iI (fK (wt - 1)))), (5, .int (iI nc)), (4, .int (iI (-3))), (3, .int (iI (j - i))), (2, .int (iI i)), (1, .int (iI (wt - 1))), (0, .ref 517)], [], S1531) _
          refine T_vret xr_43_186 xf_43.2.2 ?_
          refine hQ _ _ ?_
          have h1535 := (n1533 505 (by decide)).trans ((n1527 505 (by decide)).trans ((n1521 505 (by decide)).trans ((n1500 505 (by decide)).trans ((n1495 505 (by decide)).trans ((n1489 505 (by decide)).trans ((n1483 505 (by decide)).trans ((n1477 505 (by decide)).trans (ha1463))))))))
          have h1536 := (n1533 506 (by decide)).trans ((n1527 506 (by decide)).trans ((n1521 506 (by decide)).trans ((n1500 506 (by decide)).trans ((n1495 506 (by decide)).trans ((n1489 506 (by decide)).trans ((n1483 506 (by decide)).trans ((n1477 506 (by decide)).trans (ha1464))))))))
          have h1537 := (n1533 507 (by decide)).trans ((n1527 507 (by decide)).trans ((n1521 507 (by decide)).trans ((n1500 507 (by decide)).trans ((n1495 507 (by decide)).trans ((n1489 507 (by decide)).trans ((n1483 507 (by decide)).trans ((n1477 507 (by decide)).trans (ha1465))))))))
          have h1538 := (n1533 508 (by decide)).trans ((n1527 508 (by decide)).trans ((n1521 508 (by decide)).trans ((n1500 508 (by decide)).trans ((n1495 508 (by decide)).trans ((n1489 508 (by decide)).trans ((n1483 508 (by decide)).trans ((n1477 508 (by decide)).trans (ha1466))))))))
          have h1539 := (n1533 509 (by decide)).trans ((n1527 509 (by decide)).trans ((n1521 509 (by decide)).trans ((n1500 509 (by decide)).trans ((n1495 509 (by decide)).trans ((n1489 509 (by decide)).trans ((n1483 509 (by decide)).trans ((n1477 509 (by decide)).trans (ha1467))))))))
          have h1540 := (n1533 510 (by decide)).trans ((n1527 510 (by decide)).trans ((n1521 510 (by decide)).trans ((n1500 510 (by decide)).trans ((n1495 510 (by decide)).trans ((n1489 510 (by decide)).trans ((n1483 510 (by decide)).trans ((n1477 510 (by decide)).trans (ha1468))))))))
          have h1541 := (n1533 518 (by decide)).trans ((n1527 518 (by decide)).trans ((n1521 518 (by decide)).trans ((n1500 518 (by decide)).trans ((n1495 518 (by decide)).trans ((n1489 518 (by decide)).trans ((n1483 518 (by decide)).trans (h1476)))))))
          have h1542 := (n1533 519 (by decide)).trans ((n1527 519 (by decide)).trans ((n1521 519 (by decide)).trans ((n1500 519 (by decide)).trans ((n1495 519 (by decide)).trans ((n1489 519 (by decide)).trans (h1482))))))
          have h1543 := (n1533 520 (by decide)).trans ((n1527 520 (by decide)).trans ((n1521 520 (by decide)).trans ((n1500 520 (by decide)).trans ((n1495 520 (by decide)).trans (h1488)))))
          have h1544 := (n1533 521 (by decide)).trans ((n1527 521 (by decide)).trans ((n1521 521 (by decide)).trans ((n1500 521 (by decide)).trans (h1494))))
          have h1545 := (n1533 522 (by decide)).trans ((n1527 522 (by decide)).trans (h1520))
          have h1546 := (n1533 523 (by decide)).trans (h1526)
          have h1547 := (n1533 516 (by decide)).trans ((n1527 516 (by decide)).trans ((n1521 516 (by decide)).trans ((n1500 516 (by decide)).trans ((n1495 516 (by decide)).trans ((n1489 516 (by decide)).trans ((n1483 516 (by decide)).trans ((n1477 516 (by decide)).trans ((hf1469.1 516 (by first | decide | omega)).trans ((hf1425.1 516 (by first | decide | omega)).trans ((n1398 516 (by decide)).trans (hA516)))))))))))
          have h1548 := (n1533 525 (by decide)).trans ((n1527 525 (by decide)).trans ((n1521 525 (by decide)).trans ((n1500 525 (by decide)).trans ((n1495 525 (by decide)).trans ((n1489 525 (by decide)).trans ((n1483 525 (by decide)).trans ((n1477 525 (by decide)).trans ((hf1469.1 525 (by first | decide | omega)).trans ((hf1425.1 525 (by first | decide | omega)).trans ((n1398 525 (by decide)).trans (hA525)))))))))))
          have h1549 := (n1533 526 (by decide)).trans ((n1527 526 (by decide)).trans ((n1521 526 (by decide)).trans ((n1500 526 (by decide)).trans ((n1495 526 (by decide)).trans ((n1489 526 (by decide)).trans ((n1483 526 (by decide)).trans ((n1477 526 (by decide)).trans ((hf1469.1 526 (by first | decide | omega)).trans ((hf1425.1 526 (by first | decide | omega)).trans ((n1398 526 (by decide)).trans (hA526)))))))))))
          have hMb := X_Mok_b (N' := X_nn N nc (-3) i (j - i) pa ho) hG htn.2 hM hwt hT hp1422 (show ¬ j = i + 1 by omega)
          have h1550 := (n1533 517 (by decide)).trans (h1529)
          have h1551 := (n1533 504 (by decide)).trans ((n1527 504 (by decide)).trans ((n1521 504 (by decide)).trans ((n1500 504 (by decide)).trans ((n1495 504 (by decide)).trans ((n1489 504 (by decide)).trans ((n1483 504 (by decide)).trans ((n1477 504 (by decide)).trans (ho1462))))))))
          exact ⟨wt, X_ug St (wt - 1) (i + 1, j - 1, nc, 0, u, 0, 0, k), X_nn N nc (-3) i (j - i) pa ho, nW1453, nF1454, nL1455, nP1456, nH1457, nC1458, (X_ug fF (wt - 1) (i + 1)), (X_ug fE (wt - 1) (j - 1)), (X_ug fP (wt - 1) nc), (X_ug fH (wt - 1) 0), (X_ug fW (wt - 1) r1507), (X_ug fK (wt - 1) (fK (wt - 1))), (X_ug fN1420 (wt - 1) (iL (k : Int))), tl, hF, hE, rfl, (X_mk_b hT hp1422 (by omega)), hMb.2, (by
                have hz := F_st.push (t := (i + 1, j - 1, nc, 0, u, 0, 0, k)) (F_st.pop hst (fun q hq => hp1423 q)) rfl rfl rfl rfl ⟨rfl, rfl, rfl, rfl, fun v h1 h2 => by rw [hx1509 v h1 (by omega)]; exact ⟨fun z => ⟨(hFk _ (hG.kd v h1 h2).1 (hG.kd v h1 h2).2).mp z.2, Or.inl rfl⟩, fun z => ⟨h2, (hFk _ (hG.kd v h1 h2).1 (hG.kd v h1 h2).2).mpr z.1⟩⟩, hFk, rfl⟩ rfl rfl rfl
                rw [show wt - 1 + 1 = wt by omega] at hz
                exact hz), hp1460, hp1461, h1550, h1551, h1535, h1536, h1537, h1538, h1539, h1540, h1541, h1542, h1543, h1544, h1545, h1546, h1532, h1547, h1548, h1549, (((((((((((X_Fr.rf).tr (X_Fr.of n1398 e1399 (by first | decide | exact ⟨Nat.le_add_right _ _, Nat.add_le_add_left (by decide) _⟩ | omega))).tr (X_Fr.mono ⟨hf1425.1, hf1425.2⟩ (fun q hq => (by omega)))).tr (X_Fr.mono ⟨hf1469.1, hf1469.2⟩ (fun q hq => (by omega)))).tr (X_Fr.of n1477 e1478 (by first | decide | exact ⟨Nat.le_add_right _ _, Nat.add_le_add_left (by decide) _⟩ | omega))).tr (X_Fr.of n1483 e1484 (by first | decide | exact ⟨Nat.le_add_right _ _, Nat.add_le_add_left (by decide) _⟩ | omega))).tr (X_Fr.of n1489 e1490 (by first | decide | exact ⟨Nat.le_add_right _ _, Nat.add_le_add_left (by decide) _⟩ | omega))).tr (X_Fr.of n1495 e1496 (by first | decide | exact ⟨Nat.le_add_right _ _, Nat.add_le_add_left (by decide) _⟩ | omega))).tr (X_Fr.of n1500 e1501 (by first | decide | exact ⟨Nat.le_add_right _ _, Nat.add_le_add_left (by decide) _⟩ | omega))).tr (X_Fr.of n1521 e1522 (by first | decide | exact ⟨Nat.le_add_right _ _, Nat.add_le_add_left (by decide) _⟩ | omega))).tr (X_Fr.of n1527 e1528 (by first | decide | exact ⟨Nat.le_add_right _ _, Nat.add_le_add_left (by decide) _⟩ | omega))).tr (X_Fr.of n1533 e1534 (by first | decide | exact ⟨Nat.le_add_right _ _, Nat.add_le_add_left (by decide) _⟩ | omega))⟩
    · skip
      have c1439 : ¬ (¬ (j - i) = 1) := c1439
      refine T_p xr_43_49 xn_43 (pc' := 51) (ls' := [(4, .int (iI (-1))), (3, .int (iI (j - i))), (2, .int (iI i)), (1, .int (iI (wt - 1))), (0, .ref 517)]) (st' := [.int (iI (-2))]) rfl ?_
      refine T_p xr_43_51 xn_43 (pc' := 56) (ls' := [(4, .int (iI (-1))), (3, .int (iI (j - i))), (2, .int (iI i)), (1, .int (iI (wt - 1))), (0, .ref 517)]) (st' := [.int (iI (-2))]) rfl ?_
      refine T_p xr_43_56 xn_43 (pc' := 58) (ls' := [(4, .int (iI (-2))), (3, .int (iI (j - i))), (2, .int (iI i)), (1, .int (iI (wt - 1))), (0, .ref 517)]) (st' := []) rfl ?_
      refine T_p xr_43_58 xn_43 (pc' := 59) (ls' := [(4, .int (iI (-2))), (3, .int (iI (j - i))), (2, .int (iI i)), (1, .int (iI (wt - 1))), (0, .ref 517)]) (st' := [.ref 517]) rfl ?_
      have h1552 := (hf1425.1 517 (by first | decide | omega)).trans (h1397)
      refine T_get xr_43_59 h1552 rfl (v := .ref 504) rfl (pc' := 62) rfl ?_
      refine T_p xr_43_62 xn_43 (pc' := 64) (ls' := [(4, .int (iI (-2))), (3, .int (iI (j - i))), (2, .int (iI i)), (1, .int (iI (wt - 1))), (0, .ref 517)]) (st' := [.int (iI (-2)), .ref 504]) rfl ?_
      refine T_p xr_43_64 xn_43 (pc' := 65) (ls' := [(4, .int (iI (-2))), (3, .int (iI (j - i))), (2, .int (iI i)), (1, .int (iI (wt - 1))), (0, .ref 517)]) (st' := [.int (iI i), .int (iI (-2)), .ref 504]) rfl ?_
      refine T_p xr_43_65 xn_43 (pc' := 66) (ls' := [(4, .int (iI (-2))), (3, .int (iI (j - i))), (2, .int (iI i)), (1, .int (iI (wt - 1))), (0, .ref 517)]) (st' := [.int (iI (j - i)), .int (iI i), .int (iI (-2)), .ref 504]) rfl ?_
      refine T_p xr_43_66 xn_43 (pc' := 67) (ls' := [(4, .int (iI (-2))), (3, .int (iI (j - i))), (2, .int (iI i)), (1, .int (iI (wt - 1))), (0, .ref 517)]) (st' := [.ref 517, .int (iI (j - i)), .int (iI i), .int (iI (-2)), .ref 504]) rfl ?_
      refine T_get xr_43_67 h1552 rfl (v := .ref 520) rfl (pc' := 70) rfl ?_
      refine T_p xr_43_70 xn_43 (pc' := 71) (ls' := [(4, .int (iI (-2))), (3, .int (iI (j - i))), (2, .int (iI i)), (1, .int (iI (wt - 1))), (0, .ref 517)]) (st' := [.int (iI (wt - 1)), .ref 520, .int (iI (j - i)), .int (iI i), .int (iI (-2)), .ref 504]) rfl ?_
      have h1553 := (hf1425.1 520 (by first | decide | omega)).trans ((n1398 520 (by decide)).trans (hA520))
      refine T_ziald xr_43_71 h1553 (pc' := 72) rfl ?_
      refine T_ie (y := iI pa) (by rw [hFp]) ?_
      refine T_p xr_43_72 xn_43 (pc' := 73) (ls' := [(4, .int (iI (-2))), (3, .int (iI (j - i))), (2, .int (iI i)), (1, .int (iI (wt - 1))), (0, .ref 517)]) (st' := [.ref 517, .int (iI pa), .int (iI (j - i)), .int (iI i), .int (iI (-2)), .ref 504]) rfl ?_
      refine T_get xr_43_73 h1552 rfl (v := .ref 521) rfl (pc' := 76) rfl ?_
      refine T_p xr_43_76 xn_43 (pc' := 77) (ls' := [(4, .int (iI (-2))), (3, .int (iI (j - i))), (2, .int (iI i)), (1, .int (iI (wt - 1))), (0, .ref 517)]) (st' := [.int (iI (wt - 1)), .ref 521, .int (iI pa), .int (iI (j - i)), .int (iI i), .int (iI (-2)), .ref 504]) rfl ?_
      have h1554 := (hf1425.1 521 (by first | decide | omega)).trans ((n1398 521 (by decide)).trans (hA521))
      refine T_ziald xr_43_77 h1554 (pc' := 78) rfl ?_
      refine T_ie (y := iI ho) (by rw [hFh]) ?_
      have h1555 := (hf1425.1 504 (by first | decide | omega)).trans ((n1398 504 (by decide)).trans (hO504))
      refine T_cv (S := S1418) (q := 504) xr_43_78 xf_84.1 xf_84.2.1 xn_84 (as := [.int (iI (-2)), .int (iI i), .int (iI (j - i)), .int (iI pa), .int (iI ho)]) (r := []) rfl h1555 (Nat.le_of_ble_eq_true rfl) (Nat.le_of_ble_eq_true rfl) (pc' := 81) rfl (ls' := [(0, .ref 504), (1, .int (iI (-2))), (2, .int (iI i)), (3, .int (iI (j - i))), (4, .int (iI pa)), (5, .int (iI ho))]) rfl ?_
      have h1556 := (hf1425.1 505 (by first | decide | omega)).trans ((n1398 505 (by decide)).trans (hA505))
      have h1557 := (hf1425.1 506 (by first | decide | omega)).trans ((n1398 506 (by decide)).trans (hA506))
      have h1558 := (hf1425.1 507 (by first | decide | omega)).trans ((n1398 507 (by decide)).trans (hA507))
      have h1559 := (hf1425.1 508 (by first | decide | omega)).trans ((n1398 508 (by decide)).trans (hA508))
      have h1560 := (hf1425.1 509 (by first | decide | omega)).trans ((n1398 509 (by decide)).trans (hA509))
      have h1561 := (hf1425.1 510 (by first | decide | omega)).trans ((n1398 510 (by decide)).trans (hA510))
      refine T_mono (c_add sc S1418 nW nF nL nP nH nC nc N (-2) i (j - i) pa ho h1555 h1556 h1557 h1558 h1559 h1560 h1561 (by omega) (by omega) hnd hch) (fun v1562 S1563 h1564 => ?_)
      rcases h1564 with ⟨nW1565, nF1566, nL1567, nP1568, nH1569, nC1570, hv1571, hp1572, hp1573, ho1574, ha1575, ha1576, ha1577, ha1578, ha1579, ha1580, hf1581⟩
      rw [hv1571]
      show X_T sc 43 (81, [(4, .int (iI (-2))), (3, .int (iI (j - i))), (2, .int (iI i)), (1, .int (iI (wt - 1))), (0, .ref 517)], [.int (iI nc)], S1563) _
      refine T_p xr_43_81 xn_43 (pc' := 83) (ls' := [(5, .int (iI nc)), (4, .int (iI (-2))), (3, .int (iI (j - i))), (2, .int (iI i)), (1, .int (iI (wt - 1))), (0, .ref 517)]) (st' := []) rfl ?_
      refine T_p xr_43_83 xn_43 (pc' := 85) (ls' := [(5, .int (iI nc)), (4, .int (iI (-2))), (3, .int (iI (j - i))), (2, .int (iI i)), (1, .int (iI (wt - 1))), (0, .ref 517)]) (st' := [.int (iI (-2))]) rfl ?_
      refine T_zif_ltt xr_43_85 (t := 128) rfl (by decide) ?_
      refine T_p xr_43_128 xn_43 (pc' := 130) (ls' := [(5, .int (iI nc)), (4, .int (iI (-2))), (3, .int (iI (j - i))), (2, .int (iI i)), (1, .int (iI (wt - 1))), (0, .ref 517)]) (st' := [.int (iI (-2))]) rfl ?_
      refine T_p xr_43_130 xn_43 (pc' := 132) (ls' := [(5, .int (iI nc)), (4, .int (iI (-2))), (3, .int (iI (j - i))), (2, .int (iI i)), (1, .int (iI (wt - 1))), (0, .ref 517)]) (st' := [.int (iI (-3)), .int (iI (-2))]) rfl ?_
      refine T_zicmp_net xr_43_132 (t := 186) rfl (by decide) ?_
      refine T_vret xr_43_186 xf_43.2.2 ?_
      refine hQ _ _ ?_
      have h1582 := (hf1581.1 518 (by first | decide | omega)).trans ((hf1425.1 518 (by first | decide | omega)).trans (h1400))
      have h1583 := (hf1581.1 519 (by first | decide | omega)).trans ((hf1425.1 519 (by first | decide | omega)).trans (h1401))
      have h1584 := (hf1581.1 520 (by first | decide | omega)).trans (h1553)
      have h1585 := (hf1581.1 521 (by first | decide | omega)).trans (h1554)
      have h1586 := (hf1581.1 522 (by first | decide | omega)).trans ((hf1425.1 522 (by first | decide | omega)).trans (h1406))
      have h1587 := (hf1581.1 523 (by first | decide | omega)).trans ((hf1425.1 523 (by first | decide | omega)).trans (h1407))
      have h1588 := (hf1581.1 524 (by first | decide | omega)).trans (ha1424)
      have h1589 := (hf1581.1 516 (by first | decide | omega)).trans ((hf1425.1 516 (by first | decide | omega)).trans ((n1398 516 (by decide)).trans (hA516)))
      have h1590 := (hf1581.1 525 (by first | decide | omega)).trans ((hf1425.1 525 (by first | decide | omega)).trans ((n1398 525 (by decide)).trans (hA525)))
      have h1591 := (hf1581.1 526 (by first | decide | omega)).trans ((hf1425.1 526 (by first | decide | omega)).trans ((n1398 526 (by decide)).trans (hA526)))
      have h1592 := (hf1581.1 517 (by first | decide | omega)).trans (h1552)
      exact ⟨wt - 1, St, X_nn N nc (-2) i (j - i) pa ho, nW1565, nF1566, nL1567, nP1568, nH1569, nC1570, fF, fE, fP, fH, fW, fK, fN1420, tl, hF, hE, rfl, (X_mk_n hT hp1422 (by omega)), (X_Mok_n hM hwt hT), (F_st.pop hst (fun q hq => hp1423 q)), hp1572, hp1573, h1592, ho1574, ha1575, ha1576, ha1577, ha1578, ha1579, ha1580, h1582, h1583, h1584, h1585, h1586, h1587, h1588, h1589, h1590, h1591, (((X_Fr.rf).tr (X_Fr.of n1398 e1399 (by first | decide | exact ⟨Nat.le_add_right _ _, Nat.add_le_add_left (by decide) _⟩ | omega))).tr (X_Fr.mono ⟨hf1425.1, hf1425.2⟩ (fun q hq => (by omega)))).tr (X_Fr.mono ⟨hf1581.1, hf1581.2⟩ (fun q hq => (by omega)))⟩
  · skip
    rw [hv1429]
    show X_T sc 43 (36, [(3, .int (iI (j - i))), (2, .int (iI i)), (1, .int (iI (wt - 1))), (0, .ref 517)], [.int (iI v1426)], S1418) _
    refine T_p xr_43_36 xn_43 (pc' := 38) (ls' := [(4, .int (iI v1426)), (3, .int (iI (j - i))), (2, .int (iI i)), (1, .int (iI (wt - 1))), (0, .ref 517)]) (st' := []) rfl ?_
    refine T_p xr_43_38 xn_43 (pc' := 40) (ls' := [(4, .int (iI v1426)), (3, .int (iI (j - i))), (2, .int (iI i)), (1, .int (iI (wt - 1))), (0, .ref 517)]) (st' := [.int (iI v1426)]) rfl ?_
    refine T_p xr_43_40 xn_43 (pc' := 41) (ls' := [(4, .int (iI v1426)), (3, .int (iI (j - i))), (2, .int (iI i)), (1, .int (iI (wt - 1))), (0, .ref 517)]) (st' := [.int (iI (-1)), .int (iI v1426)]) rfl ?_
    refine T_zicmp_ne xr_43_41 (t := 58) (pc' := 44) rfl rfl (fun c1593 => ?_) (fun c1593 => ?_)
    · skip
      have c1593 : ¬ v1426 = (-1) := c1593
      refine T_p xr_43_58 xn_43 (pc' := 59) (ls' := [(4, .int (iI v1426)), (3, .int (iI (j - i))), (2, .int (iI i)), (1, .int (iI (wt - 1))), (0, .ref 517)]) (st' := [.ref 517]) rfl ?_
      have h1594 := (hf1438.1 517 (by first | decide | omega)).trans (h1397)
      refine T_get xr_43_59 h1594 rfl (v := .ref 504) rfl (pc' := 62) rfl ?_
      refine T_p xr_43_62 xn_43 (pc' := 64) (ls' := [(4, .int (iI v1426)), (3, .int (iI (j - i))), (2, .int (iI i)), (1, .int (iI (wt - 1))), (0, .ref 517)]) (st' := [.int (iI v1426), .ref 504]) rfl ?_
      refine T_p xr_43_64 xn_43 (pc' := 65) (ls' := [(4, .int (iI v1426)), (3, .int (iI (j - i))), (2, .int (iI i)), (1, .int (iI (wt - 1))), (0, .ref 517)]) (st' := [.int (iI i), .int (iI v1426), .ref 504]) rfl ?_
      refine T_p xr_43_65 xn_43 (pc' := 66) (ls' := [(4, .int (iI v1426)), (3, .int (iI (j - i))), (2, .int (iI i)), (1, .int (iI (wt - 1))), (0, .ref 517)]) (st' := [.int (iI (j - i)), .int (iI i), .int (iI v1426), .ref 504]) rfl ?_
      refine T_p xr_43_66 xn_43 (pc' := 67) (ls' := [(4, .int (iI v1426)), (3, .int (iI (j - i))), (2, .int (iI i)), (1, .int (iI (wt - 1))), (0, .ref 517)]) (st' := [.ref 517, .int (iI (j - i)), .int (iI i), .int (iI v1426), .ref 504]) rfl ?_
      refine T_get xr_43_67 h1594 rfl (v := .ref 520) rfl (pc' := 70) rfl ?_
      refine T_p xr_43_70 xn_43 (pc' := 71) (ls' := [(4, .int (iI v1426)), (3, .int (iI (j - i))), (2, .int (iI i)), (1, .int (iI (wt - 1))), (0, .ref 517)]) (st' := [.int (iI (wt - 1)), .ref 520, .int (iI (j - i)), .int (iI i), .int (iI v1426), .ref 504]) rfl ?_
      have h1595 := (hf1438.1 520 (by first | decide | omega)).trans ((n1398 520 (by decide)).trans (hA520))
      refine T_ziald xr_43_71 h1595 (pc' := 72) rfl ?_
      refine T_ie (y := iI pa) (by rw [hFp]) ?_
      refine T_p xr_43_72 xn_43 (pc' := 73) (ls' := [(4, .int (iI v1426)), (3, .int (iI (j - i))), (2, .int (iI i)), (1, .int (iI (wt - 1))), (0, .ref 517)]) (st' := [.ref 517, .int (iI pa), .int (iI (j - i)), .int (iI i), .int (iI v1426), .ref 504]) rfl ?_
      refine T_get xr_43_73 h1594 rfl (v := .ref 521) rfl (pc' := 76) rfl ?_
      refine T_p xr_43_76 xn_43 (pc' := 77) (ls' := [(4, .int (iI v1426)), (3, .int (iI (j - i))), (2, .int (iI i)), (1, .int (iI (wt - 1))), (0, .ref 517)]) (st' := [.int (iI (wt - 1)), .ref 521, .int (iI pa), .int (iI (j - i)), .int (iI i), .int (iI v1426), .ref 504]) rfl ?_
      have h1596 := (hf1438.1 521 (by first | decide | omega)).trans ((n1398 521 (by decide)).trans (hA521))
      refine T_ziald xr_43_77 h1596 (pc' := 78) rfl ?_
      refine T_ie (y := iI ho) (by rw [hFh]) ?_
      have h1597 := (hf1438.1 504 (by first | decide | omega)).trans ((n1398 504 (by decide)).trans (hO504))
      refine T_cv (S := S1418) (q := 504) xr_43_78 xf_84.1 xf_84.2.1 xn_84 (as := [.int (iI v1426), .int (iI i), .int (iI (j - i)), .int (iI pa), .int (iI ho)]) (r := []) rfl h1597 (Nat.le_of_ble_eq_true rfl) (Nat.le_of_ble_eq_true rfl) (pc' := 81) rfl (ls' := [(0, .ref 504), (1, .int (iI v1426)), (2, .int (iI i)), (3, .int (iI (j - i))), (4, .int (iI pa)), (5, .int (iI ho))]) rfl ?_
      have h1598 := (hf1438.1 505 (by first | decide | omega)).trans ((n1398 505 (by decide)).trans (hA505))
      have h1599 := (hf1438.1 506 (by first | decide | omega)).trans ((n1398 506 (by decide)).trans (hA506))
      have h1600 := (hf1438.1 507 (by first | decide | omega)).trans ((n1398 507 (by decide)).trans (hA507))
      have h1601 := (hf1438.1 508 (by first | decide | omega)).trans ((n1398 508 (by decide)).trans (hA508))
      have h1602 := (hf1438.1 509 (by first | decide | omega)).trans ((n1398 509 (by decide)).trans (hA509))
      have h1603 := (hf1438.1 510 (by first | decide | omega)).trans ((n1398 510 (by decide)).trans (hA510))
      refine T_mono (c_add sc S1418 nW nF nL nP nH nC nc N v1426 i (j - i) pa ho h1597 h1598 h1599 h1600 h1601 h1602 h1603 (by omega) (by omega) hnd hch) (fun v1604 S1605 h1606 => ?_)
      rcases h1606 with ⟨nW1607, nF1608, nL1609, nP1610, nH1611, nC1612, hv1613, hp1614, hp1615, ho1616, ha1617, ha1618, ha1619, ha1620, ha1621, ha1622, hf1623⟩
      rw [hv1613]
      show X_T sc 43 (81, [(4, .int (iI v1426)), (3, .int (iI (j - i))), (2, .int (iI i)), (1, .int (iI (wt - 1))), (0, .ref 517)], [.int (iI nc)], S1605) _
      refine T_p xr_43_81 xn_43 (pc' := 83) (ls' := [(5, .int (iI nc)), (4, .int (iI v1426)), (3, .int (iI (j - i))), (2, .int (iI i)), (1, .int (iI (wt - 1))), (0, .ref 517)]) (st' := []) rfl ?_
      refine T_p xr_43_83 xn_43 (pc' := 85) (ls' := [(5, .int (iI nc)), (4, .int (iI v1426)), (3, .int (iI (j - i))), (2, .int (iI i)), (1, .int (iI (wt - 1))), (0, .ref 517)]) (st' := [.int (iI v1426)]) rfl ?_
      refine T_zif_lt xr_43_85 (t := 128) (pc' := 88) rfl rfl (fun c1624 => ?_) (fun c1624 => ?_)
      · skip
        have c1624 : v1426 < 0 := c1624
        exact (show False by omega).elim
      · skip
        have c1624 : ¬ (v1426 < 0) := c1624
        refine T_p xr_43_88 xn_43 (pc' := 89) (ls' := [(5, .int (iI nc)), (4, .int (iI v1426)), (3, .int (iI (j - i))), (2, .int (iI i)), (1, .int (iI (wt - 1))), (0, .ref 517)]) (st' := [.ref 517]) rfl ?_
        have h1625 := (hf1623.1 517 (by first | decide | omega)).trans (h1594)
        refine T_get xr_43_89 h1625 rfl (v := .ref 511) rfl (pc' := 92) rfl ?_
        refine T_p xr_43_92 xn_43 (pc' := 94) (ls' := [(5, .int (iI nc)), (4, .int (iI v1426)), (3, .int (iI (j - i))), (2, .int (iI i)), (1, .int (iI (wt - 1))), (0, .ref 517)]) (st' := [.int (iI v1426), .ref 511]) rfl ?_
        refine T_p xr_43_94 xn_43 (pc' := 95) (ls' := [(5, .int (iI nc)), (4, .int (iI v1426)), (3, .int (iI (j - i))), (2, .int (iI i)), (1, .int (iI (wt - 1))), (0, .ref 517)]) (st' := [.int (iI i), .int (iI v1426), .ref 511]) rfl ?_
        refine T_p xr_43_95 xn_43 (pc' := 96) (ls' := [(5, .int (iI nc)), (4, .int (iI v1426)), (3, .int (iI (j - i))), (2, .int (iI i)), (1, .int (iI (wt - 1))), (0, .ref 517)]) (st' := [.int (iI i), .int (iI i), .int (iI v1426), .ref 511]) rfl ?_
        refine T_p xr_43_96 xn_43 (pc' := 97) (ls' := [(5, .int (iI nc)), (4, .int (iI v1426)), (3, .int (iI (j - i))), (2, .int (iI i)), (1, .int (iI (wt - 1))), (0, .ref 517)]) (st' := [.int (iI (j - i)), .int (iI i), .int (iI i), .int (iI v1426), .ref 511]) rfl ?_
        refine T_ziadd xr_43_97 (z := i + (j - i)) rfl (pc' := 98) rfl ?_
        refine T_ie (y := iI j) (by congr 1; omega) ?_
        have h1626 := (hf1623.1 511 (by first | decide | omega)).trans ((hf1438.1 511 (by first | decide | omega)).trans (h1409))
        refine T_cv (S := S1605) (q := 511) xr_43_98 xf_36.1 xf_36.2.1 xn_36 (as := [.int (iI v1426), .int (iI i), .int (iI j)]) (r := []) rfl h1626 (Nat.le_of_ble_eq_true rfl) (Nat.le_of_ble_eq_true rfl) (pc' := 101) rfl (ls' := [(0, .ref 511), (1, .int (iI v1426)), (2, .int (iI i)), (3, .int (iI j))]) rfl ?_
        have h1627 := (hf1623.1 515 (by first | decide | omega)).trans ((hf1438.1 515 (by first | decide | omega)).trans (h1405))
        have h1628 := (hf1623.1 516 (by first | decide | omega)).trans ((hf1438.1 516 (by first | decide | omega)).trans ((n1398 516 (by decide)).trans (hA516)))
        have h1629 := (hf1623.1 501 (by first | decide | omega)).trans ((hf1438.1 501 (by first | decide | omega)).trans ((n1398 501 (by decide)).trans (hO501)))
        have h1630 := (hf1623.1 B (by omega)).trans ((hf1438.1 B (by omega)).trans (h1410))
        have h1631 := (hf1623.1 (B + 1) (by omega)).trans ((hf1438.1 (B + 1) (by omega)).trans (h1411))
        have h1632 := (hf1623.1 (B + 2) (by omega)).trans ((hf1438.1 (B + 2) (by omega)).trans (h1412))
        have h1633 := (hf1623.1 (B + 3) (by omega)).trans ((hf1438.1 (B + 3) (by omega)).trans (h1413))
        have h1634 := (hf1623.1 (B + 4) (by omega)).trans ((hf1438.1 (B + 4) (by omega)).trans (h1414))
        have h1635 := (hf1623.1 (B + 5) (by omega)).trans ((hf1438.1 (B + 5) (by omega)).trans (h1415))
        have hs1636 : C_ws S1605 B (gD G) (gW G) := C_ws.fr (P := fun q => 501 ≤ q ∧ q ≤ 529) hs1416 (((X_Fr.rf).tr (X_Fr.mono ⟨hf1438.1, hf1438.2⟩ (fun q hq => (by omega)))).tr (X_Fr.mono ⟨hf1623.1, hf1623.2⟩ (fun q hq => (by omega)))) (fun k h1 h2 => by omega)
        have h1637 := (hf1623.1 502 (by first | decide | omega)).trans ((hf1438.1 502 (by first | decide | omega)).trans ((n1398 502 (by decide)).trans (hA502)))
        refine T_mono (c_prepareTails sc S1605 oH tl B rc rn kn G tn fl v1426 i j h1629 h1626 h1627 h1628 hB ⟨h1630, h1631, h1632, h1633, h1634, ⟨f, h1635, hf⟩, ⟨by omega, by omega⟩, ⟨by omega, by omega⟩, ⟨by omega, by omega⟩⟩ hs1636 hG h1637 (by omega) (by omega) (fun p h1 h2 e g1 g2 g3 m h3 h4 => (hcht p m (by omega) h3 (by omega)).2.2.2 _ hp1431.1 hp1431.2 e g1 g2 g3)) (fun v1638 S1639 h1640 => ?_)
        rcases h1640 with ⟨tl1641, hv1642, hp1643, ha1644, hf1645⟩
        rw [hv1642]
        show X_T sc 43 (101, [(5, .int (iI nc)), (4, .int (iI v1426)), (3, .int (iI (j - i))), (2, .int (iI i)), (1, .int (iI (wt - 1))), (0, .ref 517)], [], S1639) _
        refine T_p xr_43_101 xn_43 (pc' := 102) (ls' := [(5, .int (iI nc)), (4, .int (iI v1426)), (3, .int (iI (j - i))), (2, .int (iI i)), (1, .int (iI (wt - 1))), (0, .ref 517)]) (st' := [.ref 517]) rfl ?_
        refine T_p xr_43_102 xn_43 (pc' := 104) (ls' := [(5, .int (iI nc)), (4, .int (iI v1426)), (3, .int (iI (j - i))), (2, .int (iI i)), (1, .int (iI (wt - 1))), (0, .ref 517)]) (st' := [.int (iI v1426), .ref 517]) rfl ?_
        refine T_p xr_43_104 xn_43 (pc' := 106) (ls' := [(5, .int (iI nc)), (4, .int (iI v1426)), (3, .int (iI (j - i))), (2, .int (iI i)), (1, .int (iI (wt - 1))), (0, .ref 517)]) (st' := [.int (iI nc), .int (iI v1426), .ref 517]) rfl ?_
        refine T_p xr_43_106 xn_43 (pc' := 107) (ls' := [(5, .int (iI nc)), (4, .int (iI v1426)), (3, .int (iI (j - i))), (2, .int (iI i)), (1, .int (iI (wt - 1))), (0, .ref 517)]) (st' := [.ref 517, .int (iI nc), .int (iI v1426), .ref 517]) rfl ?_
        refine T_p xr_43_107 xn_43 (pc' := 109) (ls' := [(5, .int (iI nc)), (4, .int (iI v1426)), (3, .int (iI (j - i))), (2, .int (iI i)), (1, .int (iI (wt - 1))), (0, .ref 517)]) (st' := [.int (iI v1426), .ref 517, .int (iI nc), .int (iI v1426), .ref 517]) rfl ?_
        refine T_p xr_43_109 xn_43 (pc' := 110) (ls' := [(5, .int (iI nc)), (4, .int (iI v1426)), (3, .int (iI (j - i))), (2, .int (iI i)), (1, .int (iI (wt - 1))), (0, .ref 517)]) (st' := [.int (iI i), .int (iI v1426), .ref 517, .int (iI nc), .int (iI v1426), .ref 517]) rfl ?_
        refine T_p xr_43_110 xn_43 (pc' := 111) (ls' := [(5, .int (iI nc)), (4, .int (iI v1426)), (3, .int (iI (j - i))), (2, .int (iI i)), (1, .int (iI (wt - 1))), (0, .ref 517)]) (st' := [.int (iI i), .int (iI i), .int (iI v1426), .ref 517, .int (iI nc), .int (iI v1426), .ref 517]) rfl ?_
        refine T_p xr_43_111 xn_43 (pc' := 112) (ls' := [(5, .int (iI nc)), (4, .int (iI v1426)), (3, .int (iI (j - i))), (2, .int (iI i)), (1, .int (iI (wt - 1))), (0, .ref 517)]) (st' := [.int (iI (j - i)), .int (iI i), .int (iI i), .int (iI v1426), .ref 517, .int (iI nc), .int (iI v1426), .ref 517]) rfl ?_
        refine T_ziadd xr_43_112 (z := i + (j - i)) rfl (pc' := 113) rfl ?_
        refine T_ie (y := iI j) (by congr 1; omega) ?_
        refine T_p xr_43_113 xn_43 (pc' := 114) (ls' := [(5, .int (iI nc)), (4, .int (iI v1426)), (3, .int (iI (j - i))), (2, .int (iI i)), (1, .int (iI (wt - 1))), (0, .ref 517)]) (st' := [.ref 517, .int (iI j), .int (iI i), .int (iI v1426), .ref 517, .int (iI nc), .int (iI v1426), .ref 517]) rfl ?_
        have h1646 := (hf1645.1 517 (by first | decide | omega)).trans (h1625)
        refine T_get xr_43_114 h1646 rfl (v := .ref 524) rfl (pc' := 117) rfl ?_
        refine T_p xr_43_117 xn_43 (pc' := 118) (ls' := [(5, .int (iI nc)), (4, .int (iI v1426)), (3, .int (iI (j - i))), (2, .int (iI i)), (1, .int (iI (wt - 1))), (0, .ref 517)]) (st' := [.int (iI (wt - 1)), .ref 524, .int (iI j), .int (iI i), .int (iI v1426), .ref 517, .int (iI nc), .int (iI v1426), .ref 517]) rfl ?_
        have h1647 := (hf1645.1 524 (by first | decide | omega)).trans ((hf1623.1 524 (by first | decide | omega)).trans (ha1437))
        refine T_zlald xr_43_118 h1647 (pc' := 119) rfl ?_
        refine T_le (y := (iL (k1427 : Int))) hp1435 ?_
        refine T_cv (S := S1639) (q := 517) xr_43_119 xf_45.1 xf_45.2.1 xn_45 (as := [.int (iI v1426), .int (iI i), .int (iI j), .long (iL (k1427 : Int))]) (r := [.int (iI nc), .int (iI v1426), .ref 517]) rfl h1646 (Nat.le_of_ble_eq_true rfl) (Nat.le_of_ble_eq_true rfl) (pc' := 122) rfl (ls' := [(0, .ref 517), (1, .int (iI v1426)), (2, .int (iI i)), (3, .int (iI j)), (4, .long (iL (k1427 : Int)))]) rfl ?_
        have h1648 := (hf1645.1 512 (by first | decide | omega)).trans ((hf1623.1 512 (by first | decide | omega)).trans ((hf1438.1 512 (by first | decide | omega)).trans (h1402)))
        have h1649 := (hf1645.1 513 (by first | decide | omega)).trans ((hf1623.1 513 (by first | decide | omega)).trans ((hf1438.1 513 (by first | decide | omega)).trans (h1403)))
        have h1650 := (hf1645.1 514 (by first | decide | omega)).trans ((hf1623.1 514 (by first | decide | omega)).trans ((hf1438.1 514 (by first | decide | omega)).trans (h1404)))
        have h1651 := (hf1645.1 515 (by first | decide | omega)).trans (h1627)
        have h1652 := (hf1645.1 525 (by first | decide | omega)).trans ((hf1623.1 525 (by first | decide | omega)).trans ((hf1438.1 525 (by first | decide | omega)).trans ((n1398 525 (by decide)).trans (hA525))))
        have h1653 := (hf1645.1 526 (by first | decide | omega)).trans ((hf1623.1 526 (by first | decide | omega)).trans ((hf1438.1 526 (by first | decide | omega)).trans ((n1398 526 (by decide)).trans (hA526))))
        have h1654 := (hf1645.1 511 (by first | decide | omega)).trans (h1626)
        have h1655 := (hf1645.1 B (by omega)).trans (h1630)
        have h1656 := (hf1645.1 (B + 1) (by omega)).trans (h1631)
        have h1657 := (hf1645.1 (B + 2) (by omega)).trans (h1632)
        have h1658 := (hf1645.1 (B + 3) (by omega)).trans (h1633)
        have h1659 := (hf1645.1 (B + 4) (by omega)).trans (h1634)
        have h1660 := (hf1645.1 (B + 5) (by omega)).trans (h1635)
        have hs1661 : C_ws S1639 B (gD G) (gW G) := C_ws.fr (P := fun q => 501 ≤ q ∧ q ≤ 529) hs1636 ((X_Fr.rf).tr (X_Fr.mono ⟨hf1645.1, hf1645.2⟩ (fun q hq => (by omega)))) (fun k h1 h2 => by omega)
        refine T_mono (c_splitWord sc S1639 oK oW oA oH tl1641 hF hE B rc rn kn G tn fl (wt - 1) v1426 i j k1427 h1654 h1646 h1648 h1649 h1650 h1651 ha1644 h1652 h1653 hB ⟨h1655, h1656, h1657, h1658, h1659, ⟨f, h1660, hf⟩, ⟨by omega, by omega⟩, ⟨by omega, by omega⟩, ⟨by omega, by omega⟩⟩ hs1661 hG (by omega) (by omega) (by omega) (by omega) hcht hp1643) (fun v1662 S1663 h1664 => ?_)
        rcases h1664 with ⟨l1665, HF1666, HE1667, hF1668, hE1669, hv1670, hp1671, hp1672, hp1673, ha1674, ha1675, hf1676⟩
        rw [hv1670]
        have hW1677 := X_Mok_w (N' := X_nn N nc v1426 i (j - i) pa ho) hG htn.2 hM hwt hT hp1431 hp1433 (Nat.le_trans hp1434 hIm) hp1671 hp1673
        show X_T sc 43 (122, [(5, .int (iI nc)), (4, .int (iI v1426)), (3, .int (iI (j - i))), (2, .int (iI i)), (1, .int (iI (wt - 1))), (0, .ref 517)], [.long (iL (l1665 : Int)), .int (iI nc), .int (iI v1426), .ref 517], S1663) _
        have h1678 := (hf1676.1 517 (by first | decide | omega)).trans (h1646)
        refine T_cv (S := S1663) (q := 517) xr_43_122 xf_46.1 xf_46.2.1 xn_46 (as := [.int (iI v1426), .int (iI nc), .long (iL (l1665 : Int))]) (r := []) rfl h1678 (Nat.le_of_ble_eq_true rfl) (Nat.le_of_ble_eq_true rfl) (pc' := 125) rfl (ls' := [(0, .ref 517), (1, .int (iI v1426)), (2, .int (iI nc)), (3, .long (iL (l1665 : Int)))]) rfl ?_
        have h1679 := (hf1676.1 512 (by first | decide | omega)).trans (h1648)
        have h1680 := (hf1676.1 513 (by first | decide | omega)).trans (h1649)
        have h1681 := (hf1676.1 514 (by first | decide | omega)).trans (h1650)
        have h1682 := (hf1676.1 515 (by first | decide | omega)).trans (h1651)
        have h1683 := (hf1676.1 518 (by first | decide | omega)).trans ((hf1645.1 518 (by first | decide | omega)).trans ((hf1623.1 518 (by first | decide | omega)).trans ((hf1438.1 518 (by first | decide | omega)).trans (h1400))))
        have h1684 := (hf1676.1 519 (by first | decide | omega)).trans ((hf1645.1 519 (by first | decide | omega)).trans ((hf1623.1 519 (by first | decide | omega)).trans ((hf1438.1 519 (by first | decide | omega)).trans (h1401))))
        have h1685 := (hf1676.1 520 (by first | decide | omega)).trans ((hf1645.1 520 (by first | decide | omega)).trans ((hf1623.1 520 (by first | decide | omega)).trans (h1595)))
        have h1686 := (hf1676.1 521 (by first | decide | omega)).trans ((hf1645.1 521 (by first | decide | omega)).trans ((hf1623.1 521 (by first | decide | omega)).trans (h1596)))
        have h1687 := (hf1676.1 522 (by first | decide | omega)).trans ((hf1645.1 522 (by first | decide | omega)).trans ((hf1623.1 522 (by first | decide | omega)).trans ((hf1438.1 522 (by first | decide | omega)).trans (h1406))))
        have h1688 := (hf1676.1 523 (by first | decide | omega)).trans ((hf1645.1 523 (by first | decide | omega)).trans ((hf1623.1 523 (by first | decide | omega)).trans ((hf1438.1 523 (by first | decide | omega)).trans (h1407))))
        have h1689 := (hf1676.1 524 (by first | decide | omega)).trans (h1647)
        have h1690 := (hf1676.1 511 (by first | decide | omega)).trans (h1654)
        have h1691 := (hf1676.1 B (by omega)).trans (h1655)
        have h1692 := (hf1676.1 (B + 1) (by omega)).trans (h1656)
        have h1693 := (hf1676.1 (B + 2) (by omega)).trans (h1657)
        have h1694 := (hf1676.1 (B + 3) (by omega)).trans (h1658)
        have h1695 := (hf1676.1 (B + 4) (by omega)).trans (h1659)
        have h1696 := (hf1676.1 (B + 5) (by omega)).trans (h1660)
        have hs1697 : C_ws S1663 B (gD G) (gW G) := C_ws.fr (P := fun q => 501 ≤ q ∧ q ≤ 529) hs1661 ((X_Fr.rf).tr (X_Fr.mono ⟨hf1676.1, hf1676.2⟩ (fun q hq => (by omega)))) (fun k h1 h2 => by omega)
        refine T_mono (c_fillWord sc S1663 oK oW oA oH fF fE fP fH fW fK fN1428 hF1668 hE1669 B rc rn kn G tn fl (wt - 1) v1426 nc l1665 HF1666 HE1667 St h1690 h1678 h1679 h1680 h1681 h1682 h1683 h1684 h1685 h1686 h1687 h1688 h1689 ha1674 ha1675 hB ⟨h1691, h1692, h1693, h1694, h1695, ⟨f, h1696, hf⟩, ⟨by omega, by omega⟩, ⟨by omega, by omega⟩, ⟨by omega, by omega⟩⟩ hs1697 hG (by omega) (by omega) hcht (F_st.pop hst hp1436) hp1672 (fun z g1 g2 => by have hz := hW1677.1 z g1 g2; exact ⟨by omega, hz.2⟩) (by omega) (by omega)) (fun v1698 S1699 h1700 => ?_)
        rcases h1700 with ⟨r1701, St1702, fF1703, fE1704, fP1705, fH1706, fW1707, fK1708, fN1709, hv1710, hp1711, hp1712, ho1713, ha1714, ha1715, ha1716, ha1717, ha1718, ha1719, ha1720, hf1721⟩
        rw [hv1710]
        show X_T sc 43 (125, [(5, .int (iI nc)), (4, .int (iI v1426)), (3, .int (iI (j - i))), (2, .int (iI i)), (1, .int (iI (wt - 1))), (0, .ref 517)], [], S1699) _
        refine T_p xr_43_125 xn_43 (pc' := 186) (ls' := [(5, .int (iI nc)), (4, .int (iI v1426)), (3, .int (iI (j - i))), (2, .int (iI i)), (1, .int (iI (wt - 1))), (0, .ref 517)]) (st' := []) rfl ?_
        refine T_vret xr_43_186 xf_43.2.2 ?_
        refine hQ _ _ ?_
        have h1722 := (hf1721.1 505 (by first | decide | omega)).trans ((hf1676.1 505 (by first | decide | omega)).trans ((hf1645.1 505 (by first | decide | omega)).trans (ha1617)))
        have h1723 := (hf1721.1 506 (by first | decide | omega)).trans ((hf1676.1 506 (by first | decide | omega)).trans ((hf1645.1 506 (by first | decide | omega)).trans (ha1618)))
        have h1724 := (hf1721.1 507 (by first | decide | omega)).trans ((hf1676.1 507 (by first | decide | omega)).trans ((hf1645.1 507 (by first | decide | omega)).trans (ha1619)))
        have h1725 := (hf1721.1 508 (by first | decide | omega)).trans ((hf1676.1 508 (by first | decide | omega)).trans ((hf1645.1 508 (by first | decide | omega)).trans (ha1620)))
        have h1726 := (hf1721.1 509 (by first | decide | omega)).trans ((hf1676.1 509 (by first | decide | omega)).trans ((hf1645.1 509 (by first | decide | omega)).trans (ha1621)))
        have h1727 := (hf1721.1 510 (by first | decide | omega)).trans ((hf1676.1 510 (by first | decide | omega)).trans ((hf1645.1 510 (by first | decide | omega)).trans (ha1622)))
        have h1728 := (hf1721.1 516 (by first | decide | omega)).trans ((hf1676.1 516 (by first | decide | omega)).trans (ha1644))
        have h1729 := (hf1721.1 525 (by first | decide | omega)).trans (ha1674)
        have h1730 := (hf1721.1 526 (by first | decide | omega)).trans (ha1675)
        have h1731 := (hf1721.1 504 (by first | decide | omega)).trans ((hf1676.1 504 (by first | decide | omega)).trans ((hf1645.1 504 (by first | decide | omega)).trans (ho1616)))
        exact ⟨r1701, St1702, X_nn N nc v1426 i (j - i) pa ho, nW1607, nF1608, nL1609, nP1610, nH1611, nC1612, fF1703, fE1704, fP1705, fH1706, fW1707, fK1708, fN1709, tl1641, hF1668, hE1669, rfl, (by
              have hz := X_mk_w (N := N) (nc := nc) hT hp1430 hp1432 hp1671
              rw [hp1711] at hz
              exact hz), (by
              have hz := hW1677.2.2.2
              rw [hp1711] at hz
              exact hz), hp1712, hp1614, hp1615, ho1713, h1731, h1722, h1723, h1724, h1725, h1726, h1727, ha1714, ha1715, ha1716, ha1717, ha1718, ha1719, ha1720, h1728, h1729, h1730, ((((((X_Fr.rf).tr (X_Fr.of n1398 e1399 (by first | decide | exact ⟨Nat.le_add_right _ _, Nat.add_le_add_left (by decide) _⟩ | omega))).tr (X_Fr.mono ⟨hf1438.1, hf1438.2⟩ (fun q hq => (by omega)))).tr (X_Fr.mono ⟨hf1623.1, hf1623.2⟩ (fun q hq => (by omega)))).tr (X_Fr.mono ⟨hf1645.1, hf1645.2⟩ (fun q hq => (by omega)))).tr (X_Fr.mono ⟨hf1676.1, hf1676.2⟩ (fun q hq => (by omega)))).tr (X_Fr.mono ⟨hf1721.1, hf1721.2⟩ (fun q hq => (by omega)))⟩
    · skip
      have c1593 : ¬ (¬ v1426 = (-1)) := c1593
      exact (show False by omega).elim
end
section
theorem xr_40_0 : X_row 40 0 = some (0, (.aload_n 0, 1), (0, 0, 0)) := by decide +kernel
theorem xr_40_1 : X_row 40 1 = some (1, (.getfield 52, 3), (2, 2, 22)) := by decide +kernel
theorem xr_40_4 : X_row 40 4 = some (4, (.invokevirtual 56, 3), (83, 0, 0)) := by decide +kernel
theorem xr_40_7 : X_row 40 7 = some (7, (.aload_n 0, 1), (0, 0, 0)) := by decide +kernel
theorem xr_40_8 : X_row 40 8 = some (8, (.iconst 0, 1), (0, 0, 0)) := by decide +kernel
theorem xr_40_9 : X_row 40 9 = some (9, (.putfield 9, 3), (2, 3, 24)) := by decide +kernel
theorem xr_40_12 : X_row 40 12 = some (12, (.aload_n 0, 1), (0, 0, 0)) := by decide +kernel
theorem xr_40_13 : X_row 40 13 = some (13, (.iconst 0, 1), (0, 0, 0)) := by decide +kernel
theorem xr_40_14 : X_row 40 14 = some (14, (.aload_n 0, 1), (0, 0, 0)) := by decide +kernel
theorem xr_40_15 : X_row 40 15 = some (15, (.getfield 48, 3), (2, 1, 20)) := by decide +kernel
theorem xr_40_18 : X_row 40 18 = some (18, (.getfield 61, 3), (6, 0, 15)) := by decide +kernel
theorem xr_40_21 : X_row 40 21 = some (21, (.iconst (-1), 1), (0, 0, 0)) := by decide +kernel
theorem xr_40_22 : X_row 40 22 = some (22, (.iconst (-1), 1), (0, 0, 0)) := by decide +kernel
theorem xr_40_23 : X_row 40 23 = some (23, (.invokevirtual 66, 3), (41, 2, 0)) := by decide +kernel
theorem xr_40_26 : X_row 40 26 = some (26, (.aload_n 0, 1), (0, 0, 0)) := by decide +kernel
theorem xr_40_27 : X_row 40 27 = some (27, (.iconst (-1), 1), (0, 0, 0)) := by decide +kernel
theorem xr_40_28 : X_row 40 28 = some (28, (.iconst (-1), 1), (0, 0, 0)) := by decide +kernel
theorem xr_40_29 : X_row 40 29 = some (29, (.lload_n 1, 1), (0, 0, 0)) := by decide +kernel
theorem xr_40_30 : X_row 40 30 = some (30, (.invokevirtual 70, 3), (42, 4, 0)) := by decide +kernel
theorem xr_40_33 : X_row 40 33 = some (33, (.iconst 0, 1), (0, 0, 0)) := by decide +kernel
theorem xr_40_34 : X_row 40 34 = some (34, (.istore_n 3, 1), (0, 0, 0)) := by decide +kernel
theorem xr_40_35 : X_row 40 35 = some (35, (.iload_n 3, 1), (0, 0, 0)) := by decide +kernel
theorem xr_40_36 : X_row 40 36 = some (36, (.bipush 30, 2), (0, 0, 0)) := by decide +kernel
theorem xr_40_38 : X_row 40 38 = some (38, (.if_icmp .ge 20, 3), (0, 0, 0)) := by decide +kernel
theorem xr_40_41 : X_row 40 41 = some (41, (.aload_n 0, 1), (0, 0, 0)) := by decide +kernel
theorem xr_40_42 : X_row 40 42 = some (42, (.getfield 9, 3), (2, 3, 24)) := by decide +kernel
theorem xr_40_45 : X_row 40 45 = some (45, (.ifCond .le 13, 3), (0, 0, 0)) := by decide +kernel
theorem xr_40_48 : X_row 40 48 = some (48, (.aload_n 0, 1), (0, 0, 0)) := by decide +kernel
theorem xr_40_49 : X_row 40 49 = some (49, (.invokevirtual 74, 3), (43, 6, 0)) := by decide +kernel
theorem xr_40_52 : X_row 40 52 = some (52, (.iinc 3 1, 3), (0, 0, 0)) := by decide +kernel
theorem xr_40_55 : X_row 40 55 = some (55, (.goto (-20), 3), (0, 0, 0)) := by decide +kernel
theorem xr_40_58 : X_row 40 58 = some (58, (.return_, 1), (0, 0, 0)) := by decide +kernel
theorem xr_83_0 : X_row 83 0 = some (0, (.aload_n 0, 1), (0, 0, 0)) := by decide +kernel
theorem xr_83_1 : X_row 83 1 = some (1, (.iconst 0, 1), (0, 0, 0)) := by decide +kernel
theorem xr_83_2 : X_row 83 2 = some (2, (.putfield 9, 3), (5, 0, 0)) := by decide +kernel
theorem xr_83_5 : X_row 83 5 = some (5, (.return_, 1), (0, 0, 0)) := by decide +kernel
theorem xn_40 : X_nL 40 = 4 := by decide +kernel
theorem xf_40 : X_na 40 = 1 ∧ X_ci 40 = 2 ∧ X_rt 40 = none := by decide +kernel
theorem xn_83 : X_nL 83 = 1 := by decide +kernel
theorem xf_83 : X_na 83 = 0 ∧ X_ci 83 = 5 ∧ X_rt 83 = none := by decide +kernel
set_option maxHeartbeats 3000000 in
theorem c_find (sc : X_Sc) (S : X_S) (oK : Int → Int64) (oW : Int → Int64) (oA : Int → Int64) (oH : Int → Int64) (tl : Int → Int64) (nW : Int → Int) (nF : Int → Int) (nL : Int → Int) (nP : Int → Int) (nH : Int → Int) (nC : Int → Int) (fF : Int → Int) (fE : Int → Int) (fP : Int → Int) (fH : Int → Int) (fW : Int → Int) (fK : Int → Int) (fN : Int → Int64) (hF : Int → Int) (hE : Int → Int) (B : Nat) (rc : Int) (rn : Int → Int64) (kn : Int → Int64) (G : X_G) (tn : Int) (fl : Int) (wt : Int) (nc : Int) (k : Nat) (hO501 : S.1 501 = .inr (6, [.int (iI tn), .ref 502, .ref 503])) (hO511 : S.1 511 = .inr (1, [.ref B, .ref 501, .int (iI fl), .ref 512, .ref 513, .ref 514, .ref 515, .ref 516])) (hO517 : S.1 517 = .inr (2, [.ref 511, .ref 501, .ref 504, .int (iI wt), .ref 518, .ref 519, .ref 520, .ref 521, .ref 522, .ref 523, .ref 524, .ref 525, .ref 526])) (hO504 : S.1 504 = .inr (5, [.int (iI nc), .ref 505, .ref 506, .ref 507, .ref 508, .ref 509, .ref 510])) (hA512 : S.1 512 = .inl (.long, 5115, .inr (.inl fun k : Nat => oK (k : Int)))) (hA513 : S.1 513 = .inl (.long, 13950, .inr (.inl fun k : Nat => oW (k : Int)))) (hA514 : S.1 514 = .inl (.long, 465, .inr (.inl fun k : Nat => oA (k : Int)))) (hA515 : S.1 515 = .inl (.long, 55800, .inr (.inl fun k : Nat => oH (k : Int)))) (hA516 : S.1 516 = .inl (.long, 7200, .inr (.inl fun k : Nat => tl (k : Int)))) (hA505 : S.1 505 = .inl (.int, 30, .inl fun k : Nat => iI (nW (k : Int)))) (hA506 : S.1 506 = .inl (.int, 30, .inl fun k : Nat => iI (nF (k : Int)))) (hA507 : S.1 507 = .inl (.int, 30, .inl fun k : Nat => iI (nL (k : Int)))) (hA508 : S.1 508 = .inl (.int, 30, .inl fun k : Nat => iI (nP (k : Int)))) (hA509 : S.1 509 = .inl (.int, 30, .inl fun k : Nat => iI (nH (k : Int)))) (hA510 : S.1 510 = .inl (.int, 120, .inl fun k : Nat => iI (nC (k : Int)))) (hA518 : S.1 518 = .inl (.int, 30, .inl fun k : Nat => iI (fF (k : Int)))) (hA519 : S.1 519 = .inl (.int, 30, .inl fun k : Nat => iI (fE (k : Int)))) (hA520 : S.1 520 = .inl (.int, 30, .inl fun k : Nat => iI (fP (k : Int)))) (hA521 : S.1 521 = .inl (.int, 30, .inl fun k : Nat => iI (fH (k : Int)))) (hA522 : S.1 522 = .inl (.int, 30, .inl fun k : Nat => iI (fW (k : Int)))) (hA523 : S.1 523 = .inl (.int, 30, .inl fun k : Nat => iI (fK (k : Int)))) (hA524 : S.1 524 = .inl (.long, 30, .inr (.inl fun k : Nat => fN (k : Int)))) (hA525 : S.1 525 = .inl (.int, 4, .inl fun k : Nat => iI (hF (k : Int)))) (hA526 : S.1 526 = .inl (.int, 4, .inl fun k : Nat => iI (hE (k : Int)))) (hB : B = 4 ∨ B = 250) (hb : C_bk S B rc (gk G) (gw G) rn (gl G) kn (ga G)) (hs : C_ws S B (gD G) (gW G)) (hG : X_Gok G) (htn : 1 ≤ tn ∧ tn ≤ 30) (hA502 : S.1 502 = .inl (.long, 30, .inr (.inl fun k : Nat => (gt G) (k : Int)))) (hcht : X_cht G (-2) tn oK oW oA oH) (hk : k < X_all G 0 tn) (hkm : k ≤ 9223372036854775807) : X_T sc 40 (0, [(0, .ref 517), (1, .long (iL (k : Int)))], [], S) (fun v S' => ∃ (r1 : Int) (nc1 : Int) (St1 : Int → X_It) (N1 : Int → Int → Int) (nW1 : Int → Int) (nF1 : Int → Int) (nL1 : Int → Int) (nP1 : Int → Int) (nH1 : Int → Int) (nC1 : Int → Int) (fF1 : Int → Int) (fE1 : Int → Int) (fP1 : Int → Int) (fH1 : Int → Int) (fW1 : Int → Int) (fK1 : Int → Int) (fN1 : Int → Int64) (tl1 : Int → Int64) (hF1 : Int → Int) (hE1 : Int → Int), v = none ∧ X_rd G tn k = (r1, St1, nc1, N1) ∧ (r1 ≤ 0 ∧ 0 ≤ nc1 ∧ nc1 ≤ tn) ∧ F_nd nc1 N1 nW1 nF1 nL1 nP1 nH1 ∧ F_ch nc1 N1 nC1 ∧ S'.1 517 = .inr (2, [.ref 511, .ref 501, .ref 504, .int (iI r1), .ref 518, .ref 519, .ref 520, .ref 521, .ref 522, .ref 523, .ref 524, .ref 525, .ref 526]) ∧ S'.1 504 = .inr (5, [.int (iI nc1), .ref 505, .ref 506, .ref 507, .ref 508, .ref 509, .ref 510]) ∧ S'.1 505 = .inl (.int, 30, .inl fun k : Nat => iI (nW1 (k : Int))) ∧ S'.1 506 = .inl (.int, 30, .inl fun k : Nat => iI (nF1 (k : Int))) ∧ S'.1 507 = .inl (.int, 30, .inl fun k : Nat => iI (nL1 (k : Int))) ∧ S'.1 508 = .inl (.int, 30, .inl fun k : Nat => iI (nP1 (k : Int))) ∧ S'.1 509 = .inl (.int, 30, .inl fun k : Nat => iI (nH1 (k : Int))) ∧ S'.1 510 = .inl (.int, 120, .inl fun k : Nat => iI (nC1 (k : Int))) ∧ S'.1 518 = .inl (.int, 30, .inl fun k : Nat => iI (fF1 (k : Int))) ∧ S'.1 519 = .inl (.int, 30, .inl fun k : Nat => iI (fE1 (k : Int))) ∧ S'.1 520 = .inl (.int, 30, .inl fun k : Nat => iI (fP1 (k : Int))) ∧ S'.1 521 = .inl (.int, 30, .inl fun k : Nat => iI (fH1 (k : Int))) ∧ S'.1 522 = .inl (.int, 30, .inl fun k : Nat => iI (fW1 (k : Int))) ∧ S'.1 523 = .inl (.int, 30, .inl fun k : Nat => iI (fK1 (k : Int))) ∧ S'.1 524 = .inl (.long, 30, .inr (.inl fun k : Nat => fN1 (k : Int))) ∧ S'.1 516 = .inl (.long, 7200, .inr (.inl fun k : Nat => tl1 (k : Int))) ∧ S'.1 525 = .inl (.int, 4, .inl fun k : Nat => iI (hF1 (k : Int))) ∧ S'.1 526 = .inl (.int, 4, .inl fun k : Nat => iI (hE1 (k : Int))) ∧ (X_Fr (fun q => (504 ≤ q ∧ q ≤ 510) ∨ (516 ≤ q ∧ q ≤ 526)) S S')) := by
  obtain ⟨hb0, hb1, hb2, hb3, hb4, ⟨f, hb5, hf⟩, ⟨hrc, hrcb⟩, ⟨hkc, hkcb⟩, ⟨hwc, hwcb⟩⟩ := id hb
  refine X_QI (fun Q hQ => ?_)
  refine T_p xr_40_0 xn_40 (pc' := 1) (ls' := [(0, .ref 517), (1, .long (iL (k : Int)))]) (st' := [.ref 517]) rfl ?_
  refine T_get xr_40_1 hO517 rfl (v := .ref 504) rfl (pc' := 4) rfl ?_
  refine T_cv (S := S) (q := 504) xr_40_4 xf_83.1 xf_83.2.1 xn_83 (as := []) (r := []) rfl hO504 (Nat.le_of_ble_eq_true rfl) (Nat.le_of_ble_eq_true rfl) (pc' := 7) rfl (ls' := [(0, .ref 504)]) rfl ?_
  refine T_p xr_83_0 xn_83 (pc' := 1) (ls' := [(0, .ref 504)]) (st' := [.ref 504]) rfl ?_
  refine T_p xr_83_1 xn_83 (pc' := 2) (ls' := [(0, .ref 504)]) (st' := [.int (iI 0), .ref 504]) rfl ?_
  refine T_put xr_83_2 hO504 rfl (Nat.le_of_ble_eq_true rfl) rfl (fs' := [.int (iI 0), .ref 505, .ref 506, .ref 507, .ref 508, .ref 509, .ref 510]) rfl (pc' := 5) rfl (fun S1732 h1733 n1734 e1735 => ?_)
  refine T_vret xr_83_5 xf_83.2.2 ?_
  show X_T sc 40 (7, [(0, .ref 517), (1, .long (iL (k : Int)))], [], S1732) _
  refine T_p xr_40_7 xn_40 (pc' := 8) (ls' := [(0, .ref 517), (1, .long (iL (k : Int)))]) (st' := [.ref 517]) rfl ?_
  refine T_p xr_40_8 xn_40 (pc' := 9) (ls' := [(0, .ref 517), (1, .long (iL (k : Int)))]) (st' := [.int (iI 0), .ref 517]) rfl ?_
  have h1736 := (n1734 517 (by decide)).trans (hO517)
  refine T_put xr_40_9 h1736 rfl (Nat.le_of_ble_eq_true rfl) rfl (fs' := [.ref 511, .ref 501, .ref 504, .int (iI 0), .ref 518, .ref 519, .ref 520, .ref 521, .ref 522, .ref 523, .ref 524, .ref 525, .ref 526]) rfl (pc' := 12) rfl (fun S1737 h1738 n1739 e1740 => ?_)
  refine T_p xr_40_12 xn_40 (pc' := 13) (ls' := [(0, .ref 517), (1, .long (iL (k : Int)))]) (st' := [.ref 517]) rfl ?_
  refine T_p xr_40_13 xn_40 (pc' := 14) (ls' := [(0, .ref 517), (1, .long (iL (k : Int)))]) (st' := [.int (iI 0), .ref 517]) rfl ?_
  refine T_p xr_40_14 xn_40 (pc' := 15) (ls' := [(0, .ref 517), (1, .long (iL (k : Int)))]) (st' := [.ref 517, .int (iI 0), .ref 517]) rfl ?_
  refine T_get xr_40_15 h1738 rfl (v := .ref 501) rfl (pc' := 18) rfl ?_
  have h1741 := (n1739 501 (by decide)).trans ((n1734 501 (by decide)).trans (hO501))
  refine T_get xr_40_18 h1741 rfl (v := .int (iI tn)) rfl (pc' := 21) rfl ?_
  refine T_p xr_40_21 xn_40 (pc' := 22) (ls' := [(0, .ref 517), (1, .long (iL (k : Int)))]) (st' := [.int (iI (-1)), .int (iI tn), .int (iI 0), .ref 517]) rfl ?_
  refine T_p xr_40_22 xn_40 (pc' := 23) (ls' := [(0, .ref 517), (1, .long (iL (k : Int)))]) (st' := [.int (iI (-1)), .int (iI (-1)), .int (iI tn), .int (iI 0), .ref 517]) rfl ?_
  refine T_cv (S := S1737) (q := 517) xr_40_23 xf_41.1 xf_41.2.1 xn_41 (as := [.int (iI 0), .int (iI tn), .int (iI (-1)), .int (iI (-1))]) (r := []) rfl h1738 (Nat.le_of_ble_eq_true rfl) (Nat.le_of_ble_eq_true rfl) (pc' := 26) rfl (ls' := [(0, .ref 517), (1, .int (iI 0)), (2, .int (iI tn)), (3, .int (iI (-1))), (4, .int (iI (-1)))]) rfl ?_
  refine T_p xr_41_0 xn_41 (pc' := 1) (ls' := [(0, .ref 517), (1, .int (iI 0)), (2, .int (iI tn)), (3, .int (iI (-1))), (4, .int (iI (-1)))]) (st' := [.ref 517]) rfl ?_
  refine T_get xr_41_1 h1738 rfl (v := .int (iI 0)) rfl (pc' := 4) rfl ?_
  refine T_p xr_41_4 xn_41 (pc' := 6) (ls' := [(0, .ref 517), (1, .int (iI 0)), (2, .int (iI tn)), (3, .int (iI (-1))), (4, .int (iI (-1)))]) (st' := [.int (iI 30), .int (iI 0)]) rfl ?_
  refine T_zicmp_gef xr_41_6 (t := 60) (pc' := 9) rfl rfl (by decide) ?_
  refine T_p xr_41_9 xn_41 (pc' := 10) (ls' := [(0, .ref 517), (1, .int (iI 0)), (2, .int (iI tn)), (3, .int (iI (-1))), (4, .int (iI (-1)))]) (st' := [.ref 517]) rfl ?_
  refine T_get xr_41_10 h1738 rfl (v := .ref 518) rfl (pc' := 13) rfl ?_
  refine T_p xr_41_13 xn_41 (pc' := 14) (ls' := [(0, .ref 517), (1, .int (iI 0)), (2, .int (iI tn)), (3, .int (iI (-1))), (4, .int (iI (-1)))]) (st' := [.ref 517, .ref 518]) rfl ?_
  refine T_get xr_41_14 h1738 rfl (v := .int (iI 0)) rfl (pc' := 17) rfl ?_
  refine T_p xr_41_17 xn_41 (pc' := 18) (ls' := [(0, .ref 517), (1, .int (iI 0)), (2, .int (iI tn)), (3, .int (iI (-1))), (4, .int (iI (-1)))]) (st' := [.int (iI 0), .int (iI 0), .ref 518]) rfl ?_
  have h1742 := (n1739 518 (by decide)).trans ((n1734 518 (by decide)).trans (hA518))
  refine T_ziast xr_41_18 h1742 (pc' := 19) rfl (fun S1743 h1744 n1745 e1746 => ?_)
  refine T_p xr_41_19 xn_41 (pc' := 20) (ls' := [(0, .ref 517), (1, .int (iI 0)), (2, .int (iI tn)), (3, .int (iI (-1))), (4, .int (iI (-1)))]) (st' := [.ref 517]) rfl ?_
  have h1747 := (n1745 517 (by decide)).trans (h1738)
  refine T_get xr_41_20 h1747 rfl (v := .ref 519) rfl (pc' := 23) rfl ?_
  refine T_p xr_41_23 xn_41 (pc' := 24) (ls' := [(0, .ref 517), (1, .int (iI 0)), (2, .int (iI tn)), (3, .int (iI (-1))), (4, .int (iI (-1)))]) (st' := [.ref 517, .ref 519]) rfl ?_
  refine T_get xr_41_24 h1747 rfl (v := .int (iI 0)) rfl (pc' := 27) rfl ?_
  refine T_p xr_41_27 xn_41 (pc' := 28) (ls' := [(0, .ref 517), (1, .int (iI 0)), (2, .int (iI tn)), (3, .int (iI (-1))), (4, .int (iI (-1)))]) (st' := [.int (iI tn), .int (iI 0), .ref 519]) rfl ?_
  have h1748 := (n1745 519 (by decide)).trans ((n1739 519 (by decide)).trans ((n1734 519 (by decide)).trans (hA519)))
  refine T_ziast xr_41_28 h1748 (pc' := 29) rfl (fun S1749 h1750 n1751 e1752 => ?_)
  refine T_p xr_41_29 xn_41 (pc' := 30) (ls' := [(0, .ref 517), (1, .int (iI 0)), (2, .int (iI tn)), (3, .int (iI (-1))), (4, .int (iI (-1)))]) (st' := [.ref 517]) rfl ?_
  have h1753 := (n1751 517 (by decide)).trans (h1747)
  refine T_get xr_41_30 h1753 rfl (v := .ref 520) rfl (pc' := 33) rfl ?_
  refine T_p xr_41_33 xn_41 (pc' := 34) (ls' := [(0, .ref 517), (1, .int (iI 0)), (2, .int (iI tn)), (3, .int (iI (-1))), (4, .int (iI (-1)))]) (st' := [.ref 517, .ref 520]) rfl ?_
  refine T_get xr_41_34 h1753 rfl (v := .int (iI 0)) rfl (pc' := 37) rfl ?_
  refine T_p xr_41_37 xn_41 (pc' := 38) (ls' := [(0, .ref 517), (1, .int (iI 0)), (2, .int (iI tn)), (3, .int (iI (-1))), (4, .int (iI (-1)))]) (st' := [.int (iI (-1)), .int (iI 0), .ref 520]) rfl ?_
  have h1754 := (n1751 520 (by decide)).trans ((n1745 520 (by decide)).trans ((n1739 520 (by decide)).trans ((n1734 520 (by decide)).trans (hA520))))
  refine T_ziast xr_41_38 h1754 (pc' := 39) rfl (fun S1755 h1756 n1757 e1758 => ?_)
  refine T_p xr_41_39 xn_41 (pc' := 40) (ls' := [(0, .ref 517), (1, .int (iI 0)), (2, .int (iI tn)), (3, .int (iI (-1))), (4, .int (iI (-1)))]) (st' := [.ref 517]) rfl ?_
  have h1759 := (n1757 517 (by decide)).trans (h1753)
  refine T_get xr_41_40 h1759 rfl (v := .ref 521) rfl (pc' := 43) rfl ?_
  refine T_p xr_41_43 xn_41 (pc' := 44) (ls' := [(0, .ref 517), (1, .int (iI 0)), (2, .int (iI tn)), (3, .int (iI (-1))), (4, .int (iI (-1)))]) (st' := [.ref 517, .ref 521]) rfl ?_
  refine T_get xr_41_44 h1759 rfl (v := .int (iI 0)) rfl (pc' := 47) rfl ?_
  refine T_p xr_41_47 xn_41 (pc' := 49) (ls' := [(0, .ref 517), (1, .int (iI 0)), (2, .int (iI tn)), (3, .int (iI (-1))), (4, .int (iI (-1)))]) (st' := [.int (iI (-1)), .int (iI 0), .ref 521]) rfl ?_
  have h1760 := (n1757 521 (by decide)).trans ((n1751 521 (by decide)).trans ((n1745 521 (by decide)).trans ((n1739 521 (by decide)).trans ((n1734 521 (by decide)).trans (hA521)))))
  refine T_ziast xr_41_49 h1760 (pc' := 50) rfl (fun S1761 h1762 n1763 e1764 => ?_)
  refine T_p xr_41_50 xn_41 (pc' := 51) (ls' := [(0, .ref 517), (1, .int (iI 0)), (2, .int (iI tn)), (3, .int (iI (-1))), (4, .int (iI (-1)))]) (st' := [.ref 517]) rfl ?_
  refine T_p xr_41_51 xn_41 (pc' := 52) (ls' := [(0, .ref 517), (1, .int (iI 0)), (2, .int (iI tn)), (3, .int (iI (-1))), (4, .int (iI (-1)))]) (st' := [.ref 517, .ref 517]) rfl ?_
  have h1765 := (n1763 517 (by decide)).trans (h1759)
  refine T_get xr_41_52 h1765 rfl (v := .int (iI 0)) rfl (pc' := 55) rfl ?_
  refine T_p xr_41_55 xn_41 (pc' := 56) (ls' := [(0, .ref 517), (1, .int (iI 0)), (2, .int (iI tn)), (3, .int (iI (-1))), (4, .int (iI (-1)))]) (st' := [.int (iI 1), .int (iI 0), .ref 517]) rfl ?_
  refine T_ziadd xr_41_56 (z := 1) (by decide) (pc' := 57) rfl ?_
  refine T_put xr_41_57 h1765 rfl (Nat.le_of_ble_eq_true rfl) rfl (fs' := [.ref 511, .ref 501, .ref 504, .int (iI 1), .ref 518, .ref 519, .ref 520, .ref 521, .ref 522, .ref 523, .ref 524, .ref 525, .ref 526]) rfl (pc' := 60) rfl (fun S1766 h1767 n1768 e1769 => ?_)
  refine T_vret xr_41_60 xf_41.2.2 ?_
  show X_T sc 40 (26, [(0, .ref 517), (1, .long (iL (k : Int)))], [], S1766) _
  refine T_p xr_40_26 xn_40 (pc' := 27) (ls' := [(0, .ref 517), (1, .long (iL (k : Int)))]) (st' := [.ref 517]) rfl ?_
  refine T_p xr_40_27 xn_40 (pc' := 28) (ls' := [(0, .ref 517), (1, .long (iL (k : Int)))]) (st' := [.int (iI (-1)), .ref 517]) rfl ?_
  refine T_p xr_40_28 xn_40 (pc' := 29) (ls' := [(0, .ref 517), (1, .long (iL (k : Int)))]) (st' := [.int (iI (-1)), .int (iI (-1)), .ref 517]) rfl ?_
  refine T_p xr_40_29 xn_40 (pc' := 30) (ls' := [(0, .ref 517), (1, .long (iL (k : Int)))]) (st' := [.long (iL (k : Int)), .int (iI (-1)), .int (iI (-1)), .ref 517]) rfl ?_
  refine T_cv (S := S1766) (q := 517) xr_40_30 xf_42.1 xf_42.2.1 xn_42 (as := [.int (iI (-1)), .int (iI (-1)), .long (iL (k : Int))]) (r := []) rfl h1767 (Nat.le_of_ble_eq_true rfl) (Nat.le_of_ble_eq_true rfl) (pc' := 33) rfl (ls' := [(0, .ref 517), (1, .int (iI (-1))), (2, .int (iI (-1))), (3, .long (iL (k : Int)))]) rfl ?_
  refine T_p xr_42_0 xn_42 (pc' := 1) (ls' := [(0, .ref 517), (1, .int (iI (-1))), (2, .int (iI (-1))), (3, .long (iL (k : Int)))]) (st' := [.ref 517]) rfl ?_
  refine T_get xr_42_1 h1767 rfl (v := .int (iI 1)) rfl (pc' := 4) rfl ?_
  refine T_zif_lef xr_42_4 (t := 43) (pc' := 7) rfl rfl (by decide) ?_
  refine T_p xr_42_7 xn_42 (pc' := 8) (ls' := [(0, .ref 517), (1, .int (iI (-1))), (2, .int (iI (-1))), (3, .long (iL (k : Int)))]) (st' := [.ref 517]) rfl ?_
  refine T_get xr_42_8 h1767 rfl (v := .ref 522) rfl (pc' := 11) rfl ?_
  refine T_p xr_42_11 xn_42 (pc' := 12) (ls' := [(0, .ref 517), (1, .int (iI (-1))), (2, .int (iI (-1))), (3, .long (iL (k : Int)))]) (st' := [.ref 517, .ref 522]) rfl ?_
  refine T_get xr_42_12 h1767 rfl (v := .int (iI 1)) rfl (pc' := 15) rfl ?_
  refine T_p xr_42_15 xn_42 (pc' := 16) (ls' := [(0, .ref 517), (1, .int (iI (-1))), (2, .int (iI (-1))), (3, .long (iL (k : Int)))]) (st' := [.int (iI 1), .int (iI 1), .ref 522]) rfl ?_
  refine T_zisub xr_42_16 (z := 0) (by decide) (pc' := 17) rfl ?_
  refine T_p xr_42_17 xn_42 (pc' := 18) (ls' := [(0, .ref 517), (1, .int (iI (-1))), (2, .int (iI (-1))), (3, .long (iL (k : Int)))]) (st' := [.int (iI (-1)), .int (iI 0), .ref 522]) rfl ?_
  have h1770 := (n1768 522 (by decide)).trans ((n1763 522 (by decide)).trans ((n1757 522 (by decide)).trans ((n1751 522 (by decide)).trans ((n1745 522 (by decide)).trans ((n1739 522 (by decide)).trans ((n1734 522 (by decide)).trans (hA522)))))))
  refine T_ziast xr_42_18 h1770 (pc' := 19) rfl (fun S1771 h1772 n1773 e1774 => ?_)
  refine T_p xr_42_19 xn_42 (pc' := 20) (ls' := [(0, .ref 517), (1, .int (iI (-1))), (2, .int (iI (-1))), (3, .long (iL (k : Int)))]) (st' := [.ref 517]) rfl ?_
  have h1775 := (n1773 517 (by decide)).trans (h1767)
  refine T_get xr_42_20 h1775 rfl (v := .ref 523) rfl (pc' := 23) rfl ?_
  refine T_p xr_42_23 xn_42 (pc' := 24) (ls' := [(0, .ref 517), (1, .int (iI (-1))), (2, .int (iI (-1))), (3, .long (iL (k : Int)))]) (st' := [.ref 517, .ref 523]) rfl ?_
  refine T_get xr_42_24 h1775 rfl (v := .int (iI 1)) rfl (pc' := 27) rfl ?_
  refine T_p xr_42_27 xn_42 (pc' := 28) (ls' := [(0, .ref 517), (1, .int (iI (-1))), (2, .int (iI (-1))), (3, .long (iL (k : Int)))]) (st' := [.int (iI 1), .int (iI 1), .ref 523]) rfl ?_
  refine T_zisub xr_42_28 (z := 0) (by decide) (pc' := 29) rfl ?_
  refine T_p xr_42_29 xn_42 (pc' := 30) (ls' := [(0, .ref 517), (1, .int (iI (-1))), (2, .int (iI (-1))), (3, .long (iL (k : Int)))]) (st' := [.int (iI (-1)), .int (iI 0), .ref 523]) rfl ?_
  have h1776 := (n1773 523 (by decide)).trans ((n1768 523 (by decide)).trans ((n1763 523 (by decide)).trans ((n1757 523 (by decide)).trans ((n1751 523 (by decide)).trans ((n1745 523 (by decide)).trans ((n1739 523 (by decide)).trans ((n1734 523 (by decide)).trans (hA523))))))))
  refine T_ziast xr_42_30 h1776 (pc' := 31) rfl (fun S1777 h1778 n1779 e1780 => ?_)
  refine T_p xr_42_31 xn_42 (pc' := 32) (ls' := [(0, .ref 517), (1, .int (iI (-1))), (2, .int (iI (-1))), (3, .long (iL (k : Int)))]) (st' := [.ref 517]) rfl ?_
  have h1781 := (n1779 517 (by decide)).trans (h1775)
  refine T_get xr_42_32 h1781 rfl (v := .ref 524) rfl (pc' := 35) rfl ?_
  refine T_p xr_42_35 xn_42 (pc' := 36) (ls' := [(0, .ref 517), (1, .int (iI (-1))), (2, .int (iI (-1))), (3, .long (iL (k : Int)))]) (st' := [.ref 517, .ref 524]) rfl ?_
  refine T_get xr_42_36 h1781 rfl (v := .int (iI 1)) rfl (pc' := 39) rfl ?_
  refine T_p xr_42_39 xn_42 (pc' := 40) (ls' := [(0, .ref 517), (1, .int (iI (-1))), (2, .int (iI (-1))), (3, .long (iL (k : Int)))]) (st' := [.int (iI 1), .int (iI 1), .ref 524]) rfl ?_
  refine T_zisub xr_42_40 (z := 0) (by decide) (pc' := 41) rfl ?_
  refine T_p xr_42_41 xn_42 (pc' := 42) (ls' := [(0, .ref 517), (1, .int (iI (-1))), (2, .int (iI (-1))), (3, .long (iL (k : Int)))]) (st' := [.long (iL (k : Int)), .int (iI 0), .ref 524]) rfl ?_
  have h1782 := (n1779 524 (by decide)).trans ((n1773 524 (by decide)).trans ((n1768 524 (by decide)).trans ((n1763 524 (by decide)).trans ((n1757 524 (by decide)).trans ((n1751 524 (by decide)).trans ((n1745 524 (by decide)).trans ((n1739 524 (by decide)).trans ((n1734 524 (by decide)).trans (hA524)))))))))
  refine T_zlast xr_42_42 h1782 (pc' := 43) rfl (fun S1783 h1784 n1785 e1786 => ?_)
  refine T_vret xr_42_43 xf_42.2.2 ?_
  show X_T sc 40 (33, [(0, .ref 517), (1, .long (iL (k : Int)))], [], S1783) _
  refine T_p xr_40_33 xn_40 (pc' := 34) (ls' := [(0, .ref 517), (1, .long (iL (k : Int)))]) (st' := [.int (iI 0)]) rfl ?_
  refine T_p xr_40_34 xn_40 (pc' := 35) (ls' := [(3, .int (iI 0)), (0, .ref 517), (1, .long (iL (k : Int)))]) (st' := []) rfl ?_
  have h1792 := (n1785 517 (by decide)).trans (h1781)
  have h1793 := (n1785 505 (by decide)).trans ((n1779 505 (by decide)).trans ((n1773 505 (by decide)).trans ((n1768 505 (by decide)).trans ((n1763 505 (by decide)).trans ((n1757 505 (by decide)).trans ((n1751 505 (by decide)).trans ((n1745 505 (by decide)).trans ((n1739 505 (by decide)).trans ((n1734 505 (by decide)).trans (hA505))))))))))
  have h1794 := (n1785 506 (by decide)).trans ((n1779 506 (by decide)).trans ((n1773 506 (by decide)).trans ((n1768 506 (by decide)).trans ((n1763 506 (by decide)).trans ((n1757 506 (by decide)).trans ((n1751 506 (by decide)).trans ((n1745 506 (by decide)).trans ((n1739 506 (by decide)).trans ((n1734 506 (by decide)).trans (hA506))))))))))
  have h1795 := (n1785 507 (by decide)).trans ((n1779 507 (by decide)).trans ((n1773 507 (by decide)).trans ((n1768 507 (by decide)).trans ((n1763 507 (by decide)).trans ((n1757 507 (by decide)).trans ((n1751 507 (by decide)).trans ((n1745 507 (by decide)).trans ((n1739 507 (by decide)).trans ((n1734 507 (by decide)).trans (hA507))))))))))
  have h1796 := (n1785 508 (by decide)).trans ((n1779 508 (by decide)).trans ((n1773 508 (by decide)).trans ((n1768 508 (by decide)).trans ((n1763 508 (by decide)).trans ((n1757 508 (by decide)).trans ((n1751 508 (by decide)).trans ((n1745 508 (by decide)).trans ((n1739 508 (by decide)).trans ((n1734 508 (by decide)).trans (hA508))))))))))
  have h1797 := (n1785 509 (by decide)).trans ((n1779 509 (by decide)).trans ((n1773 509 (by decide)).trans ((n1768 509 (by decide)).trans ((n1763 509 (by decide)).trans ((n1757 509 (by decide)).trans ((n1751 509 (by decide)).trans ((n1745 509 (by decide)).trans ((n1739 509 (by decide)).trans ((n1734 509 (by decide)).trans (hA509))))))))))
  have h1798 := (n1785 510 (by decide)).trans ((n1779 510 (by decide)).trans ((n1773 510 (by decide)).trans ((n1768 510 (by decide)).trans ((n1763 510 (by decide)).trans ((n1757 510 (by decide)).trans ((n1751 510 (by decide)).trans ((n1745 510 (by decide)).trans ((n1739 510 (by decide)).trans ((n1734 510 (by decide)).trans (hA510))))))))))
  have h1799 := (n1785 518 (by decide)).trans ((n1779 518 (by decide)).trans ((n1773 518 (by decide)).trans ((n1768 518 (by decide)).trans ((n1763 518 (by decide)).trans ((n1757 518 (by decide)).trans ((n1751 518 (by decide)).trans (h1744)))))))
  have h1800 := (n1785 519 (by decide)).trans ((n1779 519 (by decide)).trans ((n1773 519 (by decide)).trans ((n1768 519 (by decide)).trans ((n1763 519 (by decide)).trans ((n1757 519 (by decide)).trans (h1750))))))
  have h1801 := (n1785 520 (by decide)).trans ((n1779 520 (by decide)).trans ((n1773 520 (by decide)).trans ((n1768 520 (by decide)).trans ((n1763 520 (by decide)).trans (h1756)))))
  have h1802 := (n1785 521 (by decide)).trans ((n1779 521 (by decide)).trans ((n1773 521 (by decide)).trans ((n1768 521 (by decide)).trans (h1762))))
  have h1803 := (n1785 522 (by decide)).trans ((n1779 522 (by decide)).trans (h1772))
  have h1804 := (n1785 523 (by decide)).trans (h1778)
  have h1805 := (n1785 516 (by decide)).trans ((n1779 516 (by decide)).trans ((n1773 516 (by decide)).trans ((n1768 516 (by decide)).trans ((n1763 516 (by decide)).trans ((n1757 516 (by decide)).trans ((n1751 516 (by decide)).trans ((n1745 516 (by decide)).trans ((n1739 516 (by decide)).trans ((n1734 516 (by decide)).trans (hA516))))))))))
  have h1806 := (n1785 525 (by decide)).trans ((n1779 525 (by decide)).trans ((n1773 525 (by decide)).trans ((n1768 525 (by decide)).trans ((n1763 525 (by decide)).trans ((n1757 525 (by decide)).trans ((n1751 525 (by decide)).trans ((n1745 525 (by decide)).trans ((n1739 525 (by decide)).trans ((n1734 525 (by decide)).trans (hA525))))))))))
  have h1807 := (n1785 526 (by decide)).trans ((n1779 526 (by decide)).trans ((n1773 526 (by decide)).trans ((n1768 526 (by decide)).trans ((n1763 526 (by decide)).trans ((n1757 526 (by decide)).trans ((n1751 526 (by decide)).trans ((n1745 526 (by decide)).trans ((n1739 526 (by decide)).trans ((n1734 526 (by decide)).trans (hA526))))))))))
  have h1808 := (n1785 504 (by decide)).trans ((n1779 504 (by decide)).trans ((n1773 504 (by decide)).trans ((n1768 504 (by decide)).trans ((n1763 504 (by decide)).trans ((n1757 504 (by decide)).trans ((n1751 504 (by decide)).trans ((n1745 504 (by decide)).trans ((n1739 504 (by decide)).trans (h1733)))))))))
  have L1787 : ∀ (m1789 : Nat) (S1809 : X_S) (n : Int) (wt1 : Int) (St1 : Int → X_It) (N1 : Int → Int → Int) (nW1 : Int → Int) (nF1 : Int → Int) (nL1 : Int → Int) (nP1 : Int → Int) (nH1 : Int → Int) (nC1 : Int → Int) (fF1 : Int → Int) (fE1 : Int → Int) (fP1 : Int → Int) (fH1 : Int → Int) (fW1 : Int → Int) (fK1 : Int → Int) (fN1 : Int → Int64) (tl1 : Int → Int64) (hF1 : Int → Int) (hE1 : Int → Int) (hO17 : S1809.1 517 = .inr (2, [.ref 511, .ref 501, .ref 504, .int (iI wt1), .ref 518, .ref 519, .ref 520, .ref 521, .ref 522, .ref 523, .ref 524, .ref 525, .ref 526])) (hO04 : S1809.1 504 = .inr (5, [.int (iI n), .ref 505, .ref 506, .ref 507, .ref 508, .ref 509, .ref 510])) (hnW1 : S1809.1 505 = .inl (.int, 30, .inl fun k : Nat => iI (nW1 (k : Int)))) (hnF1 : S1809.1 506 = .inl (.int, 30, .inl fun k : Nat => iI (nF1 (k : Int)))) (hnL1 : S1809.1 507 = .inl (.int, 30, .inl fun k : Nat => iI (nL1 (k : Int)))) (hnP1 : S1809.1 508 = .inl (.int, 30, .inl fun k : Nat => iI (nP1 (k : Int)))) (hnH1 : S1809.1 509 = .inl (.int, 30, .inl fun k : Nat => iI (nH1 (k : Int)))) (hnC1 : S1809.1 510 = .inl (.int, 120, .inl fun k : Nat => iI (nC1 (k : Int)))) (hfF1 : S1809.1 518 = .inl (.int, 30, .inl fun k : Nat => iI (fF1 (k : Int)))) (hfE1 : S1809.1 519 = .inl (.int, 30, .inl fun k : Nat => iI (fE1 (k : Int)))) (hfP1 : S1809.1 520 = .inl (.int, 30, .inl fun k : Nat => iI (fP1 (k : Int)))) (hfH1 : S1809.1 521 = .inl (.int, 30, .inl fun k : Nat => iI (fH1 (k : Int)))) (hfW1 : S1809.1 522 = .inl (.int, 30, .inl fun k : Nat => iI (fW1 (k : Int)))) (hfK1 : S1809.1 523 = .inl (.int, 30, .inl fun k : Nat => iI (fK1 (k : Int)))) (hfN1 : S1809.1 524 = .inl (.long, 30, .inr (.inl fun k : Nat => fN1 (k : Int)))) (htl1 : S1809.1 516 = .inl (.long, 7200, .inr (.inl fun k : Nat => tl1 (k : Int)))) (hhF1 : S1809.1 525 = .inl (.int, 4, .inl fun k : Nat => iI (hF1 (k : Int)))) (hhE1 : S1809.1 526 = .inl (.int, 4, .inl fun k : Nat => iI (hE1 (k : Int)))) (hF1791 : X_Fr (fun q => (504 ≤ q ∧ q ≤ 510) ∨ (516 ≤ q ∧ q ≤ 526)) S1783 S1809) (hn : 0 ≤ n ∧ n ≤ 30) (hX : X_mks G (30 - n).toNat (wt1, St1, n, N1) = X_rd G tn k) (hM : X_Mok G tn (wt1, St1, n, N1)) (hst : F_st G wt1 St1 fF1 fE1 fP1 fH1 fW1 fK1 fN1) (hnd : F_nd n N1 nW1 nF1 nL1 nP1 nH1) (hch : F_ch n N1 nC1) (hm1790 : 30 - n < m1789), X_T sc 40 (35, [(3, .int (iI n)), (0, .ref 517)], [], S1809) Q := by
    intro m1789
    induction m1789 with
    | zero =>
      intro S1809 n wt1 St1 N1 nW1 nF1 nL1 nP1 nH1 nC1 fF1 fE1 fP1 fH1 fW1 fK1 fN1 tl1 hF1 hE1 hO17 hO04 hnW1 hnF1 hnL1 hnP1 hnH1 hnC1 hfF1 hfE1 hfP1 hfH1 hfW1 hfK1 hfN1 htl1 hhF1 hhE1 hF1791 hn hX hM hst hnd hch hm1790
      exact (show False by omega).elim
    | succ m1789 ih1788 =>
      intro S1809 n wt1 St1 N1 nW1 nF1 nL1 nP1 nH1 nC1 fF1 fE1 fP1 fH1 fW1 fK1 fN1 tl1 hF1 hE1 hO17 hO04 hnW1 hnF1 hnL1 hnP1 hnH1 hnC1 hfF1 hfE1 hfP1 hfH1 hfW1 hfK1 hfN1 htl1 hhF1 hhE1 hF1791 hn hX hM hst hnd hch hm1790
      have hle := X_Mok.le hM
      have hw0 : 0 ≤ wt1 := hM.1
      have hM2 : n + (X_Su (X_lw St1) 0 wt1 : Int) ≤ tn := hM.2.2.2
      refine T_p xr_40_35 xn_40 (pc' := 36) (ls' := [(3, .int (iI n)), (0, .ref 517)]) (st' := [.int (iI n)]) rfl ?_
      refine T_p xr_40_36 xn_40 (pc' := 38) (ls' := [(3, .int (iI n)), (0, .ref 517)]) (st' := [.int (iI 30), .int (iI n)]) rfl ?_
      refine T_zicmp_ge xr_40_38 (t := 58) (pc' := 41) rfl rfl (fun c1810 => ?_) (fun c1810 => ?_)
      · skip
        have c1810 : 30 ≤ n := c1810
        refine T_vret xr_40_58 xf_40.2.2 ?_
        refine hQ _ _ ?_
        have he1811 : X_mks G (30 - n).toNat (wt1, St1, n, N1) = (wt1, St1, n, N1) := by
          first
            | exact X_mks_e (show wt1 ≤ 0 by omega)
            | (rw [show (30 - n).toNat = 0 by omega]; rfl)
        have hle := X_Mok.le hM
        have hM2 : n + (X_Su (X_lw St1) 0 wt1 : Int) ≤ tn := hM.2.2.2
        exact ⟨wt1, n, St1, N1, nW1, nF1, nL1, nP1, nH1, nC1, fF1, fE1, fP1, fH1, fW1, fK1, fN1, tl1, hF1, hE1, rfl, (hX.symm.trans he1811), (by omega), hnd, hch, hO17, hO04, hnW1, hnF1, hnL1, hnP1, hnH1, hnC1, hfF1, hfE1, hfP1, hfH1, hfW1, hfK1, hfN1, htl1, hhF1, hhE1, (((((((((((X_Fr.rf).tr (X_Fr.of n1734 e1735 (by first | decide | exact ⟨Nat.le_add_right _ _, Nat.add_le_add_left (by decide) _⟩ | omega))).tr (X_Fr.of n1739 e1740 (by first | decide | exact ⟨Nat.le_add_right _ _, Nat.add_le_add_left (by decide) _⟩ | omega))).tr (X_Fr.of n1745 e1746 (by first | decide | exact ⟨Nat.le_add_right _ _, Nat.add_le_add_left (by decide) _⟩ | omega))).tr (X_Fr.of n1751 e1752 (by first | decide | exact ⟨Nat.le_add_right _ _, Nat.add_le_add_left (by decide) _⟩ | omega))).tr (X_Fr.of n1757 e1758 (by first | decide | exact ⟨Nat.le_add_right _ _, Nat.add_le_add_left (by decide) _⟩ | omega))).tr (X_Fr.of n1763 e1764 (by first | decide | exact ⟨Nat.le_add_right _ _, Nat.add_le_add_left (by decide) _⟩ | omega))).tr (X_Fr.of n1768 e1769 (by first | decide | exact ⟨Nat.le_add_right _ _, Nat.add_le_add_left (by decide) _⟩ | omega))).tr (X_Fr.of n1773 e1774 (by first | decide | exact ⟨Nat.le_add_right _ _, Nat.add_le_add_left (by decide) _⟩ | omega))).tr (X_Fr.of n1779 e1780 (by first | decide | exact ⟨Nat.le_add_right _ _, Nat.add_le_add_left (by decide) _⟩ | omega))).tr (X_Fr.of n1785 e1786 (by first | decide | exact ⟨Nat.le_add_right _ _, Nat.add_le_add_left (by decide) _⟩ | omega))).tr (X_Fr.mono ⟨hF1791.1, hF1791.2⟩ (fun q hq => (by omega)))⟩
      · skip
        have c1810 : ¬ (30 ≤ n) := c1810
        refine T_p xr_40_41 xn_40 (pc' := 42) (ls' := [(3, .int (iI n)), (0, .ref 517)]) (st' := [.ref 517]) rfl ?_
        refine T_get xr_40_42 hO17 rfl (v := .int (iI wt1)) rfl (pc' := 45) rfl ?_
        refine T_zif_le xr_40_45 (t := 58) (pc' := 48) rfl rfl (fun c1812 => ?_) (fun c1812 => ?_)
        · skip
          have c1812 : wt1 ≤ 0 := c1812
          refine T_vret xr_40_58 xf_40.2.2 ?_
          refine hQ _ _ ?_
          have he1813 : X_mks G (30 - n).toNat (wt1, St1, n, N1) = (wt1, St1, n, N1) := by
            first
              | exact X_mks_e (show wt1 ≤ 0 by omega)
              | (rw [show (30 - n).toNat = 0 by omega]; rfl)
          have hle := X_Mok.le hM
          have hM2 : n + (X_Su (X_lw St1) 0 wt1 : Int) ≤ tn := hM.2.2.2
          exact ⟨wt1, n, St1, N1, nW1, nF1, nL1, nP1, nH1, nC1, fF1, fE1, fP1, fH1, fW1, fK1, fN1, tl1, hF1, hE1, rfl, (hX.symm.trans he1813), (by omega), hnd, hch, hO17, hO04, hnW1, hnF1, hnL1, hnP1, hnH1, hnC1, hfF1, hfE1, hfP1, hfH1, hfW1, hfK1, hfN1, htl1, hhF1, hhE1, (((((((((((X_Fr.rf).tr (X_Fr.of n1734 e1735 (by first | decide | exact ⟨Nat.le_add_right _ _, Nat.add_le_add_left (by decide) _⟩ | omega))).tr (X_Fr.of n1739 e1740 (by first | decide | exact ⟨Nat.le_add_right _ _, Nat.add_le_add_left (by decide) _⟩ | omega))).tr (X_Fr.of n1745 e1746 (by first | decide | exact ⟨Nat.le_add_right _ _, Nat.add_le_add_left (by decide) _⟩ | omega))).tr (X_Fr.of n1751 e1752 (by first | decide | exact ⟨Nat.le_add_right _ _, Nat.add_le_add_left (by decide) _⟩ | omega))).tr (X_Fr.of n1757 e1758 (by first | decide | exact ⟨Nat.le_add_right _ _, Nat.add_le_add_left (by decide) _⟩ | omega))).tr (X_Fr.of n1763 e1764 (by first | decide | exact ⟨Nat.le_add_right _ _, Nat.add_le_add_left (by decide) _⟩ | omega))).tr (X_Fr.of n1768 e1769 (by first | decide | exact ⟨Nat.le_add_right _ _, Nat.add_le_add_left (by decide) _⟩ | omega))).tr (X_Fr.of n1773 e1774 (by first | decide | exact ⟨Nat.le_add_right _ _, Nat.add_le_add_left (by decide) _⟩ | omega))).tr (X_Fr.of n1779 e1780 (by first | decide | exact ⟨Nat.le_add_right _ _, Nat.add_le_add_left (by decide) _⟩ | omega))).tr (X_Fr.of n1785 e1786 (by first | decide | exact ⟨Nat.le_add_right _ _, Nat.add_le_add_left (by decide) _⟩ | omega))).tr (X_Fr.mono ⟨hF1791.1, hF1791.2⟩ (fun q hq => (by omega)))⟩
        · skip
          have c1812 : ¬ (wt1 ≤ 0) := c1812
          refine T_p xr_40_48 xn_40 (pc' := 49) (ls' := [(3, .int (iI n)), (0, .ref 517)]) (st' := [.ref 517]) rfl ?_
          refine T_cv (S := S1809) (q := 517) xr_40_49 xf_43.1 xf_43.2.1 xn_43 (as := []) (r := []) rfl hO17 (Nat.le_of_ble_eq_true rfl) (Nat.le_of_ble_eq_true rfl) (pc' := 52) rfl (ls' := [(0, .ref 517)]) rfl ?_
          have h1814 := (hF1791.1 512 (by first | decide | omega)).trans ((n1785 512 (by decide)).trans ((n1779 512 (by decide)).trans ((n1773 512 (by decide)).trans ((n1768 512 (by decide)).trans ((n1763 512 (by decide)).trans ((n1757 512 (by decide)).trans ((n1751 512 (by decide)).trans ((n1745 512 (by decide)).trans ((n1739 512 (by decide)).trans ((n1734 512 (by decide)).trans (hA512)))))))))))
          have h1815 := (hF1791.1 513 (by first | decide | omega)).trans ((n1785 513 (by decide)).trans ((n1779 513 (by decide)).trans ((n1773 513 (by decide)).trans ((n1768 513 (by decide)).trans ((n1763 513 (by decide)).trans ((n1757 513 (by decide)).trans ((n1751 513 (by decide)).trans ((n1745 513 (by decide)).trans ((n1739 513 (by decide)).trans ((n1734 513 (by decide)).trans (hA513)))))))))))
          have h1816 := (hF1791.1 514 (by first | decide | omega)).trans ((n1785 514 (by decide)).trans ((n1779 514 (by decide)).trans ((n1773 514 (by decide)).trans ((n1768 514 (by decide)).trans ((n1763 514 (by decide)).trans ((n1757 514 (by decide)).trans ((n1751 514 (by decide)).trans ((n1745 514 (by decide)).trans ((n1739 514 (by decide)).trans ((n1734 514 (by decide)).trans (hA514)))))))))))
          have h1817 := (hF1791.1 515 (by first | decide | omega)).trans ((n1785 515 (by decide)).trans ((n1779 515 (by decide)).trans ((n1773 515 (by decide)).trans ((n1768 515 (by decide)).trans ((n1763 515 (by decide)).trans ((n1757 515 (by decide)).trans ((n1751 515 (by decide)).trans ((n1745 515 (by decide)).trans ((n1739 515 (by decide)).trans ((n1734 515 (by decide)).trans (hA515)))))))))))
          have h1818 := (hF1791.1 501 (by first | decide | omega)).trans ((n1785 501 (by decide)).trans ((n1779 501 (by decide)).trans ((n1773 501 (by decide)).trans ((n1768 501 (by decide)).trans ((n1763 501 (by decide)).trans ((n1757 501 (by decide)).trans ((n1751 501 (by decide)).trans ((n1745 501 (by decide)).trans (h1741)))))))))
          have h1819 := (hF1791.1 511 (by first | decide | omega)).trans ((n1785 511 (by decide)).trans ((n1779 511 (by decide)).trans ((n1773 511 (by decide)).trans ((n1768 511 (by decide)).trans ((n1763 511 (by decide)).trans ((n1757 511 (by decide)).trans ((n1751 511 (by decide)).trans ((n1745 511 (by decide)).trans ((n1739 511 (by decide)).trans ((n1734 511 (by decide)).trans (hO511)))))))))))
          have h1820 := (hF1791.1 B (by omega)).trans ((n1785 B (by omega)).trans ((n1779 B (by omega)).trans ((n1773 B (by omega)).trans ((n1768 B (by omega)).trans ((n1763 B (by omega)).trans ((n1757 B (by omega)).trans ((n1751 B (by omega)).trans ((n1745 B (by omega)).trans ((n1739 B (by omega)).trans ((n1734 B (by omega)).trans (hb0)))))))))))
          have h1821 := (hF1791.1 (B + 1) (by omega)).trans ((n1785 (B + 1) (by first | exact (fun h => absurd (Nat.add_left_cancel h) (by decide)) | omega)).trans ((n1779 (B + 1) (by first | exact (fun h => absurd (Nat.add_left_cancel h) (by decide)) | omega)).trans ((n1773 (B + 1) (by first | exact (fun h => absurd (Nat.add_left_cancel h) (by decide)) | omega)).trans ((n1768 (B + 1) (by first | exact (fun h => absurd (Nat.add_left_cancel h) (by decide)) | omega)).trans ((n1763 (B + 1) (by first | exact (fun h => absurd (Nat.add_left_cancel h) (by decide)) | omega)).trans ((n1757 (B + 1) (by first | exact (fun h => absurd (Nat.add_left_cancel h) (by decide)) | omega)).trans ((n1751 (B + 1) (by first | exact (fun h => absurd (Nat.add_left_cancel h) (by decide)) | omega)).trans ((n1745 (B + 1) (by first | exact (fun h => absurd (Nat.add_left_cancel h) (by decide)) | omega)).trans ((n1739 (B + 1) (by first | exact (fun h => absurd (Nat.add_left_cancel h) (by decide)) | omega)).trans ((n1734 (B + 1) (by first | exact (fun h => absurd (Nat.add_left_cancel h) (by decide)) | omega)).trans (hb1)))))))))))
          have h1822 := (hF1791.1 (B + 2) (by omega)).trans ((n1785 (B + 2) (by first | exact (fun h => absurd (Nat.add_left_cancel h) (by decide)) | omega)).trans ((n1779 (B + 2) (by first | exact (fun h => absurd (Nat.add_left_cancel h) (by decide)) | omega)).trans ((n1773 (B + 2) (by first | exact (fun h => absurd (Nat.add_left_cancel h) (by decide)) | omega)).trans ((n1768 (B + 2) (by first | exact (fun h => absurd (Nat.add_left_cancel h) (by decide)) | omega)).trans ((n1763 (B + 2) (by first | exact (fun h => absurd (Nat.add_left_cancel h) (by decide)) | omega)).trans ((n1757 (B + 2) (by first | exact (fun h => absurd (Nat.add_left_cancel h) (by decide)) | omega)).trans ((n1751 (B + 2) (by first | exact (fun h => absurd (Nat.add_left_cancel h) (by decide)) | omega)).trans ((n1745 (B + 2) (by first | exact (fun h => absurd (Nat.add_left_cancel h) (by decide)) | omega)).trans ((n1739 (B + 2) (by first | exact (fun h => absurd (Nat.add_left_cancel h) (by decide)) | omega)).trans ((n1734 (B + 2) (by first | exact (fun h => absurd (Nat.add_left_cancel h) (by decide)) | omega)).trans (hb2)))))))))))
          have h1823 := (hF1791.1 (B + 3) (by omega)).trans ((n1785 (B + 3) (by first | exact (fun h => absurd (Nat.add_left_cancel h) (by decide)) | omega)).trans ((n1779 (B + 3) (by first | exact (fun h => absurd (Nat.add_left_cancel h) (by decide)) | omega)).trans ((n1773 (B + 3) (by first | exact (fun h => absurd (Nat.add_left_cancel h) (by decide)) | omega)).trans ((n1768 (B + 3) (by first | exact (fun h => absurd (Nat.add_left_cancel h) (by decide)) | omega)).trans ((n1763 (B + 3) (by first | exact (fun h => absurd (Nat.add_left_cancel h) (by decide)) | omega)).trans ((n1757 (B + 3) (by first | exact (fun h => absurd (Nat.add_left_cancel h) (by decide)) | omega)).trans ((n1751 (B + 3) (by first | exact (fun h => absurd (Nat.add_left_cancel h) (by decide)) | omega)).trans ((n1745 (B + 3) (by first | exact (fun h => absurd (Nat.add_left_cancel h) (by decide)) | omega)).trans ((n1739 (B + 3) (by first | exact (fun h => absurd (Nat.add_left_cancel h) (by decide)) | omega)).trans ((n1734 (B + 3) (by first | exact (fun h => absurd (Nat.add_left_cancel h) (by decide)) | omega)).trans (hb3)))))))))))
          have h1824 := (hF1791.1 (B + 4) (by omega)).trans ((n1785 (B + 4) (by first | exact (fun h => absurd (Nat.add_left_cancel h) (by decide)) | omega)).trans ((n1779 (B + 4) (by first | exact (fun h => absurd (Nat.add_left_cancel h) (by decide)) | omega)).trans ((n1773 (B + 4) (by first | exact (fun h => absurd (Nat.add_left_cancel h) (by decide)) | omega)).trans ((n1768 (B + 4) (by first | exact (fun h => absurd (Nat.add_left_cancel h) (by decide)) | omega)).trans ((n1763 (B + 4) (by first | exact (fun h => absurd (Nat.add_left_cancel h) (by decide)) | omega)).trans ((n1757 (B + 4) (by first | exact (fun h => absurd (Nat.add_left_cancel h) (by decide)) | omega)).trans ((n1751 (B + 4) (by first | exact (fun h => absurd (Nat.add_left_cancel h) (by decide)) | omega)).trans ((n1745 (B + 4) (by first | exact (fun h => absurd (Nat.add_left_cancel h) (by decide)) | omega)).trans ((n1739 (B + 4) (by first | exact (fun h => absurd (Nat.add_left_cancel h) (by decide)) | omega)).trans ((n1734 (B + 4) (by first | exact (fun h => absurd (Nat.add_left_cancel h) (by decide)) | omega)).trans (hb4)))))))))))
          have h1825 := (hF1791.1 (B + 5) (by omega)).trans ((n1785 (B + 5) (by first | exact (fun h => absurd (Nat.add_left_cancel h) (by decide)) | omega)).trans ((n1779 (B + 5) (by first | exact (fun h => absurd (Nat.add_left_cancel h) (by decide)) | omega)).trans ((n1773 (B + 5) (by first | exact (fun h => absurd (Nat.add_left_cancel h) (by decide)) | omega)).trans ((n1768 (B + 5) (by first | exact (fun h => absurd (Nat.add_left_cancel h) (by decide)) | omega)).trans ((n1763 (B + 5) (by first | exact (fun h => absurd (Nat.add_left_cancel h) (by decide)) | omega)).trans ((n1757 (B + 5) (by first | exact (fun h => absurd (Nat.add_left_cancel h) (by decide)) | omega)).trans ((n1751 (B + 5) (by first | exact (fun h => absurd (Nat.add_left_cancel h) (by decide)) | omega)).trans ((n1745 (B + 5) (by first | exact (fun h => absurd (Nat.add_left_cancel h) (by decide)) | omega)).trans ((n1739 (B + 5) (by first | exact (fun h => absurd (Nat.add_left_cancel h) (by decide)) | omega)).trans ((n1734 (B + 5) (by first | exact (fun h => absurd (Nat.add_left_cancel h) (by decide)) | omega)).trans (hb5)))))))))))
          have hs1826 : C_ws S1809 B (gD G) (gW G) := C_ws.fr (P := fun q => 501 ≤ q ∧ q ≤ 529) hs ((((((((((((X_Fr.rf).tr (X_Fr.of n1734 e1735 (by first | decide | exact ⟨Nat.le_add_right _ _, Nat.add_le_add_left (by decide) _⟩ | omega))).tr (X_Fr.of n1739 e1740 (by first | decide | exact ⟨Nat.le_add_right _ _, Nat.add_le_add_left (by decide) _⟩ | omega))).tr (X_Fr.of n1745 e1746 (by first | decide | exact ⟨Nat.le_add_right _ _, Nat.add_le_add_left (by decide) _⟩ | omega))).tr (X_Fr.of n1751 e1752 (by first | decide | exact ⟨Nat.le_add_right _ _, Nat.add_le_add_left (by decide) _⟩ | omega))).tr (X_Fr.of n1757 e1758 (by first | decide | exact ⟨Nat.le_add_right _ _, Nat.add_le_add_left (by decide) _⟩ | omega))).tr (X_Fr.of n1763 e1764 (by first | decide | exact ⟨Nat.le_add_right _ _, Nat.add_le_add_left (by decide) _⟩ | omega))).tr (X_Fr.of n1768 e1769 (by first | decide | exact ⟨Nat.le_add_right _ _, Nat.add_le_add_left (by decide) _⟩ | omega))).tr (X_Fr.of n1773 e1774 (by first | decide | exact ⟨Nat.le_add_right _ _, Nat.add_le_add_left (by decide) _⟩ | omega))).tr (X_Fr.of n1779 e1780 (by first | decide | exact ⟨Nat.le_add_right _ _, Nat.add_le_add_left (by decide) _⟩ | omega))).tr (X_Fr.of n1785 e1786 (by first | decide | exact ⟨Nat.le_add_right _ _, Nat.add_le_add_left (by decide) _⟩ | omega))).tr (X_Fr.mono ⟨hF1791.1, hF1791.2⟩ (fun q hq => (by omega)))) (fun k h1 h2 => by omega)
          have h1827 := (hF1791.1 502 (by first | decide | omega)).trans ((n1785 502 (by decide)).trans ((n1779 502 (by decide)).trans ((n1773 502 (by decide)).trans ((n1768 502 (by decide)).trans ((n1763 502 (by decide)).trans ((n1757 502 (by decide)).trans ((n1751 502 (by decide)).trans ((n1745 502 (by decide)).trans ((n1739 502 (by decide)).trans ((n1734 502 (by decide)).trans (hA502)))))))))))
          refine T_mono (c_makeNode sc S1809 oK oW oA oH tl1 nW1 nF1 nL1 nP1 nH1 nC1 fF1 fE1 fP1 fH1 fW1 fK1 fN1 hF1 hE1 B rc rn kn G tn fl wt1 n N1 St1 h1818 h1819 hO17 hO04 h1814 h1815 h1816 h1817 htl1 hnW1 hnF1 hnL1 hnP1 hnH1 hnC1 hfF1 hfE1 hfP1 hfH1 hfW1 hfK1 hfN1 hhF1 hhE1 hB ⟨h1820, h1821, h1822, h1823, h1824, ⟨f, h1825, hf⟩, ⟨by omega, by omega⟩, ⟨by omega, by omega⟩, ⟨by omega, by omega⟩⟩ hs1826 hG (by omega) h1827 hcht hM (by omega) hst hnd hch) (fun v1828 S1829 h1830 => ?_)
          rcases h1830 with ⟨r1831, St1832, N1833, nW1834, nF1835, nL1836, nP1837, nH1838, nC1839, fF1840, fE1841, fP1842, fH1843, fW1844, fK1845, fN1846, tl1847, hF1848, hE1849, hv1850, hp1851, hp1852, hp1853, hp1854, hp1855, ho1856, ho1857, ha1858, ha1859, ha1860, ha1861, ha1862, ha1863, ha1864, ha1865, ha1866, ha1867, ha1868, ha1869, ha1870, ha1871, ha1872, ha1873, hf1874⟩
          rw [hv1850]
          show X_T sc 40 (52, [(3, .int (iI n)), (0, .ref 517)], [], S1829) _
          refine T_ziinc xr_40_52 xn_40 (a := n) (z := n + 1) rfl (Nat.le_of_ble_eq_true rfl) (by omega) (ls' := [(3, .int (iI (n + 1))), (0, .ref 517)]) rfl (pc' := 55) rfl ?_
          refine T_p xr_40_55 xn_40 (pc' := 35) (ls' := [(3, .int (iI (n + 1))), (0, .ref 517)]) (st' := []) rfl ?_
          exact ih1788 S1829 (n + 1) r1831 St1832 N1833 nW1834 nF1835 nL1836 nP1837 nH1838 nC1839 fF1840 fE1841 fP1842 fH1843 fW1844 fK1845 fN1846 tl1847 hF1848 hE1849 ho1856 ho1857 ha1858 ha1859 ha1860 ha1861 ha1862 ha1863 ha1864 ha1865 ha1866 ha1867 ha1868 ha1869 ha1870 ha1871 ha1872 ha1873 (hF1791.tr ((X_Fr.rf).tr (X_Fr.mono ⟨hf1874.1, hf1874.2⟩ (fun q hq => (by omega))))) (by omega) ((X_mks_s (s := (wt1, St1, n, N1)) (show 0 < wt1 by omega) (by omega) hp1851).symm.trans hX) hp1852 hp1853 hp1854 hp1855 (by omega)
  refine T_sub (ls := [(3, .int (iI 0)), (0, .ref 517)]) ⟨rfl, rfl, trivial⟩ rfl rfl ?_
  exact L1787 ((30 : Int) + 1).toNat S1783 0 1 (fun _ => (0, tn, -1, -1, 0, 0, 0, k)) (fun _ _ => 0) nW nF nL nP nH nC (X_ug fF 0 0) (X_ug fE 0 tn) (X_ug fP 0 (-1)) (X_ug fH 0 (-1)) (X_ug fW 0 (-1)) (X_ug fK 0 (-1)) (X_ug fN 0 (iL (k : Int))) tl hF hE h1792 h1808 h1793 h1794 h1795 h1796 h1797 h1798 h1799 h1800 h1801 h1802 h1803 h1804 h1784 h1805 h1806 h1807 ((X_Fr.rf)) (by omega) rfl (X_Mok_0 hG htn hk hkm) (fun q h1 h2 => by
        obtain rfl : q = 0 := by omega
        refine ⟨X_ug_s _ _ _, X_ug_s _ _ _, X_ug_s _ _ _, X_ug_s _ _ _, fun v g1 g2 => ?_, fun z g1 g2 => ?_, X_ug_s _ _ _⟩
        · rw [X_ug_s]; exact ⟨fun _ => ⟨(hG.2.2.1.1 _ (hG.kd v g1 g2).1 (hG.kd v g1 g2).2).1, Or.inl rfl⟩, fun _ => X_bt_m v (by omega)⟩
        · rw [X_ug_s]; exact ⟨fun _ => (hG.2.2.1.1 z g1 g2).1, fun _ => X_bt_m z (by omega)⟩) (fun n h1 h2 => absurd h2 (by omega)) (fun p h h1 h2 h3 h4 => absurd rfl h4) (by omega)
end
section
theorem xr_85_0 : X_row 85 0 = some (0, (.aload_n 0, 1), (0, 0, 0)) := by decide +kernel
theorem xr_85_1 : X_row 85 1 = some (1, (.getfield 31, 3), (5, 6, 12)) := by decide +kernel
theorem xr_85_4 : X_row 85 4 = some (4, (.iload_n 1, 1), (0, 0, 0)) := by decide +kernel
theorem xr_85_5 : X_row 85 5 = some (5, (.iconst 4, 1), (0, 0, 0)) := by decide +kernel
theorem xr_85_6 : X_row 85 6 = some (6, (.imul, 1), (0, 0, 0)) := by decide +kernel
theorem xr_85_7 : X_row 85 7 = some (7, (.iload_n 2, 1), (0, 0, 0)) := by decide +kernel
theorem xr_85_8 : X_row 85 8 = some (8, (.iadd, 1), (0, 0, 0)) := by decide +kernel
theorem xr_85_9 : X_row 85 9 = some (9, (.iaload, 1), (0, 0, 0)) := by decide +kernel
theorem xr_85_10 : X_row 85 10 = some (10, (.ireturn, 1), (0, 0, 0)) := by decide +kernel
theorem xr_108_0 : X_row 108 0 = some (0, (.aload_n 0, 1), (0, 0, 0)) := by decide +kernel
theorem xr_108_1 : X_row 108 1 = some (1, (.iconst 0, 1), (0, 0, 0)) := by decide +kernel
theorem xr_108_2 : X_row 108 2 = some (2, (.putfield 25, 3), (9, 6, 32)) := by decide +kernel
theorem xr_108_5 : X_row 108 5 = some (5, (.iconst 0, 1), (0, 0, 0)) := by decide +kernel
theorem xr_108_6 : X_row 108 6 = some (6, (.istore_n 3, 1), (0, 0, 0)) := by decide +kernel
theorem xr_108_7 : X_row 108 7 = some (7, (.iload_n 3, 1), (0, 0, 0)) := by decide +kernel
theorem xr_108_8 : X_row 108 8 = some (8, (.aload_n 1, 1), (0, 0, 0)) := by decide +kernel
theorem xr_108_9 : X_row 108 9 = some (9, (.getfield 73, 3), (8, 5, 1)) := by decide +kernel
theorem xr_108_12 : X_row 108 12 = some (12, (.if_icmp .ge 82, 3), (0, 0, 0)) := by decide +kernel
theorem xr_108_15 : X_row 108 15 = some (15, (.aload_n 1, 1), (0, 0, 0)) := by decide +kernel
theorem xr_108_16 : X_row 108 16 = some (16, (.getfield 89, 3), (8, 13, 7)) := by decide +kernel
theorem xr_108_19 : X_row 108 19 = some (19, (.iload_n 3, 1), (0, 0, 0)) := by decide +kernel
theorem xr_108_20 : X_row 108 20 = some (20, (.iaload, 1), (0, 0, 0)) := by decide +kernel
theorem xr_108_21 : X_row 108 21 = some (21, (.istore 4, 2), (0, 0, 0)) := by decide +kernel
theorem xr_108_23 : X_row 108 23 = some (23, (.aload_n 1, 1), (0, 0, 0)) := by decide +kernel
theorem xr_108_24 : X_row 108 24 = some (24, (.getfield 92, 3), (8, 14, 9)) := by decide +kernel
theorem xr_108_27 : X_row 108 27 = some (27, (.iload_n 3, 1), (0, 0, 0)) := by decide +kernel
theorem xr_108_28 : X_row 108 28 = some (28, (.iaload, 1), (0, 0, 0)) := by decide +kernel
theorem xr_108_29 : X_row 108 29 = some (29, (.istore 5, 2), (0, 0, 0)) := by decide +kernel
theorem xr_108_31 : X_row 108 31 = some (31, (.iload 4, 2), (0, 0, 0)) := by decide +kernel
theorem xr_108_33 : X_row 108 33 = some (33, (.iconst 4, 1), (0, 0, 0)) := by decide +kernel
theorem xr_108_34 : X_row 108 34 = some (34, (.if_icmp .ne 12, 3), (0, 0, 0)) := by decide +kernel
theorem xr_108_37 : X_row 108 37 = some (37, (.aload_n 0, 1), (0, 0, 0)) := by decide +kernel
theorem xr_108_38 : X_row 108 38 = some (38, (.iload 5, 2), (0, 0, 0)) := by decide +kernel
theorem xr_108_40 : X_row 108 40 = some (40, (.invokevirtual 97, 3), (109, 10, 0)) := by decide +kernel
theorem xr_108_43 : X_row 108 43 = some (43, (.goto 45, 3), (0, 0, 0)) := by decide +kernel
theorem xr_108_46 : X_row 108 46 = some (46, (.iload 4, 2), (0, 0, 0)) := by decide +kernel
theorem xr_108_48 : X_row 108 48 = some (48, (.bipush 64, 2), (0, 0, 0)) := by decide +kernel
theorem xr_108_50 : X_row 108 50 = some (50, (.if_icmp .ne 27, 3), (0, 0, 0)) := by decide +kernel
theorem xr_108_53 : X_row 108 53 = some (53, (.aload_n 0, 1), (0, 0, 0)) := by decide +kernel
theorem xr_108_54 : X_row 108 54 = some (54, (.aload_n 0, 1), (0, 0, 0)) := by decide +kernel
theorem xr_108_55 : X_row 108 55 = some (55, (.getfield 18, 3), (9, 4, 28)) := by decide +kernel
theorem xr_108_58 : X_row 108 58 = some (58, (.aload_n 0, 1), (0, 0, 0)) := by decide +kernel
theorem xr_108_59 : X_row 108 59 = some (59, (.getfield 32, 3), (9, 1, 22)) := by decide +kernel
theorem xr_108_62 : X_row 108 62 = some (62, (.iload_n 2, 1), (0, 0, 0)) := by decide +kernel
theorem xr_108_63 : X_row 108 63 = some (63, (.iload 5, 2), (0, 0, 0)) := by decide +kernel
theorem xr_108_65 : X_row 108 65 = some (65, (.iconst 1, 1), (0, 0, 0)) := by decide +kernel
theorem xr_108_66 : X_row 108 66 = some (66, (.isub, 1), (0, 0, 0)) := by decide +kernel
theorem xr_108_67 : X_row 108 67 = some (67, (.invokevirtual 63, 3), (85, 6, 0)) := by decide +kernel
theorem xr_108_70 : X_row 108 70 = some (70, (.iaload, 1), (0, 0, 0)) := by decide +kernel
theorem xr_108_71 : X_row 108 71 = some (71, (.invokevirtual 97, 3), (109, 10, 0)) := by decide +kernel
theorem xr_108_74 : X_row 108 74 = some (74, (.goto 14, 3), (0, 0, 0)) := by decide +kernel
theorem xr_108_77 : X_row 108 77 = some (77, (.aload_n 0, 1), (0, 0, 0)) := by decide +kernel
theorem xr_108_78 : X_row 108 78 = some (78, (.iload 4, 2), (0, 0, 0)) := by decide +kernel
theorem xr_108_80 : X_row 108 80 = some (80, (.invokevirtual 101, 3), (110, 12, 0)) := by decide +kernel
theorem xr_108_83 : X_row 108 83 = some (83, (.ifCond .ne 5, 3), (0, 0, 0)) := by decide +kernel
theorem xr_108_86 : X_row 108 86 = some (86, (.iconst 0, 1), (0, 0, 0)) := by decide +kernel
theorem xr_108_87 : X_row 108 87 = some (87, (.ireturn, 1), (0, 0, 0)) := by decide +kernel
theorem xr_108_88 : X_row 108 88 = some (88, (.iinc 3 1, 3), (0, 0, 0)) := by decide +kernel
theorem xr_108_91 : X_row 108 91 = some (91, (.goto (-84), 3), (0, 0, 0)) := by decide +kernel
theorem xr_108_94 : X_row 108 94 = some (94, (.aload_n 0, 1), (0, 0, 0)) := by decide +kernel
theorem xr_108_95 : X_row 108 95 = some (95, (.getfield 18, 3), (9, 4, 28)) := by decide +kernel
theorem xr_108_98 : X_row 108 98 = some (98, (.iload_n 2, 1), (0, 0, 0)) := by decide +kernel
theorem xr_108_99 : X_row 108 99 = some (99, (.aload_n 0, 1), (0, 0, 0)) := by decide +kernel
theorem xr_108_100 : X_row 108 100 = some (100, (.getfield 22, 3), (9, 5, 30)) := by decide +kernel
theorem xr_108_103 : X_row 108 103 = some (103, (.iconst 0, 1), (0, 0, 0)) := by decide +kernel
theorem xr_108_104 : X_row 108 104 = some (104, (.iaload, 1), (0, 0, 0)) := by decide +kernel
theorem xr_108_105 : X_row 108 105 = some (105, (.iastore, 1), (0, 0, 0)) := by decide +kernel
theorem xr_108_106 : X_row 108 106 = some (106, (.iconst 1, 1), (0, 0, 0)) := by decide +kernel
theorem xr_108_107 : X_row 108 107 = some (107, (.ireturn, 1), (0, 0, 0)) := by decide +kernel
theorem xr_109_0 : X_row 109 0 = some (0, (.aload_n 0, 1), (0, 0, 0)) := by decide +kernel
theorem xr_109_1 : X_row 109 1 = some (1, (.getfield 25, 3), (9, 6, 32)) := by decide +kernel
theorem xr_109_4 : X_row 109 4 = some (4, (.bipush 16, 2), (0, 0, 0)) := by decide +kernel
theorem xr_109_6 : X_row 109 6 = some (6, (.if_icmp .ge 23, 3), (0, 0, 0)) := by decide +kernel
theorem xr_109_9 : X_row 109 9 = some (9, (.aload_n 0, 1), (0, 0, 0)) := by decide +kernel
theorem xr_109_10 : X_row 109 10 = some (10, (.getfield 22, 3), (9, 5, 30)) := by decide +kernel
theorem xr_109_13 : X_row 109 13 = some (13, (.aload_n 0, 1), (0, 0, 0)) := by decide +kernel
theorem xr_109_14 : X_row 109 14 = some (14, (.getfield 25, 3), (9, 6, 32)) := by decide +kernel
theorem xr_109_17 : X_row 109 17 = some (17, (.iload_n 1, 1), (0, 0, 0)) := by decide +kernel
theorem xr_109_18 : X_row 109 18 = some (18, (.iastore, 1), (0, 0, 0)) := by decide +kernel
theorem xr_109_19 : X_row 109 19 = some (19, (.aload_n 0, 1), (0, 0, 0)) := by decide +kernel
theorem xr_109_20 : X_row 109 20 = some (20, (.dup, 1), (0, 0, 0)) := by decide +kernel
theorem xr_109_21 : X_row 109 21 = some (21, (.getfield 25, 3), (9, 6, 32)) := by decide +kernel
theorem xr_109_24 : X_row 109 24 = some (24, (.iconst 1, 1), (0, 0, 0)) := by decide +kernel
theorem xr_109_25 : X_row 109 25 = some (25, (.iadd, 1), (0, 0, 0)) := by decide +kernel
theorem xr_109_26 : X_row 109 26 = some (26, (.putfield 25, 3), (9, 6, 32)) := by decide +kernel
theorem xr_109_29 : X_row 109 29 = some (29, (.return_, 1), (0, 0, 0)) := by decide +kernel
theorem xr_110_0 : X_row 110 0 = some (0, (.aload_n 0, 1), (0, 0, 0)) := by decide +kernel
theorem xr_110_1 : X_row 110 1 = some (1, (.getfield 25, 3), (9, 6, 32)) := by decide +kernel
theorem xr_110_4 : X_row 110 4 = some (4, (.iconst 2, 1), (0, 0, 0)) := by decide +kernel
theorem xr_110_5 : X_row 110 5 = some (5, (.if_icmp .ge 5, 3), (0, 0, 0)) := by decide +kernel
theorem xr_110_10 : X_row 110 10 = some (10, (.aload_n 0, 1), (0, 0, 0)) := by decide +kernel
theorem xr_110_11 : X_row 110 11 = some (11, (.getfield 22, 3), (9, 5, 30)) := by decide +kernel
theorem xr_110_14 : X_row 110 14 = some (14, (.aload_n 0, 1), (0, 0, 0)) := by decide +kernel
theorem xr_110_15 : X_row 110 15 = some (15, (.getfield 25, 3), (9, 6, 32)) := by decide +kernel
theorem xr_110_18 : X_row 110 18 = some (18, (.iconst 1, 1), (0, 0, 0)) := by decide +kernel
theorem xr_110_19 : X_row 110 19 = some (19, (.isub, 1), (0, 0, 0)) := by decide +kernel
theorem xr_110_20 : X_row 110 20 = some (20, (.iaload, 1), (0, 0, 0)) := by decide +kernel
theorem xr_110_21 : X_row 110 21 = some (21, (.istore_n 2, 1), (0, 0, 0)) := by decide +kernel
theorem xr_110_22 : X_row 110 22 = some (22, (.aload_n 0, 1), (0, 0, 0)) := by decide +kernel
theorem xr_110_23 : X_row 110 23 = some (23, (.getfield 22, 3), (9, 5, 30)) := by decide +kernel
theorem xr_110_26 : X_row 110 26 = some (26, (.aload_n 0, 1), (0, 0, 0)) := by decide +kernel
theorem xr_110_27 : X_row 110 27 = some (27, (.getfield 25, 3), (9, 6, 32)) := by decide +kernel
theorem xr_110_30 : X_row 110 30 = some (30, (.iconst 2, 1), (0, 0, 0)) := by decide +kernel
theorem xr_110_31 : X_row 110 31 = some (31, (.isub, 1), (0, 0, 0)) := by decide +kernel
theorem xr_110_32 : X_row 110 32 = some (32, (.iaload, 1), (0, 0, 0)) := by decide +kernel
theorem xr_110_33 : X_row 110 33 = some (33, (.istore_n 3, 1), (0, 0, 0)) := by decide +kernel
theorem xr_110_34 : X_row 110 34 = some (34, (.iload_n 2, 1), (0, 0, 0)) := by decide +kernel
theorem xr_110_35 : X_row 110 35 = some (35, (.ifCond .ne 17, 3), (0, 0, 0)) := by decide +kernel
theorem xr_110_38 : X_row 110 38 = some (38, (.iload_n 1, 1), (0, 0, 0)) := by decide +kernel
theorem xr_110_39 : X_row 110 39 = some (39, (.bipush 47, 2), (0, 0, 0)) := by decide +kernel
theorem xr_110_41 : X_row 110 41 = some (41, (.if_icmp .eq 9, 3), (0, 0, 0)) := by decide +kernel
theorem xr_110_44 : X_row 110 44 = some (44, (.iload_n 1, 1), (0, 0, 0)) := by decide +kernel
theorem xr_110_45 : X_row 110 45 = some (45, (.bipush 37, 2), (0, 0, 0)) := by decide +kernel
theorem xr_110_47 : X_row 110 47 = some (47, (.if_icmp .ne 5, 3), (0, 0, 0)) := by decide +kernel
theorem xr_110_50 : X_row 110 50 = some (50, (.iconst 0, 1), (0, 0, 0)) := by decide +kernel
theorem xr_110_51 : X_row 110 51 = some (51, (.ireturn, 1), (0, 0, 0)) := by decide +kernel
theorem xr_110_52 : X_row 110 52 = some (52, (.aload_n 0, 1), (0, 0, 0)) := by decide +kernel
theorem xr_110_53 : X_row 110 53 = some (53, (.dup, 1), (0, 0, 0)) := by decide +kernel
theorem xr_110_54 : X_row 110 54 = some (54, (.getfield 25, 3), (9, 6, 32)) := by decide +kernel
theorem xr_110_57 : X_row 110 57 = some (57, (.iconst 1, 1), (0, 0, 0)) := by decide +kernel
theorem xr_110_58 : X_row 110 58 = some (58, (.isub, 1), (0, 0, 0)) := by decide +kernel
theorem xr_110_59 : X_row 110 59 = some (59, (.putfield 25, 3), (9, 6, 32)) := by decide +kernel
theorem xr_110_62 : X_row 110 62 = some (62, (.aload_n 0, 1), (0, 0, 0)) := by decide +kernel
theorem xr_110_63 : X_row 110 63 = some (63, (.getfield 22, 3), (9, 5, 30)) := by decide +kernel
theorem xr_110_66 : X_row 110 66 = some (66, (.aload_n 0, 1), (0, 0, 0)) := by decide +kernel
theorem xr_110_67 : X_row 110 67 = some (67, (.getfield 25, 3), (9, 6, 32)) := by decide +kernel
theorem xr_110_70 : X_row 110 70 = some (70, (.iconst 1, 1), (0, 0, 0)) := by decide +kernel
theorem xr_110_71 : X_row 110 71 = some (71, (.isub, 1), (0, 0, 0)) := by decide +kernel
theorem xr_110_72 : X_row 110 72 = some (72, (.iload_n 1, 1), (0, 0, 0)) := by decide +kernel
theorem xr_110_73 : X_row 110 73 = some (73, (.iload_n 3, 1), (0, 0, 0)) := by decide +kernel
theorem xr_110_74 : X_row 110 74 = some (74, (.iload_n 2, 1), (0, 0, 0)) := by decide +kernel
theorem xr_110_75 : X_row 110 75 = some (75, (.invokestatic 105, 3), (111, 14, 0)) := by decide +kernel
theorem xr_110_78 : X_row 110 78 = some (78, (.iastore, 1), (0, 0, 0)) := by decide +kernel
theorem xr_110_79 : X_row 110 79 = some (79, (.iconst 1, 1), (0, 0, 0)) := by decide +kernel
theorem xr_110_80 : X_row 110 80 = some (80, (.ireturn, 1), (0, 0, 0)) := by decide +kernel
theorem xr_111_0 : X_row 111 0 = some (0, (.iload_n 0, 1), (0, 0, 0)) := by decide +kernel
theorem xr_111_1 : X_row 111 1 = some (1, (.tableswitch 95 37 47 #[83, 95, 95, 95, 95, 67, 59, 95, 63, 95, 71], 59), (0, 0, 0)) := by decide +kernel
theorem xr_111_60 : X_row 111 60 = some (60, (.iload_n 1, 1), (0, 0, 0)) := by decide +kernel
theorem xr_111_61 : X_row 111 61 = some (61, (.iload_n 2, 1), (0, 0, 0)) := by decide +kernel
theorem xr_111_62 : X_row 111 62 = some (62, (.iadd, 1), (0, 0, 0)) := by decide +kernel
theorem xr_111_63 : X_row 111 63 = some (63, (.ireturn, 1), (0, 0, 0)) := by decide +kernel
theorem xr_111_64 : X_row 111 64 = some (64, (.iload_n 1, 1), (0, 0, 0)) := by decide +kernel
theorem xr_111_65 : X_row 111 65 = some (65, (.iload_n 2, 1), (0, 0, 0)) := by decide +kernel
theorem xr_111_66 : X_row 111 66 = some (66, (.isub, 1), (0, 0, 0)) := by decide +kernel
theorem xr_111_67 : X_row 111 67 = some (67, (.ireturn, 1), (0, 0, 0)) := by decide +kernel
theorem xr_111_68 : X_row 111 68 = some (68, (.iload_n 1, 1), (0, 0, 0)) := by decide +kernel
theorem xr_111_69 : X_row 111 69 = some (69, (.iload_n 2, 1), (0, 0, 0)) := by decide +kernel
theorem xr_111_70 : X_row 111 70 = some (70, (.imul, 1), (0, 0, 0)) := by decide +kernel
theorem xr_111_71 : X_row 111 71 = some (71, (.ireturn, 1), (0, 0, 0)) := by decide +kernel
theorem xr_111_72 : X_row 111 72 = some (72, (.iload_n 2, 1), (0, 0, 0)) := by decide +kernel
theorem xr_111_73 : X_row 111 73 = some (73, (.ifCond .ne 7, 3), (0, 0, 0)) := by decide +kernel
theorem xr_111_80 : X_row 111 80 = some (80, (.iload_n 1, 1), (0, 0, 0)) := by decide +kernel
theorem xr_111_81 : X_row 111 81 = some (81, (.iload_n 2, 1), (0, 0, 0)) := by decide +kernel
theorem xr_111_82 : X_row 111 82 = some (82, (.idiv, 1), (0, 0, 0)) := by decide +kernel
theorem xr_111_83 : X_row 111 83 = some (83, (.ireturn, 1), (0, 0, 0)) := by decide +kernel
theorem xr_111_84 : X_row 111 84 = some (84, (.iload_n 2, 1), (0, 0, 0)) := by decide +kernel
theorem xr_111_85 : X_row 111 85 = some (85, (.ifCond .ne 7, 3), (0, 0, 0)) := by decide +kernel
theorem xr_111_92 : X_row 111 92 = some (92, (.iload_n 1, 1), (0, 0, 0)) := by decide +kernel
theorem xr_111_93 : X_row 111 93 = some (93, (.iload_n 2, 1), (0, 0, 0)) := by decide +kernel
theorem xr_111_94 : X_row 111 94 = some (94, (.irem, 1), (0, 0, 0)) := by decide +kernel
theorem xr_111_95 : X_row 111 95 = some (95, (.ireturn, 1), (0, 0, 0)) := by decide +kernel
theorem xr_111_96 : X_row 111 96 = some (96, (.iload_n 1, 1), (0, 0, 0)) := by decide +kernel
theorem xr_111_97 : X_row 111 97 = some (97, (.iload_n 2, 1), (0, 0, 0)) := by decide +kernel
theorem xr_111_98 : X_row 111 98 = some (98, (.if_icmp .ge 7, 3), (0, 0, 0)) := by decide +kernel
theorem xr_111_101 : X_row 111 101 = some (101, (.iconst 1, 1), (0, 0, 0)) := by decide +kernel
theorem xr_111_102 : X_row 111 102 = some (102, (.goto 4, 3), (0, 0, 0)) := by decide +kernel
theorem xr_111_105 : X_row 111 105 = some (105, (.iconst 0, 1), (0, 0, 0)) := by decide +kernel
theorem xr_111_106 : X_row 111 106 = some (106, (.ireturn, 1), (0, 0, 0)) := by decide +kernel
theorem xn_85 : X_nL 85 = 3 := by decide +kernel
theorem xf_85 : X_na 85 = 2 ∧ X_ci 85 = 5 ∧ X_rt 85 = (some .int) := by decide +kernel
theorem xn_108 : X_nL 108 = 6 := by decide +kernel
theorem xf_108 : X_na 108 = 2 ∧ X_ci 108 = 9 ∧ X_rt 108 = (some .boolean) := by decide +kernel
theorem xn_109 : X_nL 109 = 2 := by decide +kernel
theorem xf_109 : X_na 109 = 1 ∧ X_ci 109 = 9 ∧ X_rt 109 = none := by decide +kernel
theorem xn_110 : X_nL 110 = 4 := by decide +kernel
theorem xf_110 : X_na 110 = 1 ∧ X_ci 110 = 9 ∧ X_rt 110 = (some .boolean) := by decide +kernel
theorem xn_111 : X_nL 111 = 3 := by decide +kernel
theorem xf_111 : X_na 111 = 3 ∧ X_ci 111 = 9 ∧ X_rt 111 = (some .int) := by decide +kernel
theorem c_outcome (sc : X_Sc) (S : X_S) (s : Int) (a : Int) (b : Int) (hs : X_isOp s) (hab : (-2147483648 ≤ a ∧ a ≤ 2147483647) ∧ -2147483648 ≤ b ∧ b ≤ 2147483647) (h0 : s = 47 ∨ s = 37 → ¬ b = 0) : X_T sc 111 (0, [(0, .int (iI s)), (1, .int (iI a)), (2, .int (iI b))], [], S) (fun v S' => v = some (.int (iI (X_out2 s a b))) ∧ S' = S) := by
  have hsr : 37 ≤ s ∧ s ≤ 60 := by unfold X_isOp at hs; omega
  refine X_QI (fun Q hQ => ?_)
  refine T_p xr_111_0 xn_111 (pc' := 1) (ls' := [(0, .int (iI s)), (1, .int (iI a)), (2, .int (iI b))]) (st' := [.int (iI s)]) rfl ?_
  rcases (show s = 37 ∨ s = 38 ∨ s = 39 ∨ s = 40 ∨ s = 41 ∨ s = 42 ∨ s = 43 ∨ s = 44 ∨ s = 45 ∨ s = 46 ∨ s = 47 ∨ (s < 37 ∨ 47 < s) by omega) with cs1875 | cs1875 | cs1875 | cs1875 | cs1875 | cs1875 | cs1875 | cs1875 | cs1875 | cs1875 | cs1875 | cs1875
  · skip
    refine T_tsk xr_111_1 cs1875 (by decide) (by decide) (off := 83) rfl (t := 84) rfl ?_
    refine T_p xr_111_84 xn_111 (pc' := 85) (ls' := [(0, .int (iI s)), (1, .int (iI a)), (2, .int (iI b))]) (st' := [.int (iI b)]) rfl ?_
    refine T_zif_ne xr_111_85 (t := 92) (pc' := 88) rfl rfl (fun c1876 => ?_) (fun c1876 => ?_)
    · skip
      have c1876 : ¬ b = 0 := c1876
      refine T_p xr_111_92 xn_111 (pc' := 93) (ls' := [(0, .int (iI s)), (1, .int (iI a)), (2, .int (iI b))]) (st' := [.int (iI a)]) rfl ?_
      refine T_p xr_111_93 xn_111 (pc' := 94) (ls' := [(0, .int (iI s)), (1, .int (iI a)), (2, .int (iI b))]) (st' := [.int (iI b), .int (iI a)]) rfl ?_
      refine T_p xr_111_94 xn_111 (pc' := 95) (ls' := [(0, .int (iI s)), (1, .int (iI a)), (2, .int (iI b))]) (st' := .int (iI a - iI a / iI b * iI b) :: []) (by simp only [X_pstep, X_i2]; rw [if_neg (by exact fun z => absurd ((iI_eq (b := 0) (by omega) (by omega) (by omega) (by omega)).mp z) (by omega))]) ?_
      refine T_ie (y := iI ((iI a - iI a / iI b * iI b).toInt)) (iI_of _) ?_
      refine T_iret xr_111_95 xf_111.2.2 rfl ?_
      refine hQ _ _ ?_
      exact ⟨(congrArg (fun z => some (Value.int z)) (X_out2_f hs (Or.inr (Or.inr (Or.inr (Or.inr (Or.inl ⟨by omega, (iI_of _).symm⟩))))))), rfl⟩
    · skip
      have c1876 : ¬ (¬ b = 0) := c1876
      exact absurd (show b = 0 by omega) (h0 (by omega))
  · skip
    refine T_tsk xr_111_1 cs1875 (by decide) (by decide) (off := 95) rfl (t := 96) rfl ?_
    refine T_p xr_111_96 xn_111 (pc' := 97) (ls' := [(0, .int (iI s)), (1, .int (iI a)), (2, .int (iI b))]) (st' := [.int (iI a)]) rfl ?_
    refine T_p xr_111_97 xn_111 (pc' := 98) (ls' := [(0, .int (iI s)), (1, .int (iI a)), (2, .int (iI b))]) (st' := [.int (iI b), .int (iI a)]) rfl ?_
    refine T_zicmp_ge xr_111_98 (t := 105) (pc' := 101) rfl rfl (fun c1877 => ?_) (fun c1877 => ?_)
    · skip
      have c1877 : b ≤ a := c1877
      refine T_p xr_111_105 xn_111 (pc' := 106) (ls' := [(0, .int (iI s)), (1, .int (iI a)), (2, .int (iI b))]) (st' := [.int (iI 0)]) rfl ?_
      refine T_iret xr_111_106 xf_111.2.2 rfl ?_
      refine hQ _ _ ?_
      exact ⟨(congrArg (fun z => some (Value.int z)) (X_out2_f hs (Or.inr (Or.inr (Or.inr (Or.inr (Or.inr (⟨by unfold X_isOp at hs; omega, (bI_f (by omega)).symm⟩)))))))), rfl⟩
    · skip
      have c1877 : ¬ (b ≤ a) := c1877
      refine T_p xr_111_101 xn_111 (pc' := 102) (ls' := [(0, .int (iI s)), (1, .int (iI a)), (2, .int (iI b))]) (st' := [.int (iI 1)]) rfl ?_
      refine T_p xr_111_102 xn_111 (pc' := 106) (ls' := [(0, .int (iI s)), (1, .int (iI a)), (2, .int (iI b))]) (st' := [.int (iI 1)]) rfl ?_
      refine T_iret xr_111_106 xf_111.2.2 rfl ?_
      refine hQ _ _ ?_
      exact ⟨(congrArg (fun z => some (Value.int z)) (X_out2_f hs (Or.inr (Or.inr (Or.inr (Or.inr (Or.inr (⟨by unfold X_isOp at hs; omega, (bI_t (by omega)).symm⟩)))))))), rfl⟩
  · skip
    refine T_tsk xr_111_1 cs1875 (by decide) (by decide) (off := 95) rfl (t := 96) rfl ?_
    refine T_p xr_111_96 xn_111 (pc' := 97) (ls' := [(0, .int (iI s)), (1, .int (iI a)), (2, .int (iI b))]) (st' := [.int (iI a)]) rfl ?_
    refine T_p xr_111_97 xn_111 (pc' := 98) (ls' := [(0, .int (iI s)), (1, .int (iI a)), (2, .int (iI b))]) (st' := [.int (iI b), .int (iI a)]) rfl ?_
    refine T_zicmp_ge xr_111_98 (t := 105) (pc' := 101) rfl rfl (fun c1878 => ?_) (fun c1878 => ?_)
    · skip
      have c1878 : b ≤ a := c1878
      refine T_p xr_111_105 xn_111 (pc' := 106) (ls' := [(0, .int (iI s)), (1, .int (iI a)), (2, .int (iI b))]) (st' := [.int (iI 0)]) rfl ?_
      refine T_iret xr_111_106 xf_111.2.2 rfl ?_
      refine hQ _ _ ?_
      exact ⟨(congrArg (fun z => some (Value.int z)) (X_out2_f hs (Or.inr (Or.inr (Or.inr (Or.inr (Or.inr (⟨by unfold X_isOp at hs; omega, (bI_f (by omega)).symm⟩)))))))), rfl⟩
    · skip
      have c1878 : ¬ (b ≤ a) := c1878
      refine T_p xr_111_101 xn_111 (pc' := 102) (ls' := [(0, .int (iI s)), (1, .int (iI a)), (2, .int (iI b))]) (st' := [.int (iI 1)]) rfl ?_
      refine T_p xr_111_102 xn_111 (pc' := 106) (ls' := [(0, .int (iI s)), (1, .int (iI a)), (2, .int (iI b))]) (st' := [.int (iI 1)]) rfl ?_
      refine T_iret xr_111_106 xf_111.2.2 rfl ?_
      refine hQ _ _ ?_
      exact ⟨(congrArg (fun z => some (Value.int z)) (X_out2_f hs (Or.inr (Or.inr (Or.inr (Or.inr (Or.inr (⟨by unfold X_isOp at hs; omega, (bI_t (by omega)).symm⟩)))))))), rfl⟩
  · skip
    refine T_tsk xr_111_1 cs1875 (by decide) (by decide) (off := 95) rfl (t := 96) rfl ?_
    refine T_p xr_111_96 xn_111 (pc' := 97) (ls' := [(0, .int (iI s)), (1, .int (iI a)), (2, .int (iI b))]) (st' := [.int (iI a)]) rfl ?_
    refine T_p xr_111_97 xn_111 (pc' := 98) (ls' := [(0, .int (iI s)), (1, .int (iI a)), (2, .int (iI b))]) (st' := [.int (iI b), .int (iI a)]) rfl ?_
    refine T_zicmp_ge xr_111_98 (t := 105) (pc' := 101) rfl rfl (fun c1879 => ?_) (fun c1879 => ?_)
    · skip
      have c1879 : b ≤ a := c1879
      refine T_p xr_111_105 xn_111 (pc' := 106) (ls' := [(0, .int (iI s)), (1, .int (iI a)), (2, .int (iI b))]) (st' := [.int (iI 0)]) rfl ?_
      refine T_iret xr_111_106 xf_111.2.2 rfl ?_
      refine hQ _ _ ?_
      exact ⟨(congrArg (fun z => some (Value.int z)) (X_out2_f hs (Or.inr (Or.inr (Or.inr (Or.inr (Or.inr (⟨by unfold X_isOp at hs; omega, (bI_f (by omega)).symm⟩)))))))), rfl⟩
    · skip
      have c1879 : ¬ (b ≤ a) := c1879
      refine T_p xr_111_101 xn_111 (pc' := 102) (ls' := [(0, .int (iI s)), (1, .int (iI a)), (2, .int (iI b))]) (st' := [.int (iI 1)]) rfl ?_
      refine T_p xr_111_102 xn_111 (pc' := 106) (ls' := [(0, .int (iI s)), (1, .int (iI a)), (2, .int (iI b))]) (st' := [.int (iI 1)]) rfl ?_
      refine T_iret xr_111_106 xf_111.2.2 rfl ?_
      refine hQ _ _ ?_
      exact ⟨(congrArg (fun z => some (Value.int z)) (X_out2_f hs (Or.inr (Or.inr (Or.inr (Or.inr (Or.inr (⟨by unfold X_isOp at hs; omega, (bI_t (by omega)).symm⟩)))))))), rfl⟩
  · skip
    refine T_tsk xr_111_1 cs1875 (by decide) (by decide) (off := 95) rfl (t := 96) rfl ?_
    refine T_p xr_111_96 xn_111 (pc' := 97) (ls' := [(0, .int (iI s)), (1, .int (iI a)), (2, .int (iI b))]) (st' := [.int (iI a)]) rfl ?_
    refine T_p xr_111_97 xn_111 (pc' := 98) (ls' := [(0, .int (iI s)), (1, .int (iI a)), (2, .int (iI b))]) (st' := [.int (iI b), .int (iI a)]) rfl ?_
    refine T_zicmp_ge xr_111_98 (t := 105) (pc' := 101) rfl rfl (fun c1880 => ?_) (fun c1880 => ?_)
    · skip
      have c1880 : b ≤ a := c1880
      refine T_p xr_111_105 xn_111 (pc' := 106) (ls' := [(0, .int (iI s)), (1, .int (iI a)), (2, .int (iI b))]) (st' := [.int (iI 0)]) rfl ?_
      refine T_iret xr_111_106 xf_111.2.2 rfl ?_
      refine hQ _ _ ?_
      exact ⟨(congrArg (fun z => some (Value.int z)) (X_out2_f hs (Or.inr (Or.inr (Or.inr (Or.inr (Or.inr (⟨by unfold X_isOp at hs; omega, (bI_f (by omega)).symm⟩)))))))), rfl⟩
    · skip
      have c1880 : ¬ (b ≤ a) := c1880
      refine T_p xr_111_101 xn_111 (pc' := 102) (ls' := [(0, .int (iI s)), (1, .int (iI a)), (2, .int (iI b))]) (st' := [.int (iI 1)]) rfl ?_
      refine T_p xr_111_102 xn_111 (pc' := 106) (ls' := [(0, .int (iI s)), (1, .int (iI a)), (2, .int (iI b))]) (st' := [.int (iI 1)]) rfl ?_
      refine T_iret xr_111_106 xf_111.2.2 rfl ?_
      refine hQ _ _ ?_
      exact ⟨(congrArg (fun z => some (Value.int z)) (X_out2_f hs (Or.inr (Or.inr (Or.inr (Or.inr (Or.inr (⟨by unfold X_isOp at hs; omega, (bI_t (by omega)).symm⟩)))))))), rfl⟩
  · skip
    refine T_tsk xr_111_1 cs1875 (by decide) (by decide) (off := 67) rfl (t := 68) rfl ?_
    refine T_p xr_111_68 xn_111 (pc' := 69) (ls' := [(0, .int (iI s)), (1, .int (iI a)), (2, .int (iI b))]) (st' := [.int (iI a)]) rfl ?_
    refine T_p xr_111_69 xn_111 (pc' := 70) (ls' := [(0, .int (iI s)), (1, .int (iI a)), (2, .int (iI b))]) (st' := [.int (iI b), .int (iI a)]) rfl ?_
    refine T_zimul xr_111_70 (z := a * b) rfl (pc' := 71) rfl ?_
    refine T_iret xr_111_71 xf_111.2.2 rfl ?_
    refine hQ _ _ ?_
    exact ⟨(congrArg (fun z => some (Value.int z)) (X_out2_f hs (Or.inr (Or.inr (Or.inl ⟨by omega, (Int32.ofInt_mul _ _)⟩))))), rfl⟩
  · skip
    refine T_tsk xr_111_1 cs1875 (by decide) (by decide) (off := 59) rfl (t := 60) rfl ?_
    refine T_p xr_111_60 xn_111 (pc' := 61) (ls' := [(0, .int (iI s)), (1, .int (iI a)), (2, .int (iI b))]) (st' := [.int (iI a)]) rfl ?_
    refine T_p xr_111_61 xn_111 (pc' := 62) (ls' := [(0, .int (iI s)), (1, .int (iI a)), (2, .int (iI b))]) (st' := [.int (iI b), .int (iI a)]) rfl ?_
    refine T_ziadd xr_111_62 (z := a + b) rfl (pc' := 63) rfl ?_
    refine T_iret xr_111_63 xf_111.2.2 rfl ?_
    refine hQ _ _ ?_
    exact ⟨(congrArg (fun z => some (Value.int z)) (X_out2_f hs (Or.inl ⟨by omega, (Int32.ofInt_add _ _)⟩))), rfl⟩
  · skip
    refine T_tsk xr_111_1 cs1875 (by decide) (by decide) (off := 95) rfl (t := 96) rfl ?_
    refine T_p xr_111_96 xn_111 (pc' := 97) (ls' := [(0, .int (iI s)), (1, .int (iI a)), (2, .int (iI b))]) (st' := [.int (iI a)]) rfl ?_
    refine T_p xr_111_97 xn_111 (pc' := 98) (ls' := [(0, .int (iI s)), (1, .int (iI a)), (2, .int (iI b))]) (st' := [.int (iI b), .int (iI a)]) rfl ?_
    refine T_zicmp_ge xr_111_98 (t := 105) (pc' := 101) rfl rfl (fun c1881 => ?_) (fun c1881 => ?_)
    · skip
      have c1881 : b ≤ a := c1881
      refine T_p xr_111_105 xn_111 (pc' := 106) (ls' := [(0, .int (iI s)), (1, .int (iI a)), (2, .int (iI b))]) (st' := [.int (iI 0)]) rfl ?_
      refine T_iret xr_111_106 xf_111.2.2 rfl ?_
      refine hQ _ _ ?_
      exact ⟨(congrArg (fun z => some (Value.int z)) (X_out2_f hs (Or.inr (Or.inr (Or.inr (Or.inr (Or.inr (⟨by unfold X_isOp at hs; omega, (bI_f (by omega)).symm⟩)))))))), rfl⟩
    · skip
      have c1881 : ¬ (b ≤ a) := c1881
      refine T_p xr_111_101 xn_111 (pc' := 102) (ls' := [(0, .int (iI s)), (1, .int (iI a)), (2, .int (iI b))]) (st' := [.int (iI 1)]) rfl ?_
      refine T_p xr_111_102 xn_111 (pc' := 106) (ls' := [(0, .int (iI s)), (1, .int (iI a)), (2, .int (iI b))]) (st' := [.int (iI 1)]) rfl ?_
      refine T_iret xr_111_106 xf_111.2.2 rfl ?_
      refine hQ _ _ ?_
      exact ⟨(congrArg (fun z => some (Value.int z)) (X_out2_f hs (Or.inr (Or.inr (Or.inr (Or.inr (Or.inr (⟨by unfold X_isOp at hs; omega, (bI_t (by omega)).symm⟩)))))))), rfl⟩
  · skip
    refine T_tsk xr_111_1 cs1875 (by decide) (by decide) (off := 63) rfl (t := 64) rfl ?_
    refine T_p xr_111_64 xn_111 (pc' := 65) (ls' := [(0, .int (iI s)), (1, .int (iI a)), (2, .int (iI b))]) (st' := [.int (iI a)]) rfl ?_
    refine T_p xr_111_65 xn_111 (pc' := 66) (ls' := [(0, .int (iI s)), (1, .int (iI a)), (2, .int (iI b))]) (st' := [.int (iI b), .int (iI a)]) rfl ?_
    refine T_zisub xr_111_66 (z := a - b) rfl (pc' := 67) rfl ?_
    refine T_iret xr_111_67 xf_111.2.2 rfl ?_
    refine hQ _ _ ?_
    exact ⟨(congrArg (fun z => some (Value.int z)) (X_out2_f hs (Or.inr (Or.inl ⟨by omega, (Int32.ofInt_sub _ _)⟩)))), rfl⟩
  · skip
    refine T_tsk xr_111_1 cs1875 (by decide) (by decide) (off := 95) rfl (t := 96) rfl ?_
    refine T_p xr_111_96 xn_111 (pc' := 97) (ls' := [(0, .int (iI s)), (1, .int (iI a)), (2, .int (iI b))]) (st' := [.int (iI a)]) rfl ?_
    refine T_p xr_111_97 xn_111 (pc' := 98) (ls' := [(0, .int (iI s)), (1, .int (iI a)), (2, .int (iI b))]) (st' := [.int (iI b), .int (iI a)]) rfl ?_
    refine T_zicmp_ge xr_111_98 (t := 105) (pc' := 101) rfl rfl (fun c1882 => ?_) (fun c1882 => ?_)
    · skip
      have c1882 : b ≤ a := c1882
      refine T_p xr_111_105 xn_111 (pc' := 106) (ls' := [(0, .int (iI s)), (1, .int (iI a)), (2, .int (iI b))]) (st' := [.int (iI 0)]) rfl ?_
      refine T_iret xr_111_106 xf_111.2.2 rfl ?_
      refine hQ _ _ ?_
      exact ⟨(congrArg (fun z => some (Value.int z)) (X_out2_f hs (Or.inr (Or.inr (Or.inr (Or.inr (Or.inr (⟨by unfold X_isOp at hs; omega, (bI_f (by omega)).symm⟩)))))))), rfl⟩
    · skip
      have c1882 : ¬ (b ≤ a) := c1882
      refine T_p xr_111_101 xn_111 (pc' := 102) (ls' := [(0, .int (iI s)), (1, .int (iI a)), (2, .int (iI b))]) (st' := [.int (iI 1)]) rfl ?_
      refine T_p xr_111_102 xn_111 (pc' := 106) (ls' := [(0, .int (iI s)), (1, .int (iI a)), (2, .int (iI b))]) (st' := [.int (iI 1)]) rfl ?_
      refine T_iret xr_111_106 xf_111.2.2 rfl ?_
      refine hQ _ _ ?_
      exact ⟨(congrArg (fun z => some (Value.int z)) (X_out2_f hs (Or.inr (Or.inr (Or.inr (Or.inr (Or.inr (⟨by unfold X_isOp at hs; omega, (bI_t (by omega)).symm⟩)))))))), rfl⟩
  · skip
    refine T_tsk xr_111_1 cs1875 (by decide) (by decide) (off := 71) rfl (t := 72) rfl ?_
    refine T_p xr_111_72 xn_111 (pc' := 73) (ls' := [(0, .int (iI s)), (1, .int (iI a)), (2, .int (iI b))]) (st' := [.int (iI b)]) rfl ?_
    refine T_zif_ne xr_111_73 (t := 80) (pc' := 76) rfl rfl (fun c1883 => ?_) (fun c1883 => ?_)
    · skip
      have c1883 : ¬ b = 0 := c1883
      refine T_p xr_111_80 xn_111 (pc' := 81) (ls' := [(0, .int (iI s)), (1, .int (iI a)), (2, .int (iI b))]) (st' := [.int (iI a)]) rfl ?_
      refine T_p xr_111_81 xn_111 (pc' := 82) (ls' := [(0, .int (iI s)), (1, .int (iI a)), (2, .int (iI b))]) (st' := [.int (iI b), .int (iI a)]) rfl ?_
      refine T_p xr_111_82 xn_111 (pc' := 83) (ls' := [(0, .int (iI s)), (1, .int (iI a)), (2, .int (iI b))]) (st' := .int (iI a / iI b) :: []) (by simp only [X_pstep, X_i2]; rw [if_neg (by exact fun z => absurd ((iI_eq (b := 0) (by omega) (by omega) (by omega) (by omega)).mp z) (by omega))]) ?_
      refine T_ie (y := iI ((iI a / iI b).toInt)) (iI_of _) ?_
      refine T_iret xr_111_83 xf_111.2.2 rfl ?_
      refine hQ _ _ ?_
      exact ⟨(congrArg (fun z => some (Value.int z)) (X_out2_f hs (Or.inr (Or.inr (Or.inr (Or.inl ⟨by omega, (iI_of _).symm⟩)))))), rfl⟩
    · skip
      have c1883 : ¬ (¬ b = 0) := c1883
      exact absurd (show b = 0 by omega) (h0 (by omega))
  · skip
    refine T_tsd xr_111_1 cs1875 (by omega) (t := 96) rfl ?_
    refine T_p xr_111_96 xn_111 (pc' := 97) (ls' := [(0, .int (iI s)), (1, .int (iI a)), (2, .int (iI b))]) (st' := [.int (iI a)]) rfl ?_
    refine T_p xr_111_97 xn_111 (pc' := 98) (ls' := [(0, .int (iI s)), (1, .int (iI a)), (2, .int (iI b))]) (st' := [.int (iI b), .int (iI a)]) rfl ?_
    refine T_zicmp_ge xr_111_98 (t := 105) (pc' := 101) rfl rfl (fun c1884 => ?_) (fun c1884 => ?_)
    · skip
      have c1884 : b ≤ a := c1884
      refine T_p xr_111_105 xn_111 (pc' := 106) (ls' := [(0, .int (iI s)), (1, .int (iI a)), (2, .int (iI b))]) (st' := [.int (iI 0)]) rfl ?_
      refine T_iret xr_111_106 xf_111.2.2 rfl ?_
      refine hQ _ _ ?_
      exact ⟨(congrArg (fun z => some (Value.int z)) (X_out2_f hs (Or.inr (Or.inr (Or.inr (Or.inr (Or.inr (⟨by unfold X_isOp at hs; omega, (bI_f (by omega)).symm⟩)))))))), rfl⟩
    · skip
      have c1884 : ¬ (b ≤ a) := c1884
      refine T_p xr_111_101 xn_111 (pc' := 102) (ls' := [(0, .int (iI s)), (1, .int (iI a)), (2, .int (iI b))]) (st' := [.int (iI 1)]) rfl ?_
      refine T_p xr_111_102 xn_111 (pc' := 106) (ls' := [(0, .int (iI s)), (1, .int (iI a)), (2, .int (iI b))]) (st' := [.int (iI 1)]) rfl ?_
      refine T_iret xr_111_106 xf_111.2.2 rfl ?_
      refine hQ _ _ ?_
      exact ⟨(congrArg (fun z => some (Value.int z)) (X_out2_f hs (Or.inr (Or.inr (Or.inr (Or.inr (Or.inr (⟨by unfold X_isOp at hs; omega, (bI_t (by omega)).symm⟩)))))))), rfl⟩
theorem c_operate (sc : X_Sc) (S : X_S) (pl : Int → Int) (s : Int) (hgt : Int) (rs : Int) (re : Int) (hO527 : S.1 527 = .inr (9, [.ref 501, .ref 504, .int (iI rs), .int (iI re), .ref 528, .ref 529, .int (iI hgt)])) (hA529 : S.1 529 = .inl (.int, 16, .inl fun k : Nat => iI (pl (k : Int)))) (hs : X_isOp s) (hh : 2 ≤ hgt ∧ hgt ≤ 16) (hpr : ∀ q, 0 ≤ q → q < hgt → -2147483648 ≤ pl q ∧ pl q ≤ 2147483647) : X_T sc 110 (0, [(0, .ref 527), (1, .int (iI s))], [], S) (fun v S' => (v = some (.int (iI 0)) ∧ ((s = 47 ∨ s = 37) ∧ pl (hgt - 1) = 0) ∧ S' = S) ∨ (v = some (.int (iI 1)) ∧ (¬ ((s = 47 ∨ s = 37) ∧ pl (hgt - 1) = 0)) ∧ S'.1 527 = .inr (9, [.ref 501, .ref 504, .int (iI rs), .int (iI re), .ref 528, .ref 529, .int (iI (hgt - 1))]) ∧ S'.1 529 = .inl (.int, 16, .inl fun k : Nat => iI ((X_ug pl (hgt - 2) (X_out2 s (pl (hgt - 2)) (pl (hgt - 1)))) (k : Int))) ∧ (X_Fr (fun q => q = 529 ∨ q = 527) S S'))) := by
  have hp1 := hpr (hgt - 1) (by omega) (by omega)
  have hp2 := hpr (hgt - 2) (by omega) (by omega)
  have hsr : 37 ≤ s ∧ s ≤ 60 := by unfold X_isOp at hs; omega
  refine X_QI (fun Q hQ => ?_)
  refine T_p xr_110_0 xn_110 (pc' := 1) (ls' := [(0, .ref 527), (1, .int (iI s))]) (st' := [.ref 527]) rfl ?_
  refine T_get xr_110_1 hO527 rfl (v := .int (iI hgt)) rfl (pc' := 4) rfl ?_
  refine T_p xr_110_4 xn_110 (pc' := 5) (ls' := [(0, .ref 527), (1, .int (iI s))]) (st' := [.int (iI 2), .int (iI hgt)]) rfl ?_
  refine T_zicmp_ge xr_110_5 (t := 10) (pc' := 8) rfl rfl (fun c1885 => ?_) (fun c1885 => ?_)
  · skip
    have c1885 : 2 ≤ hgt := c1885
    refine T_p xr_110_10 xn_110 (pc' := 11) (ls' := [(0, .ref 527), (1, .int (iI s))]) (st' := [.ref 527]) rfl ?_
    refine T_get xr_110_11 hO527 rfl (v := .ref 529) rfl (pc' := 14) rfl ?_
    refine T_p xr_110_14 xn_110 (pc' := 15) (ls' := [(0, .ref 527), (1, .int (iI s))]) (st' := [.ref 527, .ref 529]) rfl ?_
    refine T_get xr_110_15 hO527 rfl (v := .int (iI hgt)) rfl (pc' := 18) rfl ?_
    refine T_p xr_110_18 xn_110 (pc' := 19) (ls' := [(0, .ref 527), (1, .int (iI s))]) (st' := [.int (iI 1), .int (iI hgt), .ref 529]) rfl ?_
    refine T_zisub xr_110_19 (z := hgt - 1) rfl (pc' := 20) rfl ?_
    refine T_ziald xr_110_20 hA529 (pc' := 21) rfl ?_
    refine T_p xr_110_21 xn_110 (pc' := 22) (ls' := [(2, .int (iI (pl (hgt - 1)))), (0, .ref 527), (1, .int (iI s))]) (st' := []) rfl ?_
    refine T_p xr_110_22 xn_110 (pc' := 23) (ls' := [(2, .int (iI (pl (hgt - 1)))), (0, .ref 527), (1, .int (iI s))]) (st' := [.ref 527]) rfl ?_
    refine T_get xr_110_23 hO527 rfl (v := .ref 529) rfl (pc' := 26) rfl ?_
    refine T_p xr_110_26 xn_110 (pc' := 27) (ls' := [(2, .int (iI (pl (hgt - 1)))), (0, .ref 527), (1, .int (iI s))]) (st' := [.ref 527, .ref 529]) rfl ?_
    refine T_get xr_110_27 hO527 rfl (v := .int (iI hgt)) rfl (pc' := 30) rfl ?_
    refine T_p xr_110_30 xn_110 (pc' := 31) (ls' := [(2, .int (iI (pl (hgt - 1)))), (0, .ref 527), (1, .int (iI s))]) (st' := [.int (iI 2), .int (iI hgt), .ref 529]) rfl ?_
    refine T_zisub xr_110_31 (z := hgt - 2) rfl (pc' := 32) rfl ?_
    refine T_ziald xr_110_32 hA529 (pc' := 33) rfl ?_
    refine T_p xr_110_33 xn_110 (pc' := 34) (ls' := [(3, .int (iI (pl (hgt - 2)))), (2, .int (iI (pl (hgt - 1)))), (0, .ref 527), (1, .int (iI s))]) (st' := []) rfl ?_
    refine T_p xr_110_34 xn_110 (pc' := 35) (ls' := [(3, .int (iI (pl (hgt - 2)))), (2, .int (iI (pl (hgt - 1)))), (0, .ref 527), (1, .int (iI s))]) (st' := [.int (iI (pl (hgt - 1)))]) rfl ?_
    refine T_zif_ne xr_110_35 (t := 52) (pc' := 38) rfl rfl (fun c1886 => ?_) (fun c1886 => ?_)
    · skip
      have c1886 : ¬ (pl (hgt - 1)) = 0 := c1886
      refine T_p xr_110_52 xn_110 (pc' := 53) (ls' := [(3, .int (iI (pl (hgt - 2)))), (2, .int (iI (pl (hgt - 1)))), (0, .ref 527), (1, .int (iI s))]) (st' := [.ref 527]) rfl ?_
      refine T_p xr_110_53 xn_110 (pc' := 54) (ls' := [(3, .int (iI (pl (hgt - 2)))), (2, .int (iI (pl (hgt - 1)))), (0, .ref 527), (1, .int (iI s))]) (st' := [.ref 527, .ref 527]) rfl ?_
      refine T_get xr_110_54 hO527 rfl (v := .int (iI hgt)) rfl (pc' := 57) rfl ?_
      refine T_p xr_110_57 xn_110 (pc' := 58) (ls' := [(3, .int (iI (pl (hgt - 2)))), (2, .int (iI (pl (hgt - 1)))), (0, .ref 527), (1, .int (iI s))]) (st' := [.int (iI 1), .int (iI hgt), .ref 527]) rfl ?_
      refine T_zisub xr_110_58 (z := hgt - 1) rfl (pc' := 59) rfl ?_
      refine T_put xr_110_59 hO527 rfl (Nat.le_of_ble_eq_true rfl) rfl (fs' := [.ref 501, .ref 504, .int (iI rs), .int (iI re), .ref 528, .ref 529, .int (iI (hgt - 1))]) rfl (pc' := 62) rfl (fun S1887 h1888 n1889 e1890 => ?_)
      refine T_p xr_110_62 xn_110 (pc' := 63) (ls' := [(3, .int (iI (pl (hgt - 2)))), (2, .int (iI (pl (hgt - 1)))), (0, .ref 527), (1, .int (iI s))]) (st' := [.ref 527]) rfl ?_
      refine T_get xr_110_63 h1888 rfl (v := .ref 529) rfl (pc' := 66) rfl ?_
      refine T_p xr_110_66 xn_110 (pc' := 67) (ls' := [(3, .int (iI (pl (hgt - 2)))), (2, .int (iI (pl (hgt - 1)))), (0, .ref 527), (1, .int (iI s))]) (st' := [.ref 527, .ref 529]) rfl ?_
      refine T_get xr_110_67 h1888 rfl (v := .int (iI (hgt - 1))) rfl (pc' := 70) rfl ?_
      refine T_p xr_110_70 xn_110 (pc' := 71) (ls' := [(3, .int (iI (pl (hgt - 2)))), (2, .int (iI (pl (hgt - 1)))), (0, .ref 527), (1, .int (iI s))]) (st' := [.int (iI 1), .int (iI (hgt - 1)), .ref 529]) rfl ?_
      refine T_zisub xr_110_71 (z := hgt - 2) (by omega) (pc' := 72) rfl ?_
      refine T_p xr_110_72 xn_110 (pc' := 73) (ls' := [(3, .int (iI (pl (hgt - 2)))), (2, .int (iI (pl (hgt - 1)))), (0, .ref 527), (1, .int (iI s))]) (st' := [.int (iI s), .int (iI (hgt - 2)), .ref 529]) rfl ?_
      refine T_p xr_110_73 xn_110 (pc' := 74) (ls' := [(3, .int (iI (pl (hgt - 2)))), (2, .int (iI (pl (hgt - 1)))), (0, .ref 527), (1, .int (iI s))]) (st' := [.int (iI (pl (hgt - 2))), .int (iI s), .int (iI (hgt - 2)), .ref 529]) rfl ?_
      refine T_p xr_110_74 xn_110 (pc' := 75) (ls' := [(3, .int (iI (pl (hgt - 2)))), (2, .int (iI (pl (hgt - 1)))), (0, .ref 527), (1, .int (iI s))]) (st' := [.int (iI (pl (hgt - 1))), .int (iI (pl (hgt - 2))), .int (iI s), .int (iI (hgt - 2)), .ref 529]) rfl ?_
      refine T_cs xr_110_75 (by decide) xf_111.1 xn_111 (as := [.int (iI s), .int (iI (pl (hgt - 2))), .int (iI (pl (hgt - 1)))]) (r := [.int (iI (hgt - 2)), .ref 529]) rfl (Nat.le_of_ble_eq_true rfl) (Nat.le_of_ble_eq_true rfl) (pc' := 78) rfl (ls' := [(0, .int (iI s)), (1, .int (iI (pl (hgt - 2)))), (2, .int (iI (pl (hgt - 1))))]) rfl ?_
      refine T_mono (c_outcome sc S1887 s (pl (hgt - 2)) (pl (hgt - 1)) hs (by omega) (fun z => by omega)) (fun v1891 S1892 h1893 => ?_)
      rcases h1893 with ⟨hv1894, hf1895⟩
      rw [hv1894]
      rw [hf1895]
      have hrr1896 := X_out2_r (s := s) (a := (pl (hgt - 2))) (b := (pl (hgt - 1)))
      show X_T sc 110 (78, [(3, .int (iI (pl (hgt - 2)))), (2, .int (iI (pl (hgt - 1)))), (0, .ref 527), (1, .int (iI s))], [.int (iI (X_out2 s (pl (hgt - 2)) (pl (hgt - 1)))), .int (iI (hgt - 2)), .ref 529], S1887) _
      have h1897 := (n1889 529 (by decide)).trans (hA529)
      refine T_ziast xr_110_78 h1897 (pc' := 79) rfl (fun S1898 h1899 n1900 e1901 => ?_)
      refine T_p xr_110_79 xn_110 (pc' := 80) (ls' := [(3, .int (iI (pl (hgt - 2)))), (2, .int (iI (pl (hgt - 1)))), (0, .ref 527), (1, .int (iI s))]) (st' := [.int (iI 1)]) rfl ?_
      refine T_iret xr_110_80 xf_110.2.2 (by decide) ?_
      refine hQ _ _ ?_
      have h1902 := (n1900 527 (by decide)).trans (h1888)
      exact Or.inr ⟨rfl, (by omega), h1902, h1899, ((X_Fr.rf).tr (X_Fr.of n1889 e1890 (by first | decide | exact ⟨Nat.le_add_right _ _, Nat.add_le_add_left (by decide) _⟩ | omega))).tr (X_Fr.of n1900 e1901 (by first | decide | exact ⟨Nat.le_add_right _ _, Nat.add_le_add_left (by decide) _⟩ | omega))⟩
    · skip
      have c1886 : ¬ (¬ (pl (hgt - 1)) = 0) := c1886
      refine T_p xr_110_38 xn_110 (pc' := 39) (ls' := [(3, .int (iI (pl (hgt - 2)))), (2, .int (iI (pl (hgt - 1)))), (0, .ref 527), (1, .int (iI s))]) (st' := [.int (iI s)]) rfl ?_
      refine T_p xr_110_39 xn_110 (pc' := 41) (ls' := [(3, .int (iI (pl (hgt - 2)))), (2, .int (iI (pl (hgt - 1)))), (0, .ref 527), (1, .int (iI s))]) (st' := [.int (iI 47), .int (iI s)]) rfl ?_
      refine T_zicmp_eq xr_110_41 (t := 50) (pc' := 44) rfl rfl (fun c1903 => ?_) (fun c1903 => ?_)
      · skip
        have c1903 : s = 47 := c1903
        refine T_p xr_110_50 xn_110 (pc' := 51) (ls' := [(3, .int (iI (pl (hgt - 2)))), (2, .int (iI (pl (hgt - 1)))), (0, .ref 527), (1, .int (iI s))]) (st' := [.int (iI 0)]) rfl ?_
        refine T_iret xr_110_51 xf_110.2.2 (by decide) ?_
        refine hQ _ _ ?_
        exact Or.inl ⟨rfl, (by omega), rfl⟩
      · skip
        have c1903 : ¬ (s = 47) := c1903
        refine T_p xr_110_44 xn_110 (pc' := 45) (ls' := [(3, .int (iI (pl (hgt - 2)))), (2, .int (iI (pl (hgt - 1)))), (0, .ref 527), (1, .int (iI s))]) (st' := [.int (iI s)]) rfl ?_
        refine T_p xr_110_45 xn_110 (pc' := 47) (ls' := [(3, .int (iI (pl (hgt - 2)))), (2, .int (iI (pl (hgt - 1)))), (0, .ref 527), (1, .int (iI s))]) (st' := [.int (iI 37), .int (iI s)]) rfl ?_
        refine T_zicmp_ne xr_110_47 (t := 52) (pc' := 50) rfl rfl (fun c1904 => ?_) (fun c1904 => ?_)
        · skip
          have c1904 : ¬ s = 37 := c1904
          refine T_p xr_110_52 xn_110 (pc' := 53) (ls' := [(3, .int (iI (pl (hgt - 2)))), (2, .int (iI (pl (hgt - 1)))), (0, .ref 527), (1, .int (iI s))]) (st' := [.ref 527]) rfl ?_
          refine T_p xr_110_53 xn_110 (pc' := 54) (ls' := [(3, .int (iI (pl (hgt - 2)))), (2, .int (iI (pl (hgt - 1)))), (0, .ref 527), (1, .int (iI s))]) (st' := [.ref 527, .ref 527]) rfl ?_
          refine T_get xr_110_54 hO527 rfl (v := .int (iI hgt)) rfl (pc' := 57) rfl ?_
          refine T_p xr_110_57 xn_110 (pc' := 58) (ls' := [(3, .int (iI (pl (hgt - 2)))), (2, .int (iI (pl (hgt - 1)))), (0, .ref 527), (1, .int (iI s))]) (st' := [.int (iI 1), .int (iI hgt), .ref 527]) rfl ?_
          refine T_zisub xr_110_58 (z := hgt - 1) rfl (pc' := 59) rfl ?_
          refine T_put xr_110_59 hO527 rfl (Nat.le_of_ble_eq_true rfl) rfl (fs' := [.ref 501, .ref 504, .int (iI rs), .int (iI re), .ref 528, .ref 529, .int (iI (hgt - 1))]) rfl (pc' := 62) rfl (fun S1905 h1906 n1907 e1908 => ?_)
          refine T_p xr_110_62 xn_110 (pc' := 63) (ls' := [(3, .int (iI (pl (hgt - 2)))), (2, .int (iI (pl (hgt - 1)))), (0, .ref 527), (1, .int (iI s))]) (st' := [.ref 527]) rfl ?_
          refine T_get xr_110_63 h1906 rfl (v := .ref 529) rfl (pc' := 66) rfl ?_
          refine T_p xr_110_66 xn_110 (pc' := 67) (ls' := [(3, .int (iI (pl (hgt - 2)))), (2, .int (iI (pl (hgt - 1)))), (0, .ref 527), (1, .int (iI s))]) (st' := [.ref 527, .ref 529]) rfl ?_
          refine T_get xr_110_67 h1906 rfl (v := .int (iI (hgt - 1))) rfl (pc' := 70) rfl ?_
          refine T_p xr_110_70 xn_110 (pc' := 71) (ls' := [(3, .int (iI (pl (hgt - 2)))), (2, .int (iI (pl (hgt - 1)))), (0, .ref 527), (1, .int (iI s))]) (st' := [.int (iI 1), .int (iI (hgt - 1)), .ref 529]) rfl ?_
          refine T_zisub xr_110_71 (z := hgt - 2) (by omega) (pc' := 72) rfl ?_
          refine T_p xr_110_72 xn_110 (pc' := 73) (ls' := [(3, .int (iI (pl (hgt - 2)))), (2, .int (iI (pl (hgt - 1)))), (0, .ref 527), (1, .int (iI s))]) (st' := [.int (iI s), .int (iI (hgt - 2)), .ref 529]) rfl ?_
          refine T_p xr_110_73 xn_110 (pc' := 74) (ls' := [(3, .int (iI (pl (hgt - 2)))), (2, .int (iI (pl (hgt - 1)))), (0, .ref 527), (1, .int (iI s))]) (st' := [.int (iI (pl (hgt - 2))), .int (iI s), .int (iI (hgt - 2)), .ref 529]) rfl ?_
          refine T_p xr_110_74 xn_110 (pc' := 75) (ls' := [(3, .int (iI (pl (hgt - 2)))), (2, .int (iI (pl (hgt - 1)))), (0, .ref 527), (1, .int (iI s))]) (st' := [.int (iI (pl (hgt - 1))), .int (iI (pl (hgt - 2))), .int (iI s), .int (iI (hgt - 2)), .ref 529]) rfl ?_
          refine T_cs xr_110_75 (by decide) xf_111.1 xn_111 (as := [.int (iI s), .int (iI (pl (hgt - 2))), .int (iI (pl (hgt - 1)))]) (r := [.int (iI (hgt - 2)), .ref 529]) rfl (Nat.le_of_ble_eq_true rfl) (Nat.le_of_ble_eq_true rfl) (pc' := 78) rfl (ls' := [(0, .int (iI s)), (1, .int (iI (pl (hgt - 2)))), (2, .int (iI (pl (hgt - 1))))]) rfl ?_
          refine T_mono (c_outcome sc S1905 s (pl (hgt - 2)) (pl (hgt - 1)) hs (by omega) (fun z => by omega)) (fun v1909 S1910 h1911 => ?_)
          rcases h1911 with ⟨hv1912, hf1913⟩
          rw [hv1912]
          rw [hf1913]
          have hrr1914 := X_out2_r (s := s) (a := (pl (hgt - 2))) (b := (pl (hgt - 1)))
          show X_T sc 110 (78, [(3, .int (iI (pl (hgt - 2)))), (2, .int (iI (pl (hgt - 1)))), (0, .ref 527), (1, .int (iI s))], [.int (iI (X_out2 s (pl (hgt - 2)) (pl (hgt - 1)))), .int (iI (hgt - 2)), .ref 529], S1905) _
          have h1915 := (n1907 529 (by decide)).trans (hA529)
          refine T_ziast xr_110_78 h1915 (pc' := 79) rfl (fun S1916 h1917 n1918 e1919 => ?_)
          refine T_p xr_110_79 xn_110 (pc' := 80) (ls' := [(3, .int (iI (pl (hgt - 2)))), (2, .int (iI (pl (hgt - 1)))), (0, .ref 527), (1, .int (iI s))]) (st' := [.int (iI 1)]) rfl ?_
          refine T_iret xr_110_80 xf_110.2.2 (by decide) ?_
          refine hQ _ _ ?_
          have h1920 := (n1918 527 (by decide)).trans (h1906)
          exact Or.inr ⟨rfl, (by omega), h1920, h1917, ((X_Fr.rf).tr (X_Fr.of n1907 e1908 (by first | decide | exact ⟨Nat.le_add_right _ _, Nat.add_le_add_left (by decide) _⟩ | omega))).tr (X_Fr.of n1918 e1919 (by first | decide | exact ⟨Nat.le_add_right _ _, Nat.add_le_add_left (by decide) _⟩ | omega))⟩
        · skip
          have c1904 : ¬ (¬ s = 37) := c1904
          refine T_p xr_110_50 xn_110 (pc' := 51) (ls' := [(3, .int (iI (pl (hgt - 2)))), (2, .int (iI (pl (hgt - 1)))), (0, .ref 527), (1, .int (iI s))]) (st' := [.int (iI 0)]) rfl ?_
          refine T_iret xr_110_51 xf_110.2.2 (by decide) ?_
          refine hQ _ _ ?_
          exact Or.inl ⟨rfl, (by omega), rfl⟩
  · skip
    have c1885 : ¬ (2 ≤ hgt) := c1885
    exact (show False by omega).elim
set_option maxHeartbeats 1600000 in
theorem c_runSteps (sc : X_Sc) (S : X_S) (nC : Int → Int) (vs : Int → Int) (pl : Int → Int) (a : Nat) (d : Nat → Int → Int) (q : Int → Int64) (ch : Int → Int) (n : Int) (nc : Int) (hgt : Int) (rs : Int) (re : Int) (hO504 : S.1 504 = .inr (5, [.int (iI nc), .ref 505, .ref 506, .ref 507, .ref 508, .ref 509, .ref 510])) (hO527 : S.1 527 = .inr (9, [.ref 501, .ref 504, .int (iI rs), .int (iI re), .ref 528, .ref 529, .int (iI hgt)])) (hA510 : S.1 510 = .inl (.int, 120, .inl fun k : Nat => iI (nC (k : Int)))) (hA528 : S.1 528 = .inl (.int, 30, .inl fun k : Nat => iI (vs (k : Int)))) (hA529 : S.1 529 = .inl (.int, 16, .inl fun k : Nat => iI (pl (k : Int)))) (hw : C_wd S a d q) (hr : X_wr d) (ha : a < 496) (hs : X_sok d) (h5 : d 5 0 ≤ 30) (h1 : X_ph (d 12) (d 5 0).toNat = 1) (hn : 0 ≤ n ∧ n < 30) (hcv : ∀ h, 0 ≤ h → h < d 4 0 → (0 ≤ nC (n * 4 + h) ∧ nC (n * 4 + h) < 30) ∧ vs (nC (n * 4 + h)) = ch h) : X_T sc 108 (0, [(0, .ref 527), (1, .ref a), (2, .int (iI n))], [], S) (fun v S' => (∃ (h2 : Int) (pl1 : Int → Int), v = some (.int (iI 0)) ∧ X_wS d ch (d 5 0).toNat = none ∧ S'.1 527 = .inr (9, [.ref 501, .ref 504, .int (iI rs), .int (iI re), .ref 528, .ref 529, .int (iI h2)]) ∧ S'.1 529 = .inl (.int, 16, .inl fun k : Nat => iI (pl1 (k : Int))) ∧ (X_Fr (fun q => q = 527 ∨ q = 529) S S')) ∨ (∃ (h2 : Int) (pl1 : Int → Int) (rr : Int × (Int → Int)), v = some (.int (iI 1)) ∧ X_wS d ch (d 5 0).toNat = some rr ∧ S'.1 527 = .inr (9, [.ref 501, .ref 504, .int (iI rs), .int (iI re), .ref 528, .ref 529, .int (iI h2)]) ∧ S'.1 528 = .inl (.int, 30, .inl fun k : Nat => iI ((X_ug vs n (rr.2 0)) (k : Int))) ∧ S'.1 529 = .inl (.int, 16, .inl fun k : Nat => iI (pl1 (k : Int))) ∧ (X_Fr (fun q => 527 ≤ q ∧ q ≤ 529) S S'))) := by
  obtain ⟨⟨hr0, hr0b⟩, ⟨hr1, hr1b⟩, ⟨hr2, hr2b⟩, ⟨hr3, hr3b⟩, ⟨hr4, hr4b⟩, ⟨hr5, hr5b⟩, ⟨hr6, hr6b⟩, ⟨hr7, hr7b⟩⟩ := id hr
  have h50 := hs.1
  refine X_QI (fun Q hQ => ?_)
  refine T_p xr_108_0 xn_108 (pc' := 1) (ls' := [(0, .ref 527), (1, .ref a), (2, .int (iI n))]) (st' := [.ref 527]) rfl ?_
  refine T_p xr_108_1 xn_108 (pc' := 2) (ls' := [(0, .ref 527), (1, .ref a), (2, .int (iI n))]) (st' := [.int (iI 0), .ref 527]) rfl ?_
  refine T_put xr_108_2 hO527 rfl (Nat.le_of_ble_eq_true rfl) rfl (fs' := [.ref 501, .ref 504, .int (iI rs), .int (iI re), .ref 528, .ref 529, .int (iI 0)]) rfl (pc' := 5) rfl (fun S1921 h1922 n1923 e1924 => ?_)
  refine T_p xr_108_5 xn_108 (pc' := 6) (ls' := [(0, .ref 527), (1, .ref a), (2, .int (iI n))]) (st' := [.int (iI 0)]) rfl ?_
  refine T_p xr_108_6 xn_108 (pc' := 7) (ls' := [(3, .int (iI 0)), (0, .ref 527), (1, .ref a), (2, .int (iI n))]) (st' := []) rfl ?_
  have h1930 := (n1923 529 (by decide)).trans (hA529)
  have L1925 : ∀ (m1927 : Nat) (S1931 : X_S) (k : Int) (hgt1 : Int) (pl1 : Int → Int) (pr : Int → Int) (hO7 : S1931.1 527 = .inr (9, [.ref 501, .ref 504, .int (iI rs), .int (iI re), .ref 528, .ref 529, .int (iI hgt1)])) (hpl1 : S1931.1 529 = .inl (.int, 16, .inl fun k : Nat => iI (pl1 (k : Int)))) (hF1929 : X_Fr (fun q => q = 527 ∨ q = 529) S1921 S1931) (hk : 0 ≤ k ∧ k ≤ d 5 0) (hS : X_wS d ch k.toNat = some (hgt1, pr)) (hpr : ∀ q, 0 ≤ q → q < hgt1 → pl1 q = pr q) (hm1928 : d 5 0 - k < m1927), X_T sc 108 (7, [(3, .int (iI k)), (0, .ref 527), (1, .ref a), (2, .int (iI n))], [], S1931) Q := by
    intro m1927
    induction m1927 with
    | zero =>
      intro S1931 k hgt1 pl1 pr hO7 hpl1 hF1929 hk hS hpr hm1928
      exact (show False by omega).elim
    | succ m1927 ih1926 =>
      intro S1931 k hgt1 pl1 pr hO7 hpl1 hF1929 hk hS hpr hm1928
      refine T_p xr_108_7 xn_108 (pc' := 8) (ls' := [(3, .int (iI k)), (0, .ref 527), (1, .ref a), (2, .int (iI n))]) (st' := [.int (iI k)]) rfl ?_
      refine T_p xr_108_8 xn_108 (pc' := 9) (ls' := [(3, .int (iI k)), (0, .ref 527), (1, .ref a), (2, .int (iI n))]) (st' := [.ref a, .int (iI k)]) rfl ?_
      have h1932 := (hF1929.1 a (by omega)).trans ((n1923 a (by omega)).trans (hw.1))
      refine T_get xr_108_9 h1932 rfl (v := .int (iI (d 5 0))) rfl (pc' := 12) rfl ?_
      refine T_zicmp_ge xr_108_12 (t := 94) (pc' := 15) rfl rfl (fun c1933 => ?_) (fun c1933 => ?_)
      · skip
        have c1933 : (d 5 0) ≤ k := c1933
        refine T_p xr_108_94 xn_108 (pc' := 95) (ls' := [(3, .int (iI k)), (0, .ref 527), (1, .ref a), (2, .int (iI n))]) (st' := [.ref 527]) rfl ?_
        refine T_get xr_108_95 hO7 rfl (v := .ref 528) rfl (pc' := 98) rfl ?_
        refine T_p xr_108_98 xn_108 (pc' := 99) (ls' := [(3, .int (iI k)), (0, .ref 527), (1, .ref a), (2, .int (iI n))]) (st' := [.int (iI n), .ref 528]) rfl ?_
        refine T_p xr_108_99 xn_108 (pc' := 100) (ls' := [(3, .int (iI k)), (0, .ref 527), (1, .ref a), (2, .int (iI n))]) (st' := [.ref 527, .int (iI n), .ref 528]) rfl ?_
        refine T_get xr_108_100 hO7 rfl (v := .ref 529) rfl (pc' := 103) rfl ?_
        refine T_p xr_108_103 xn_108 (pc' := 104) (ls' := [(3, .int (iI k)), (0, .ref 527), (1, .ref a), (2, .int (iI n))]) (st' := [.int (iI 0), .ref 529, .int (iI n), .ref 528]) rfl ?_
        refine T_ziald xr_108_104 hpl1 (pc' := 105) rfl ?_
        refine T_ie (y := iI (pr 0)) (by rw [hpr 0 (by omega) (by have := X_wS_h hs k.toNat (hgt1, pr) (by omega) hS; rw [show k = d 5 0 by omega, h1] at this; have : hgt1 = 1 := this; omega)]) ?_
        have h1934 := (hF1929.1 528 (by first | decide | omega)).trans ((n1923 528 (by decide)).trans (hA528))
        refine T_ziast xr_108_105 h1934 (pc' := 106) rfl (fun S1935 h1936 n1937 e1938 => ?_)
        refine T_p xr_108_106 xn_108 (pc' := 107) (ls' := [(3, .int (iI k)), (0, .ref 527), (1, .ref a), (2, .int (iI n))]) (st' := [.int (iI 1)]) rfl ?_
        refine T_iret xr_108_107 xf_108.2.2 (by decide) ?_
        refine hQ _ _ ?_
        have h1939 := (n1937 527 (by decide)).trans (hO7)
        have h1940 := (n1937 529 (by decide)).trans (hpl1)
        exact Or.inr ⟨hgt1, pl1, (hgt1, pr), rfl, (by rw [show d 5 0 = k by omega]; exact hS), h1939, h1936, h1940, (((X_Fr.rf).tr (X_Fr.of n1923 e1924 (by first | decide | exact ⟨Nat.le_add_right _ _, Nat.add_le_add_left (by decide) _⟩ | omega))).tr (X_Fr.mono ⟨hF1929.1, hF1929.2⟩ (fun q hq => (by omega)))).tr (X_Fr.of n1937 e1938 (by first | decide | exact ⟨Nat.le_add_right _ _, Nat.add_le_add_left (by decide) _⟩ | omega))⟩
      · skip
        have c1933 : ¬ ((d 5 0) ≤ k) := c1933
        have hst := hs.2.2 k (by omega) (by omega)
        have hph : hgt1 = X_ph (d 12) k.toNat := X_wS_h hs k.toNat (hgt1, pr) (by omega) hS
        have hrng := X_wS_r k.toNat (hgt1, pr) hS
        have hgo := X_wS_s d ch (k := k) (by omega)
        rw [hS] at hgo
        simp only [Option.bind] at hgo
        unfold X_st1 at hst
        have hst2 : (X_isOp (d 12 k) ∧ 2 ≤ hgt1 ∧ hgt1 ≤ 16) ∨ (¬ X_isOp (d 12 k) ∧ (d 12 k = 4 ∨ (d 12 k = 64 ∧ 1 ≤ d 13 k ∧ d 13 k ≤ d 4 0)) ∧ 0 ≤ hgt1 ∧ hgt1 < 16) := by rw [hph]; exact hst
        have hsr : d 12 k = 4 ∨ d 12 k = 64 ∨ (37 ≤ d 12 k ∧ d 12 k ≤ 60) := by
          rcases hst2 with ⟨z, -⟩ | ⟨-, z, -⟩
          · unfold X_isOp at z; omega
          · omega
        refine T_p xr_108_15 xn_108 (pc' := 16) (ls' := [(3, .int (iI k)), (0, .ref 527), (1, .ref a), (2, .int (iI n))]) (st' := [.ref a]) rfl ?_
        refine T_get xr_108_16 h1932 rfl (v := .ref (a + 6)) rfl (pc' := 19) rfl ?_
        refine T_p xr_108_19 xn_108 (pc' := 20) (ls' := [(3, .int (iI k)), (0, .ref 527), (1, .ref a), (2, .int (iI n))]) (st' := [.int (iI k), .ref (a + 6)]) rfl ?_
        have h1941 := (hF1929.1 (a + 6) (by omega)).trans ((n1923 (a + 6) (by first | exact (fun h => absurd (Nat.add_left_cancel h) (by decide)) | omega)).trans (hw.2.2.2.2.2.2.1))
        refine T_ziald xr_108_20 h1941 (pc' := 21) rfl ?_
        refine T_p xr_108_21 xn_108 (pc' := 23) (ls' := [(4, .int (iI ((d 12) k))), (3, .int (iI k)), (0, .ref 527), (1, .ref a), (2, .int (iI n))]) (st' := []) rfl ?_
        refine T_p xr_108_23 xn_108 (pc' := 24) (ls' := [(4, .int (iI ((d 12) k))), (3, .int (iI k)), (0, .ref 527), (1, .ref a), (2, .int (iI n))]) (st' := [.ref a]) rfl ?_
        refine T_get xr_108_24 h1932 rfl (v := .ref (a + 7)) rfl (pc' := 27) rfl ?_
        refine T_p xr_108_27 xn_108 (pc' := 28) (ls' := [(4, .int (iI ((d 12) k))), (3, .int (iI k)), (0, .ref 527), (1, .ref a), (2, .int (iI n))]) (st' := [.int (iI k), .ref (a + 7)]) rfl ?_
        have h1942 := (hF1929.1 (a + 7) (by omega)).trans ((n1923 (a + 7) (by first | exact (fun h => absurd (Nat.add_left_cancel h) (by decide)) | omega)).trans (hw.2.2.2.2.2.2.2))
        refine T_ziald xr_108_28 h1942 (pc' := 29) rfl ?_
        refine T_p xr_108_29 xn_108 (pc' := 31) (ls' := [(5, .int (iI ((d 13) k))), (4, .int (iI ((d 12) k))), (3, .int (iI k)), (0, .ref 527), (1, .ref a), (2, .int (iI n))]) (st' := []) rfl ?_
        refine T_p xr_108_31 xn_108 (pc' := 33) (ls' := [(5, .int (iI ((d 13) k))), (4, .int (iI ((d 12) k))), (3, .int (iI k)), (0, .ref 527), (1, .ref a), (2, .int (iI n))]) (st' := [.int (iI ((d 12) k))]) rfl ?_
        refine T_p xr_108_33 xn_108 (pc' := 34) (ls' := [(5, .int (iI ((d 13) k))), (4, .int (iI ((d 12) k))), (3, .int (iI k)), (0, .ref 527), (1, .ref a), (2, .int (iI n))]) (st' := [.int (iI 4), .int (iI ((d 12) k))]) rfl ?_
        refine T_zicmp_ne xr_108_34 (t := 46) (pc' := 37) rfl rfl (fun c1943 => ?_) (fun c1943 => ?_)
        · skip
          have c1943 : ¬ ((d 12) k) = 4 := c1943
          refine T_p xr_108_46 xn_108 (pc' := 48) (ls' := [(5, .int (iI ((d 13) k))), (4, .int (iI ((d 12) k))), (3, .int (iI k)), (0, .ref 527), (1, .ref a), (2, .int (iI n))]) (st' := [.int (iI ((d 12) k))]) rfl ?_
          refine T_p xr_108_48 xn_108 (pc' := 50) (ls' := [(5, .int (iI ((d 13) k))), (4, .int (iI ((d 12) k))), (3, .int (iI k)), (0, .ref 527), (1, .ref a), (2, .int (iI n))]) (st' := [.int (iI 64), .int (iI ((d 12) k))]) rfl ?_
          refine T_zicmp_ne xr_108_50 (t := 77) (pc' := 53) rfl rfl (fun c1944 => ?_) (fun c1944 => ?_)
          · skip
            have c1944 : ¬ ((d 12) k) = 64 := c1944
            have hst3 : X_isOp (d 12 k) ∧ 2 ≤ hgt1 ∧ hgt1 ≤ 16 := by
              rcases hst2 with z | ⟨-, z, -⟩
              · exact z
              · omega
            rw [if_neg (by omega), if_neg (by omega)] at hgo
            have hpp1 := hpr (hgt1 - 1) (by omega) (by omega)
            have hpp2 := hpr (hgt1 - 2) (by omega) (by omega)
            refine T_p xr_108_77 xn_108 (pc' := 78) (ls' := [(5, .int (iI ((d 13) k))), (4, .int (iI ((d 12) k))), (3, .int (iI k)), (0, .ref 527), (1, .ref a), (2, .int (iI n))]) (st' := [.ref 527]) rfl ?_
            refine T_p xr_108_78 xn_108 (pc' := 80) (ls' := [(5, .int (iI ((d 13) k))), (4, .int (iI ((d 12) k))), (3, .int (iI k)), (0, .ref 527), (1, .ref a), (2, .int (iI n))]) (st' := [.int (iI ((d 12) k)), .ref 527]) rfl ?_
            refine T_cv (S := S1931) (q := 527) xr_108_80 xf_110.1 xf_110.2.1 xn_110 (as := [.int (iI ((d 12) k))]) (r := []) rfl hO7 (Nat.le_of_ble_eq_true rfl) (Nat.le_of_ble_eq_true rfl) (pc' := 83) rfl (ls' := [(0, .ref 527), (1, .int (iI ((d 12) k)))]) rfl ?_
            refine T_mono (c_operate sc S1931 pl1 ((d 12) k) hgt1 rs re hO7 hpl1 hst3.1 (by omega) (fun q h1 h2 => by rw [hpr q h1 h2]; exact hrng q)) (fun v1945 S1946 h1947 => ?_)
            rcases h1947 with ⟨hv1948, hp1949, hf1950⟩ | ⟨hv1951, hp1952, ho1953, ha1954, hf1955⟩
            · skip
              rw [hv1948]
              rw [hf1950]
              show X_T sc 108 (83, [(5, .int (iI ((d 13) k))), (4, .int (iI ((d 12) k))), (3, .int (iI k)), (0, .ref 527), (1, .ref a), (2, .int (iI n))], [.int (iI 0)], S1931) _
              refine T_zif_nef xr_108_83 (t := 88) (pc' := 86) rfl rfl (by decide) ?_
              refine T_p xr_108_86 xn_108 (pc' := 87) (ls' := [(5, .int (iI ((d 13) k))), (4, .int (iI ((d 12) k))), (3, .int (iI k)), (0, .ref 527), (1, .ref a), (2, .int (iI n))]) (st' := [.int (iI 0)]) rfl ?_
              refine T_iret xr_108_87 xf_108.2.2 (by decide) ?_
              refine hQ _ _ ?_
              rw [if_pos ⟨hp1949.1, by rw [← hpp1]; exact hp1949.2⟩] at hgo
              have hz := X_wS_none (d := d) (ch := ch) (k := k + 1) (by omega) hgo ((d 5 0).toNat - (k + 1).toNat)
              rw [show (k + 1).toNat + ((d 5 0).toNat - (k + 1).toNat) = (d 5 0).toNat by omega] at hz
              exact Or.inl ⟨hgt1, pl1, rfl, hz, hO7, hpl1, ((X_Fr.rf).tr (X_Fr.of n1923 e1924 (by first | decide | exact ⟨Nat.le_add_right _ _, Nat.add_le_add_left (by decide) _⟩ | omega))).tr (X_Fr.mono ⟨hF1929.1, hF1929.2⟩ (fun q hq => (by omega)))⟩
            · skip
              rw [hv1951]
              show X_T sc 108 (83, [(5, .int (iI ((d 13) k))), (4, .int (iI ((d 12) k))), (3, .int (iI k)), (0, .ref 527), (1, .ref a), (2, .int (iI n))], [.int (iI 1)], S1946) _
              refine T_zif_net xr_108_83 (t := 88) rfl (by decide) ?_
              refine T_ziinc xr_108_88 xn_108 (a := k) (z := k + 1) rfl (Nat.le_of_ble_eq_true rfl) (by omega) (ls' := [(3, .int (iI (k + 1))), (5, .int (iI ((d 13) k))), (4, .int (iI ((d 12) k))), (0, .ref 527), (1, .ref a), (2, .int (iI n))]) rfl (pc' := 91) rfl ?_
              refine T_p xr_108_91 xn_108 (pc' := 7) (ls' := [(3, .int (iI (k + 1))), (5, .int (iI ((d 13) k))), (4, .int (iI ((d 12) k))), (0, .ref 527), (1, .ref a), (2, .int (iI n))]) (st' := []) rfl ?_
              refine T_sub (ls := [(3, .int (iI (k + 1))), (0, .ref 527), (1, .ref a), (2, .int (iI n))]) ⟨rfl, rfl, rfl, rfl, trivial⟩ rfl rfl ?_
              exact ih1926 S1946 (k + 1) (hgt1 - 1) (X_ug pl1 (hgt1 - 2) (X_out2 ((d 12) k) (pl1 (hgt1 - 2)) (pl1 (hgt1 - 1)))) (X_ug pr (hgt1 - 2) (X_out2 (d 12 k) (pr (hgt1 - 2)) (pr (hgt1 - 1)))) ho1953 ha1954 (hF1929.tr ((X_Fr.rf).tr (X_Fr.mono ⟨hf1955.1, hf1955.2⟩ (fun q hq => (by omega))))) (by omega) (by rw [hgo, if_neg (fun z => hp1952 ⟨z.1, by rw [hpp1]; exact z.2⟩)]) (fun q h1 h2 => by
                    by_cases hq : q = hgt1 - 2
                    · rw [hq, X_ug_s, X_ug_s, hpp1, hpp2]
                    · rw [X_ug_n _ _ hq, X_ug_n _ _ hq]; exact hpr q h1 (by omega)) (by omega)
          · skip
            have c1944 : ¬ (¬ ((d 12) k) = 64) := c1944
            have hst3 : (0 ≤ hgt1 ∧ hgt1 < 16) ∧ 1 ≤ d 13 k ∧ d 13 k ≤ d 4 0 := by
              rcases hst2 with ⟨z, -⟩ | ⟨-, z, z2⟩
              · unfold X_isOp at z; omega
              · exact ⟨z2, by omega⟩
            rw [if_neg (by omega), if_pos (by omega)] at hgo
            have hc := hcv (d 13 k - 1) (by omega) (by omega)
            refine T_p xr_108_53 xn_108 (pc' := 54) (ls' := [(5, .int (iI ((d 13) k))), (4, .int (iI ((d 12) k))), (3, .int (iI k)), (0, .ref 527), (1, .ref a), (2, .int (iI n))]) (st' := [.ref 527]) rfl ?_
            refine T_p xr_108_54 xn_108 (pc' := 55) (ls' := [(5, .int (iI ((d 13) k))), (4, .int (iI ((d 12) k))), (3, .int (iI k)), (0, .ref 527), (1, .ref a), (2, .int (iI n))]) (st' := [.ref 527, .ref 527]) rfl ?_
            refine T_get xr_108_55 hO7 rfl (v := .ref 528) rfl (pc' := 58) rfl ?_
            refine T_p xr_108_58 xn_108 (pc' := 59) (ls' := [(5, .int (iI ((d 13) k))), (4, .int (iI ((d 12) k))), (3, .int (iI k)), (0, .ref 527), (1, .ref a), (2, .int (iI n))]) (st' := [.ref 527, .ref 528, .ref 527]) rfl ?_
            refine T_get xr_108_59 hO7 rfl (v := .ref 504) rfl (pc' := 62) rfl ?_
            refine T_p xr_108_62 xn_108 (pc' := 63) (ls' := [(5, .int (iI ((d 13) k))), (4, .int (iI ((d 12) k))), (3, .int (iI k)), (0, .ref 527), (1, .ref a), (2, .int (iI n))]) (st' := [.int (iI n), .ref 504, .ref 528, .ref 527]) rfl ?_
            refine T_p xr_108_63 xn_108 (pc' := 65) (ls' := [(5, .int (iI ((d 13) k))), (4, .int (iI ((d 12) k))), (3, .int (iI k)), (0, .ref 527), (1, .ref a), (2, .int (iI n))]) (st' := [.int (iI ((d 13) k)), .int (iI n), .ref 504, .ref 528, .ref 527]) rfl ?_
            refine T_p xr_108_65 xn_108 (pc' := 66) (ls' := [(5, .int (iI ((d 13) k))), (4, .int (iI ((d 12) k))), (3, .int (iI k)), (0, .ref 527), (1, .ref a), (2, .int (iI n))]) (st' := [.int (iI 1), .int (iI ((d 13) k)), .int (iI n), .ref 504, .ref 528, .ref 527]) rfl ?_
            refine T_zisub xr_108_66 (z := ((d 13) k) - 1) rfl (pc' := 67) rfl ?_
            have h1956 := (hF1929.1 504 (by first | decide | omega)).trans ((n1923 504 (by decide)).trans (hO504))
            refine T_cv (S := S1931) (q := 504) xr_108_67 xf_85.1 xf_85.2.1 xn_85 (as := [.int (iI n), .int (iI (((d 13) k) - 1))]) (r := [.ref 528, .ref 527]) rfl h1956 (Nat.le_of_ble_eq_true rfl) (Nat.le_of_ble_eq_true rfl) (pc' := 70) rfl (ls' := [(0, .ref 504), (1, .int (iI n)), (2, .int (iI (((d 13) k) - 1)))]) rfl ?_
            refine T_p xr_85_0 xn_85 (pc' := 1) (ls' := [(0, .ref 504), (1, .int (iI n)), (2, .int (iI (((d 13) k) - 1)))]) (st' := [.ref 504]) rfl ?_
            refine T_get xr_85_1 h1956 rfl (v := .ref 510) rfl (pc' := 4) rfl ?_
            refine T_p xr_85_4 xn_85 (pc' := 5) (ls' := [(0, .ref 504), (1, .int (iI n)), (2, .int (iI (((d 13) k) - 1)))]) (st' := [.int (iI n), .ref 510]) rfl ?_
            refine T_p xr_85_5 xn_85 (pc' := 6) (ls' := [(0, .ref 504), (1, .int (iI n)), (2, .int (iI (((d 13) k) - 1)))]) (st' := [.int (iI 4), .int (iI n), .ref 510]) rfl ?_
            refine T_zimul xr_85_6 (z := n * 4) rfl (pc' := 7) rfl ?_
            refine T_p xr_85_7 xn_85 (pc' := 8) (ls' := [(0, .ref 504), (1, .int (iI n)), (2, .int (iI (((d 13) k) - 1)))]) (st' := [.int (iI (((d 13) k) - 1)), .int (iI (n * 4)), .ref 510]) rfl ?_
            refine T_ziadd xr_85_8 (z := (n * 4) + (((d 13) k) - 1)) rfl (pc' := 9) rfl ?_
            have h1957 := (hF1929.1 510 (by first | decide | omega)).trans ((n1923 510 (by decide)).trans (hA510))
            refine T_ziald xr_85_9 h1957 (pc' := 10) rfl ?_
            refine T_iret xr_85_10 xf_85.2.2 rfl ?_
            show X_T sc 108 (70, [(5, .int (iI ((d 13) k))), (4, .int (iI ((d 12) k))), (3, .int (iI k)), (0, .ref 527), (1, .ref a), (2, .int (iI n))], [.int (iI (nC ((n * 4) + (((d 13) k) - 1)))), .ref 528, .ref 527], S1931) _
            have h1958 := (hF1929.1 528 (by first | decide | omega)).trans ((n1923 528 (by decide)).trans (hA528))
            refine T_ziald xr_108_70 h1958 (pc' := 71) rfl ?_
            refine T_ie (y := iI (ch (d 13 k - 1))) (by rw [show (d 13) k - 1 = d 13 k - 1 from rfl, hc.2]) ?_
            refine T_ie (y := iI ((iI (ch (d 13 k - 1))).toInt)) (iI_of _) ?_
            refine T_cv (S := S1931) (q := 527) xr_108_71 xf_109.1 xf_109.2.1 xn_109 (as := [.int (iI ((iI (ch (d 13 k - 1))).toInt))]) (r := []) rfl hO7 (Nat.le_of_ble_eq_true rfl) (Nat.le_of_ble_eq_true rfl) (pc' := 74) rfl (ls' := [(0, .ref 527), (1, .int (iI ((iI (ch (d 13 k - 1))).toInt)))]) rfl ?_
            refine T_p xr_109_0 xn_109 (pc' := 1) (ls' := [(0, .ref 527), (1, .int (iI ((iI (ch (d 13 k - 1))).toInt)))]) (st' := [.ref 527]) rfl ?_
            refine T_get xr_109_1 hO7 rfl (v := .int (iI hgt1)) rfl (pc' := 4) rfl ?_
            refine T_p xr_109_4 xn_109 (pc' := 6) (ls' := [(0, .ref 527), (1, .int (iI ((iI (ch (d 13 k - 1))).toInt)))]) (st' := [.int (iI 16), .int (iI hgt1)]) rfl ?_
            refine T_zicmp_ge xr_109_6 (t := 29) (pc' := 9) rfl rfl (fun c1959 => ?_) (fun c1959 => ?_)
            · skip
              have c1959 : 16 ≤ hgt1 := c1959
              exact (show False by omega).elim
            · skip
              have c1959 : ¬ (16 ≤ hgt1) := c1959
              refine T_p xr_109_9 xn_109 (pc' := 10) (ls' := [(0, .ref 527), (1, .int (iI ((iI (ch (d 13 k - 1))).toInt)))]) (st' := [.ref 527]) rfl ?_
              refine T_get xr_109_10 hO7 rfl (v := .ref 529) rfl (pc' := 13) rfl ?_
              refine T_p xr_109_13 xn_109 (pc' := 14) (ls' := [(0, .ref 527), (1, .int (iI ((iI (ch (d 13 k - 1))).toInt)))]) (st' := [.ref 527, .ref 529]) rfl ?_
              refine T_get xr_109_14 hO7 rfl (v := .int (iI hgt1)) rfl (pc' := 17) rfl ?_
              refine T_p xr_109_17 xn_109 (pc' := 18) (ls' := [(0, .ref 527), (1, .int (iI ((iI (ch (d 13 k - 1))).toInt)))]) (st' := [.int (iI ((iI (ch (d 13 k - 1))).toInt)), .int (iI hgt1), .ref 529]) rfl ?_
              refine T_ziast xr_109_18 hpl1 (pc' := 19) rfl (fun S1960 h1961 n1962 e1963 => ?_)
              refine T_p xr_109_19 xn_109 (pc' := 20) (ls' := [(0, .ref 527), (1, .int (iI ((iI (ch (d 13 k - 1))).toInt)))]) (st' := [.ref 527]) rfl ?_
              refine T_p xr_109_20 xn_109 (pc' := 21) (ls' := [(0, .ref 527), (1, .int (iI ((iI (ch (d 13 k - 1))).toInt)))]) (st' := [.ref 527, .ref 527]) rfl ?_
              have h1964 := (n1962 527 (by decide)).trans (hO7)
              refine T_get xr_109_21 h1964 rfl (v := .int (iI hgt1)) rfl (pc' := 24) rfl ?_
              refine T_p xr_109_24 xn_109 (pc' := 25) (ls' := [(0, .ref 527), (1, .int (iI ((iI (ch (d 13 k - 1))).toInt)))]) (st' := [.int (iI 1), .int (iI hgt1), .ref 527]) rfl ?_
              refine T_ziadd xr_109_25 (z := hgt1 + 1) rfl (pc' := 26) rfl ?_
              refine T_put xr_109_26 h1964 rfl (Nat.le_of_ble_eq_true rfl) rfl (fs' := [.ref 501, .ref 504, .int (iI rs), .int (iI re), .ref 528, .ref 529, .int (iI (hgt1 + 1))]) rfl (pc' := 29) rfl (fun S1965 h1966 n1967 e1968 => ?_)
              refine T_vret xr_109_29 xf_109.2.2 ?_
              show X_T sc 108 (74, [(5, .int (iI ((d 13) k))), (4, .int (iI ((d 12) k))), (3, .int (iI k)), (0, .ref 527), (1, .ref a), (2, .int (iI n))], [], S1965) _
              refine T_p xr_108_74 xn_108 (pc' := 88) (ls' := [(5, .int (iI ((d 13) k))), (4, .int (iI ((d 12) k))), (3, .int (iI k)), (0, .ref 527), (1, .ref a), (2, .int (iI n))]) (st' := []) rfl ?_
              refine T_ziinc xr_108_88 xn_108 (a := k) (z := k + 1) rfl (Nat.le_of_ble_eq_true rfl) (by omega) (ls' := [(3, .int (iI (k + 1))), (5, .int (iI ((d 13) k))), (4, .int (iI ((d 12) k))), (0, .ref 527), (1, .ref a), (2, .int (iI n))]) rfl (pc' := 91) rfl ?_
              refine T_p xr_108_91 xn_108 (pc' := 7) (ls' := [(3, .int (iI (k + 1))), (5, .int (iI ((d 13) k))), (4, .int (iI ((d 12) k))), (0, .ref 527), (1, .ref a), (2, .int (iI n))]) (st' := []) rfl ?_
              have h1969 := (n1967 529 (by decide)).trans (h1961)
              refine T_sub (ls := [(3, .int (iI (k + 1))), (0, .ref 527), (1, .ref a), (2, .int (iI n))]) ⟨rfl, rfl, rfl, rfl, trivial⟩ rfl rfl ?_
              exact ih1926 S1965 (k + 1) (hgt1 + 1) (X_ug pl1 hgt1 ((iI (ch (d 13 k - 1))).toInt)) (X_ug pr hgt1 ((iI (ch (d 13 k - 1))).toInt)) h1966 h1969 (hF1929.tr (((X_Fr.rf).tr (X_Fr.of n1962 e1963 (by first | decide | exact ⟨Nat.le_add_right _ _, Nat.add_le_add_left (by decide) _⟩ | omega))).tr (X_Fr.of n1967 e1968 (by first | decide | exact ⟨Nat.le_add_right _ _, Nat.add_le_add_left (by decide) _⟩ | omega)))) (by omega) hgo (fun q h1 h2 => by
                    by_cases hq : q = hgt1
                    · rw [hq, X_ug_s, X_ug_s]
                    · rw [X_ug_n _ _ hq, X_ug_n _ _ hq]; exact hpr q h1 (by omega)) (by omega)
        · skip
          have c1943 : ¬ (¬ ((d 12) k) = 4) := c1943
          refine T_p xr_108_37 xn_108 (pc' := 38) (ls' := [(5, .int (iI ((d 13) k))), (4, .int (iI ((d 12) k))), (3, .int (iI k)), (0, .ref 527), (1, .ref a), (2, .int (iI n))]) (st' := [.ref 527]) rfl ?_
          refine T_p xr_108_38 xn_108 (pc' := 40) (ls' := [(5, .int (iI ((d 13) k))), (4, .int (iI ((d 12) k))), (3, .int (iI k)), (0, .ref 527), (1, .ref a), (2, .int (iI n))]) (st' := [.int (iI ((d 13) k)), .ref 527]) rfl ?_
          have hst3 : 0 ≤ hgt1 ∧ hgt1 < 16 := by
            rcases hst2 with ⟨z, -⟩ | ⟨-, -, z⟩
            · unfold X_isOp at z; omega
            · exact z
          rw [if_pos (by omega)] at hgo
          refine T_ie (y := iI ((iI ((d 13) k)).toInt)) (iI_of _) ?_
          refine T_cv (S := S1931) (q := 527) xr_108_40 xf_109.1 xf_109.2.1 xn_109 (as := [.int (iI ((iI ((d 13) k)).toInt))]) (r := []) rfl hO7 (Nat.le_of_ble_eq_true rfl) (Nat.le_of_ble_eq_true rfl) (pc' := 43) rfl (ls' := [(0, .ref 527), (1, .int (iI ((iI ((d 13) k)).toInt)))]) rfl ?_
          refine T_p xr_109_0 xn_109 (pc' := 1) (ls' := [(0, .ref 527), (1, .int (iI ((iI ((d 13) k)).toInt)))]) (st' := [.ref 527]) rfl ?_
          refine T_get xr_109_1 hO7 rfl (v := .int (iI hgt1)) rfl (pc' := 4) rfl ?_
          refine T_p xr_109_4 xn_109 (pc' := 6) (ls' := [(0, .ref 527), (1, .int (iI ((iI ((d 13) k)).toInt)))]) (st' := [.int (iI 16), .int (iI hgt1)]) rfl ?_
          refine T_zicmp_ge xr_109_6 (t := 29) (pc' := 9) rfl rfl (fun c1970 => ?_) (fun c1970 => ?_)
          · skip
            have c1970 : 16 ≤ hgt1 := c1970
            exact (show False by omega).elim
          · skip
            have c1970 : ¬ (16 ≤ hgt1) := c1970
            refine T_p xr_109_9 xn_109 (pc' := 10) (ls' := [(0, .ref 527), (1, .int (iI ((iI ((d 13) k)).toInt)))]) (st' := [.ref 527]) rfl ?_
            refine T_get xr_109_10 hO7 rfl (v := .ref 529) rfl (pc' := 13) rfl ?_
            refine T_p xr_109_13 xn_109 (pc' := 14) (ls' := [(0, .ref 527), (1, .int (iI ((iI ((d 13) k)).toInt)))]) (st' := [.ref 527, .ref 529]) rfl ?_
            refine T_get xr_109_14 hO7 rfl (v := .int (iI hgt1)) rfl (pc' := 17) rfl ?_
            refine T_p xr_109_17 xn_109 (pc' := 18) (ls' := [(0, .ref 527), (1, .int (iI ((iI ((d 13) k)).toInt)))]) (st' := [.int (iI ((iI ((d 13) k)).toInt)), .int (iI hgt1), .ref 529]) rfl ?_
            refine T_ziast xr_109_18 hpl1 (pc' := 19) rfl (fun S1971 h1972 n1973 e1974 => ?_)
            refine T_p xr_109_19 xn_109 (pc' := 20) (ls' := [(0, .ref 527), (1, .int (iI ((iI ((d 13) k)).toInt)))]) (st' := [.ref 527]) rfl ?_
            refine T_p xr_109_20 xn_109 (pc' := 21) (ls' := [(0, .ref 527), (1, .int (iI ((iI ((d 13) k)).toInt)))]) (st' := [.ref 527, .ref 527]) rfl ?_
            have h1975 := (n1973 527 (by decide)).trans (hO7)
            refine T_get xr_109_21 h1975 rfl (v := .int (iI hgt1)) rfl (pc' := 24) rfl ?_
            refine T_p xr_109_24 xn_109 (pc' := 25) (ls' := [(0, .ref 527), (1, .int (iI ((iI ((d 13) k)).toInt)))]) (st' := [.int (iI 1), .int (iI hgt1), .ref 527]) rfl ?_
            refine T_ziadd xr_109_25 (z := hgt1 + 1) rfl (pc' := 26) rfl ?_
            refine T_put xr_109_26 h1975 rfl (Nat.le_of_ble_eq_true rfl) rfl (fs' := [.ref 501, .ref 504, .int (iI rs), .int (iI re), .ref 528, .ref 529, .int (iI (hgt1 + 1))]) rfl (pc' := 29) rfl (fun S1976 h1977 n1978 e1979 => ?_)
            refine T_vret xr_109_29 xf_109.2.2 ?_
            show X_T sc 108 (43, [(5, .int (iI ((d 13) k))), (4, .int (iI ((d 12) k))), (3, .int (iI k)), (0, .ref 527), (1, .ref a), (2, .int (iI n))], [], S1976) _
            refine T_p xr_108_43 xn_108 (pc' := 88) (ls' := [(5, .int (iI ((d 13) k))), (4, .int (iI ((d 12) k))), (3, .int (iI k)), (0, .ref 527), (1, .ref a), (2, .int (iI n))]) (st' := []) rfl ?_
            refine T_ziinc xr_108_88 xn_108 (a := k) (z := k + 1) rfl (Nat.le_of_ble_eq_true rfl) (by omega) (ls' := [(3, .int (iI (k + 1))), (5, .int (iI ((d 13) k))), (4, .int (iI ((d 12) k))), (0, .ref 527), (1, .ref a), (2, .int (iI n))]) rfl (pc' := 91) rfl ?_
            refine T_p xr_108_91 xn_108 (pc' := 7) (ls' := [(3, .int (iI (k + 1))), (5, .int (iI ((d 13) k))), (4, .int (iI ((d 12) k))), (0, .ref 527), (1, .ref a), (2, .int (iI n))]) (st' := []) rfl ?_
            have h1980 := (n1978 529 (by decide)).trans (h1972)
            refine T_sub (ls := [(3, .int (iI (k + 1))), (0, .ref 527), (1, .ref a), (2, .int (iI n))]) ⟨rfl, rfl, rfl, rfl, trivial⟩ rfl rfl ?_
            exact ih1926 S1976 (k + 1) (hgt1 + 1) (X_ug pl1 hgt1 ((iI ((d 13) k)).toInt)) (X_ug pr hgt1 ((iI (d 13 k)).toInt)) h1977 h1980 (hF1929.tr (((X_Fr.rf).tr (X_Fr.of n1973 e1974 (by first | decide | exact ⟨Nat.le_add_right _ _, Nat.add_le_add_left (by decide) _⟩ | omega))).tr (X_Fr.of n1978 e1979 (by first | decide | exact ⟨Nat.le_add_right _ _, Nat.add_le_add_left (by decide) _⟩ | omega)))) (by omega) hgo (fun q h1 h2 => by
                  by_cases hq : q = hgt1
                  · rw [hq, X_ug_s, X_ug_s]
                  · rw [X_ug_n _ _ hq, X_ug_n _ _ hq]; exact hpr q h1 (by omega)) (by omega)
  exact L1925 ((d 5 0) + 1).toNat S1921 0 0 pl (fun _ => 0) h1922 h1930 ((X_Fr.rf)) (by omega) rfl (fun q h1 h2 => absurd h2 (by omega)) (by omega)
end
section
theorem xr_105_0 : X_row 105 0 = some (0, (.aload_n 0, 1), (0, 0, 0)) := by decide +kernel
theorem xr_105_1 : X_row 105 1 = some (1, (.iconst 0, 1), (0, 0, 0)) := by decide +kernel
theorem xr_105_2 : X_row 105 2 = some (2, (.putfield 9, 3), (9, 2, 24)) := by decide +kernel
theorem xr_105_5 : X_row 105 5 = some (5, (.aload_n 0, 1), (0, 0, 0)) := by decide +kernel
theorem xr_105_6 : X_row 105 6 = some (6, (.iconst (-1), 1), (0, 0, 0)) := by decide +kernel
theorem xr_105_7 : X_row 105 7 = some (7, (.putfield 15, 3), (9, 3, 26)) := by decide +kernel
theorem xr_105_10 : X_row 105 10 = some (10, (.return_, 1), (0, 0, 0)) := by decide +kernel
theorem xr_106_0 : X_row 106 0 = some (0, (.aload_n 0, 1), (0, 0, 0)) := by decide +kernel
theorem xr_106_1 : X_row 106 1 = some (1, (.invokevirtual 36, 3), (105, 0, 0)) := by decide +kernel
theorem xr_106_4 : X_row 106 4 = some (4, (.iconst 1, 1), (0, 0, 0)) := by decide +kernel
theorem xr_106_5 : X_row 106 5 = some (5, (.istore_n 2, 1), (0, 0, 0)) := by decide +kernel
theorem xr_106_6 : X_row 106 6 = some (6, (.iload_n 2, 1), (0, 0, 0)) := by decide +kernel
theorem xr_106_7 : X_row 106 7 = some (7, (.aload_n 0, 1), (0, 0, 0)) := by decide +kernel
theorem xr_106_8 : X_row 106 8 = some (8, (.getfield 32, 3), (9, 1, 22)) := by decide +kernel
theorem xr_106_11 : X_row 106 11 = some (11, (.getfield 39, 3), (5, 0, 13)) := by decide +kernel
theorem xr_106_14 : X_row 106 14 = some (14, (.if_icmp .gt 96, 3), (0, 0, 0)) := by decide +kernel
theorem xr_106_17 : X_row 106 17 = some (17, (.iload_n 2, 1), (0, 0, 0)) := by decide +kernel
theorem xr_106_18 : X_row 106 18 = some (18, (.aload_n 0, 1), (0, 0, 0)) := by decide +kernel
theorem xr_106_19 : X_row 106 19 = some (19, (.getfield 32, 3), (9, 1, 22)) := by decide +kernel
theorem xr_106_22 : X_row 106 22 = some (22, (.getfield 39, 3), (5, 0, 13)) := by decide +kernel
theorem xr_106_25 : X_row 106 25 = some (25, (.if_icmp .ge 15, 3), (0, 0, 0)) := by decide +kernel
theorem xr_106_28 : X_row 106 28 = some (28, (.aload_n 0, 1), (0, 0, 0)) := by decide +kernel
theorem xr_106_29 : X_row 106 29 = some (29, (.getfield 32, 3), (9, 1, 22)) := by decide +kernel
theorem xr_106_32 : X_row 106 32 = some (32, (.getfield 44, 3), (5, 4, 19)) := by decide +kernel
theorem xr_106_35 : X_row 106 35 = some (35, (.iload_n 2, 1), (0, 0, 0)) := by decide +kernel
theorem xr_106_36 : X_row 106 36 = some (36, (.iaload, 1), (0, 0, 0)) := by decide +kernel
theorem xr_106_37 : X_row 106 37 = some (37, (.goto 4, 3), (0, 0, 0)) := by decide +kernel
theorem xr_106_40 : X_row 106 40 = some (40, (.iconst (-1), 1), (0, 0, 0)) := by decide +kernel
theorem xr_106_41 : X_row 106 41 = some (41, (.istore_n 3, 1), (0, 0, 0)) := by decide +kernel
theorem xr_106_42 : X_row 106 42 = some (42, (.iload_n 2, 1), (0, 0, 0)) := by decide +kernel
theorem xr_106_43 : X_row 106 43 = some (43, (.iconst 1, 1), (0, 0, 0)) := by decide +kernel
theorem xr_106_44 : X_row 106 44 = some (44, (.isub, 1), (0, 0, 0)) := by decide +kernel
theorem xr_106_45 : X_row 106 45 = some (45, (.istore 4, 2), (0, 0, 0)) := by decide +kernel
theorem xr_106_47 : X_row 106 47 = some (47, (.iconst 0, 1), (0, 0, 0)) := by decide +kernel
theorem xr_106_48 : X_row 106 48 = some (48, (.istore 5, 2), (0, 0, 0)) := by decide +kernel
theorem xr_106_50 : X_row 106 50 = some (50, (.iload 5, 2), (0, 0, 0)) := by decide +kernel
theorem xr_106_52 : X_row 106 52 = some (52, (.bipush 30, 2), (0, 0, 0)) := by decide +kernel
theorem xr_106_54 : X_row 106 54 = some (54, (.if_icmp .ge 50, 3), (0, 0, 0)) := by decide +kernel
theorem xr_106_57 : X_row 106 57 = some (57, (.iload 4, 2), (0, 0, 0)) := by decide +kernel
theorem xr_106_59 : X_row 106 59 = some (59, (.iload_n 3, 1), (0, 0, 0)) := by decide +kernel
theorem xr_106_60 : X_row 106 60 = some (60, (.if_icmp .le 44, 3), (0, 0, 0)) := by decide +kernel
theorem xr_106_63 : X_row 106 63 = some (63, (.aload_n 0, 1), (0, 0, 0)) := by decide +kernel
theorem xr_106_64 : X_row 106 64 = some (64, (.aload_n 1, 1), (0, 0, 0)) := by decide +kernel
theorem xr_106_65 : X_row 106 65 = some (65, (.iload 4, 2), (0, 0, 0)) := by decide +kernel
theorem xr_106_67 : X_row 106 67 = some (67, (.invokevirtual 47, 3), (107, 2, 0)) := by decide +kernel
theorem xr_106_70 : X_row 106 70 = some (70, (.istore 6, 2), (0, 0, 0)) := by decide +kernel
theorem xr_106_72 : X_row 106 72 = some (72, (.iload 6, 2), (0, 0, 0)) := by decide +kernel
theorem xr_106_74 : X_row 106 74 = some (74, (.ifCond .eq 12, 3), (0, 0, 0)) := by decide +kernel
theorem xr_106_77 : X_row 106 77 = some (77, (.aload_n 0, 1), (0, 0, 0)) := by decide +kernel
theorem xr_106_78 : X_row 106 78 = some (78, (.iload 4, 2), (0, 0, 0)) := by decide +kernel
theorem xr_106_80 : X_row 106 80 = some (80, (.putfield 15, 3), (9, 3, 26)) := by decide +kernel
theorem xr_106_83 : X_row 106 83 = some (83, (.iload 6, 2), (0, 0, 0)) := by decide +kernel
theorem xr_106_85 : X_row 106 85 = some (85, (.ireturn, 1), (0, 0, 0)) := by decide +kernel
theorem xr_106_86 : X_row 106 86 = some (86, (.aload_n 0, 1), (0, 0, 0)) := by decide +kernel
theorem xr_106_87 : X_row 106 87 = some (87, (.getfield 32, 3), (9, 1, 22)) := by decide +kernel
theorem xr_106_90 : X_row 106 90 = some (90, (.getfield 44, 3), (5, 4, 19)) := by decide +kernel
theorem xr_106_93 : X_row 106 93 = some (93, (.iload 4, 2), (0, 0, 0)) := by decide +kernel
theorem xr_106_95 : X_row 106 95 = some (95, (.iaload, 1), (0, 0, 0)) := by decide +kernel
theorem xr_106_96 : X_row 106 96 = some (96, (.istore 4, 2), (0, 0, 0)) := by decide +kernel
theorem xr_106_98 : X_row 106 98 = some (98, (.iinc 5 1, 3), (0, 0, 0)) := by decide +kernel
theorem xr_106_101 : X_row 106 101 = some (101, (.goto (-51), 3), (0, 0, 0)) := by decide +kernel
theorem xr_106_104 : X_row 106 104 = some (104, (.iinc 2 1, 3), (0, 0, 0)) := by decide +kernel
theorem xr_106_107 : X_row 106 107 = some (107, (.goto (-101), 3), (0, 0, 0)) := by decide +kernel
theorem xr_106_110 : X_row 106 110 = some (110, (.aload_n 0, 1), (0, 0, 0)) := by decide +kernel
theorem xr_106_111 : X_row 106 111 = some (111, (.aload_n 0, 1), (0, 0, 0)) := by decide +kernel
theorem xr_106_112 : X_row 106 112 = some (112, (.getfield 18, 3), (9, 4, 28)) := by decide +kernel
theorem xr_106_115 : X_row 106 115 = some (115, (.iconst 0, 1), (0, 0, 0)) := by decide +kernel
theorem xr_106_116 : X_row 106 116 = some (116, (.iaload, 1), (0, 0, 0)) := by decide +kernel
theorem xr_106_117 : X_row 106 117 = some (117, (.putfield 9, 3), (9, 2, 24)) := by decide +kernel
theorem xr_106_120 : X_row 106 120 = some (120, (.iconst 0, 1), (0, 0, 0)) := by decide +kernel
theorem xr_106_121 : X_row 106 121 = some (121, (.ireturn, 1), (0, 0, 0)) := by decide +kernel
theorem xr_107_0 : X_row 107 0 = some (0, (.aload_n 0, 1), (0, 0, 0)) := by decide +kernel
theorem xr_107_1 : X_row 107 1 = some (1, (.getfield 32, 3), (9, 1, 22)) := by decide +kernel
theorem xr_107_4 : X_row 107 4 = some (4, (.getfield 51, 3), (5, 1, 15)) := by decide +kernel
theorem xr_107_7 : X_row 107 7 = some (7, (.iload_n 2, 1), (0, 0, 0)) := by decide +kernel
theorem xr_107_8 : X_row 107 8 = some (8, (.iaload, 1), (0, 0, 0)) := by decide +kernel
theorem xr_107_9 : X_row 107 9 = some (9, (.istore_n 3, 1), (0, 0, 0)) := by decide +kernel
theorem xr_107_10 : X_row 107 10 = some (10, (.iload_n 3, 1), (0, 0, 0)) := by decide +kernel
theorem xr_107_11 : X_row 107 11 = some (11, (.bipush (-2), 2), (0, 0, 0)) := by decide +kernel
theorem xr_107_13 : X_row 107 13 = some (13, (.if_icmp .ne 27, 3), (0, 0, 0)) := by decide +kernel
theorem xr_107_16 : X_row 107 16 = some (16, (.aload_n 0, 1), (0, 0, 0)) := by decide +kernel
theorem xr_107_17 : X_row 107 17 = some (17, (.getfield 18, 3), (9, 4, 28)) := by decide +kernel
theorem xr_107_20 : X_row 107 20 = some (20, (.iload_n 2, 1), (0, 0, 0)) := by decide +kernel
theorem xr_107_21 : X_row 107 21 = some (21, (.aload_n 0, 1), (0, 0, 0)) := by decide +kernel
theorem xr_107_22 : X_row 107 22 = some (22, (.getfield 28, 3), (9, 0, 20)) := by decide +kernel
theorem xr_107_25 : X_row 107 25 = some (25, (.aload_n 0, 1), (0, 0, 0)) := by decide +kernel
theorem xr_107_26 : X_row 107 26 = some (26, (.getfield 32, 3), (9, 1, 22)) := by decide +kernel
theorem xr_107_29 : X_row 107 29 = some (29, (.getfield 54, 3), (5, 2, 17)) := by decide +kernel
theorem xr_107_32 : X_row 107 32 = some (32, (.iload_n 2, 1), (0, 0, 0)) := by decide +kernel
theorem xr_107_33 : X_row 107 33 = some (33, (.iaload, 1), (0, 0, 0)) := by decide +kernel
theorem xr_107_34 : X_row 107 34 = some (34, (.invokevirtual 57, 3), (89, 4, 0)) := by decide +kernel
theorem xr_107_37 : X_row 107 37 = some (37, (.iastore, 1), (0, 0, 0)) := by decide +kernel
theorem xr_107_38 : X_row 107 38 = some (38, (.iconst 0, 1), (0, 0, 0)) := by decide +kernel
theorem xr_107_39 : X_row 107 39 = some (39, (.ireturn, 1), (0, 0, 0)) := by decide +kernel
theorem xr_107_40 : X_row 107 40 = some (40, (.iload_n 3, 1), (0, 0, 0)) := by decide +kernel
theorem xr_107_41 : X_row 107 41 = some (41, (.bipush (-3), 2), (0, 0, 0)) := by decide +kernel
theorem xr_107_43 : X_row 107 43 = some (43, (.if_icmp .ne 25, 3), (0, 0, 0)) := by decide +kernel
theorem xr_107_46 : X_row 107 46 = some (46, (.aload_n 0, 1), (0, 0, 0)) := by decide +kernel
theorem xr_107_47 : X_row 107 47 = some (47, (.getfield 18, 3), (9, 4, 28)) := by decide +kernel
theorem xr_107_50 : X_row 107 50 = some (50, (.iload_n 2, 1), (0, 0, 0)) := by decide +kernel
theorem xr_107_51 : X_row 107 51 = some (51, (.aload_n 0, 1), (0, 0, 0)) := by decide +kernel
theorem xr_107_52 : X_row 107 52 = some (52, (.getfield 18, 3), (9, 4, 28)) := by decide +kernel
theorem xr_107_55 : X_row 107 55 = some (55, (.aload_n 0, 1), (0, 0, 0)) := by decide +kernel
theorem xr_107_56 : X_row 107 56 = some (56, (.getfield 32, 3), (9, 1, 22)) := by decide +kernel
theorem xr_107_59 : X_row 107 59 = some (59, (.iload_n 2, 1), (0, 0, 0)) := by decide +kernel
theorem xr_107_60 : X_row 107 60 = some (60, (.iconst 0, 1), (0, 0, 0)) := by decide +kernel
theorem xr_107_61 : X_row 107 61 = some (61, (.invokevirtual 63, 3), (85, 6, 0)) := by decide +kernel
theorem xr_107_64 : X_row 107 64 = some (64, (.iaload, 1), (0, 0, 0)) := by decide +kernel
theorem xr_107_65 : X_row 107 65 = some (65, (.iastore, 1), (0, 0, 0)) := by decide +kernel
theorem xr_107_66 : X_row 107 66 = some (66, (.iconst 0, 1), (0, 0, 0)) := by decide +kernel
theorem xr_107_67 : X_row 107 67 = some (67, (.ireturn, 1), (0, 0, 0)) := by decide +kernel
theorem xr_107_68 : X_row 107 68 = some (68, (.aload_n 1, 1), (0, 0, 0)) := by decide +kernel
theorem xr_107_69 : X_row 107 69 = some (69, (.getfield 67, 3), (0, 7, 11)) := by decide +kernel
theorem xr_107_72 : X_row 107 72 = some (72, (.iload_n 3, 1), (0, 0, 0)) := by decide +kernel
theorem xr_107_73 : X_row 107 73 = some (73, (.aaload, 1), (0, 0, 0)) := by decide +kernel
theorem xr_107_74 : X_row 107 74 = some (74, (.astore 4, 2), (0, 0, 0)) := by decide +kernel
theorem xr_107_76 : X_row 107 76 = some (76, (.aload 4, 2), (0, 0, 0)) := by decide +kernel
theorem xr_107_78 : X_row 107 78 = some (78, (.getfield 73, 3), (8, 5, 1)) := by decide +kernel
theorem xr_107_81 : X_row 107 81 = some (81, (.iconst (-1), 1), (0, 0, 0)) := by decide +kernel
theorem xr_107_82 : X_row 107 82 = some (82, (.if_icmp .eq 19, 3), (0, 0, 0)) := by decide +kernel
theorem xr_107_85 : X_row 107 85 = some (85, (.aload_n 0, 1), (0, 0, 0)) := by decide +kernel
theorem xr_107_86 : X_row 107 86 = some (86, (.aload 4, 2), (0, 0, 0)) := by decide +kernel
theorem xr_107_88 : X_row 107 88 = some (88, (.iload_n 2, 1), (0, 0, 0)) := by decide +kernel
theorem xr_107_89 : X_row 107 89 = some (89, (.invokevirtual 78, 3), (108, 8, 0)) := by decide +kernel
theorem xr_107_92 : X_row 107 92 = some (92, (.ifCond .eq 7, 3), (0, 0, 0)) := by decide +kernel
theorem xr_107_95 : X_row 107 95 = some (95, (.iconst 0, 1), (0, 0, 0)) := by decide +kernel
theorem xr_107_96 : X_row 107 96 = some (96, (.goto 4, 3), (0, 0, 0)) := by decide +kernel
theorem xr_107_99 : X_row 107 99 = some (99, (.iconst 1, 1), (0, 0, 0)) := by decide +kernel
theorem xr_107_100 : X_row 107 100 = some (100, (.ireturn, 1), (0, 0, 0)) := by decide +kernel
theorem xr_107_101 : X_row 107 101 = some (101, (.aload_n 0, 1), (0, 0, 0)) := by decide +kernel
theorem xr_107_102 : X_row 107 102 = some (102, (.getfield 18, 3), (9, 4, 28)) := by decide +kernel
theorem xr_107_105 : X_row 107 105 = some (105, (.iload_n 2, 1), (0, 0, 0)) := by decide +kernel
theorem xr_107_106 : X_row 107 106 = some (106, (.aload 4, 2), (0, 0, 0)) := by decide +kernel
theorem xr_107_108 : X_row 107 108 = some (108, (.getfield 82, 3), (8, 7, 5)) := by decide +kernel
theorem xr_107_111 : X_row 107 111 = some (111, (.iastore, 1), (0, 0, 0)) := by decide +kernel
theorem xr_107_112 : X_row 107 112 = some (112, (.aload 4, 2), (0, 0, 0)) := by decide +kernel
theorem xr_107_114 : X_row 107 114 = some (114, (.getfield 85, 3), (8, 6, 3)) := by decide +kernel
theorem xr_107_117 : X_row 107 117 = some (117, (.ifCond .eq 7, 3), (0, 0, 0)) := by decide +kernel
theorem xr_107_120 : X_row 107 120 = some (120, (.iconst 0, 1), (0, 0, 0)) := by decide +kernel
theorem xr_107_121 : X_row 107 121 = some (121, (.goto 4, 3), (0, 0, 0)) := by decide +kernel
theorem xr_107_124 : X_row 107 124 = some (124, (.iconst 2, 1), (0, 0, 0)) := by decide +kernel
theorem xr_107_125 : X_row 107 125 = some (125, (.ireturn, 1), (0, 0, 0)) := by decide +kernel
theorem xn_105 : X_nL 105 = 1 := by decide +kernel
theorem xf_105 : X_na 105 = 0 ∧ X_ci 105 = 9 ∧ X_rt 105 = none := by decide +kernel
theorem xn_106 : X_nL 106 = 7 := by decide +kernel
theorem xf_106 : X_na 106 = 1 ∧ X_ci 106 = 9 ∧ X_rt 106 = (some .int) := by decide +kernel
theorem xn_107 : X_nL 107 = 5 := by decide +kernel
theorem xf_107 : X_na 107 = 2 ∧ X_ci 107 = 9 ∧ X_rt 107 = (some .int) := by decide +kernel
set_option maxHeartbeats 1600000 in
theorem c_workNode (sc : X_Sc) (S : X_S) (nW : Int → Int) (nF : Int → Int) (nL : Int → Int) (nP : Int → Int) (nH : Int → Int) (nC : Int → Int) (vs : Int → Int) (pl : Int → Int) (B : Nat) (rc : Int) (rn : Int → Int64) (kn : Int → Int64) (G : X_G) (tn : Int) (nc : Int) (N : Int → Int → Int) (n : Int) (V : Int → Int) (rs : Int) (re : Int) (hgt : Int) (hO501 : S.1 501 = .inr (6, [.int (iI tn), .ref 502, .ref 503])) (hO504 : S.1 504 = .inr (5, [.int (iI nc), .ref 505, .ref 506, .ref 507, .ref 508, .ref 509, .ref 510])) (hO527 : S.1 527 = .inr (9, [.ref 501, .ref 504, .int (iI rs), .int (iI re), .ref 528, .ref 529, .int (iI hgt)])) (hA505 : S.1 505 = .inl (.int, 30, .inl fun k : Nat => iI (nW (k : Int)))) (hA506 : S.1 506 = .inl (.int, 30, .inl fun k : Nat => iI (nF (k : Int)))) (hA507 : S.1 507 = .inl (.int, 30, .inl fun k : Nat => iI (nL (k : Int)))) (hA508 : S.1 508 = .inl (.int, 30, .inl fun k : Nat => iI (nP (k : Int)))) (hA509 : S.1 509 = .inl (.int, 30, .inl fun k : Nat => iI (nH (k : Int)))) (hA510 : S.1 510 = .inl (.int, 120, .inl fun k : Nat => iI (nC (k : Int)))) (hA528 : S.1 528 = .inl (.int, 30, .inl fun k : Nat => iI (vs (k : Int)))) (hA529 : S.1 529 = .inl (.int, 16, .inl fun k : Nat => iI (pl (k : Int)))) (hB : B = 4 ∨ B = 250) (hb : C_bk S B rc (gk G) (gw G) rn (gl G) kn (ga G)) (hs : C_ws S B (gD G) (gW G)) (hG : X_Gok G) (hGs : X_Gst G) (hA502 : S.1 502 = .inl (.long, 30, .inr (.inl fun k : Nat => (gt G) (k : Int)))) (hR : X_Rok G tn nc N) (hn : 0 ≤ n ∧ n < nc) (hnd : F_nd nc N nW nF nL nP nH) (hch : F_ch nc N nC) (hV : ∀ h, 0 ≤ h → h < 4 → ¬ X_lc N n h nc.toNat = -1 → vs (X_lc N n h nc.toNat) = V (X_lc N n h nc.toNat)) : X_T sc 107 (0, [(0, .ref 527), (1, .ref B), (2, .int (iI n))], [], S) (fun v S' => ∃ (vs1 : Int → Int) (pl1 : Int → Int) (h2 : Int), v = some (.int (iI ((X_ev G (fun w => gD G w 6 0) (fun w => gD G w 7 0) N nc V n).1))) ∧ ((X_ev G (fun w => gD G w 6 0) (fun w => gD G w 7 0) N nc V n).1 = 0 → vs1 n = (X_ev G (fun w => gD G w 6 0) (fun w => gD G w 7 0) N nc V n).2) ∧ ((∀ m, ¬ m = n → vs1 m = vs m)) ∧ S'.1 527 = .inr (9, [.ref 501, .ref 504, .int (iI rs), .int (iI re), .ref 528, .ref 529, .int (iI h2)]) ∧ S'.1 528 = .inl (.int, 30, .inl fun k : Nat => iI (vs1 (k : Int))) ∧ S'.1 529 = .inl (.int, 16, .inl fun k : Nat => iI (pl1 (k : Int))) ∧ (X_Fr (fun q => 527 ≤ q ∧ q ≤ 529) S S')) := by
  obtain ⟨hb0, hb1, hb2, hb3, hb4, ⟨f, hb5, hf⟩, ⟨hrc, hrcb⟩, ⟨hkc, hkcb⟩, ⟨hwc, hwcb⟩⟩ := id hb
  have hRn := hR.1
  have hR4 := hR.2.2.2.2.1 n hn.1 hn.2
  have hN0 := (hnd n hn.1 hn.2).1
  have hN1 := (hnd n hn.1 hn.2).2.1
  have hN0r := hR4.1
  refine X_QI (fun Q hQ => ?_)
  refine T_p xr_107_0 xn_107 (pc' := 1) (ls' := [(0, .ref 527), (1, .ref B), (2, .int (iI n))]) (st' := [.ref 527]) rfl ?_
  refine T_get xr_107_1 hO527 rfl (v := .ref 504) rfl (pc' := 4) rfl ?_
  refine T_get xr_107_4 hO504 rfl (v := .ref 505) rfl (pc' := 7) rfl ?_
  refine T_p xr_107_7 xn_107 (pc' := 8) (ls' := [(0, .ref 527), (1, .ref B), (2, .int (iI n))]) (st' := [.int (iI n), .ref 505]) rfl ?_
  refine T_ziald xr_107_8 hA505 (pc' := 9) rfl ?_
  refine T_ie (y := iI (N 0 n)) (by rw [hN0]) ?_
  refine T_p xr_107_9 xn_107 (pc' := 10) (ls' := [(3, .int (iI (N 0 n))), (0, .ref 527), (1, .ref B), (2, .int (iI n))]) (st' := []) rfl ?_
  refine T_p xr_107_10 xn_107 (pc' := 11) (ls' := [(3, .int (iI (N 0 n))), (0, .ref 527), (1, .ref B), (2, .int (iI n))]) (st' := [.int (iI (N 0 n))]) rfl ?_
  refine T_p xr_107_11 xn_107 (pc' := 13) (ls' := [(3, .int (iI (N 0 n))), (0, .ref 527), (1, .ref B), (2, .int (iI n))]) (st' := [.int (iI (-2)), .int (iI (N 0 n))]) rfl ?_
  refine T_zicmp_ne xr_107_13 (t := 40) (pc' := 16) rfl rfl (fun c1981 => ?_) (fun c1981 => ?_)
  · skip
    have c1981 : ¬ (N 0 n) = (-2) := c1981
    refine T_p xr_107_40 xn_107 (pc' := 41) (ls' := [(3, .int (iI (N 0 n))), (0, .ref 527), (1, .ref B), (2, .int (iI n))]) (st' := [.int (iI (N 0 n))]) rfl ?_
    refine T_p xr_107_41 xn_107 (pc' := 43) (ls' := [(3, .int (iI (N 0 n))), (0, .ref 527), (1, .ref B), (2, .int (iI n))]) (st' := [.int (iI (-3)), .int (iI (N 0 n))]) rfl ?_
    refine T_zicmp_ne xr_107_43 (t := 68) (pc' := 46) rfl rfl (fun c1982 => ?_) (fun c1982 => ?_)
    · skip
      have c1982 : ¬ (N 0 n) = (-3) := c1982
      have hwn : 0 ≤ N 0 n ∧ N 0 n < gw G := by omega
      have hgn := hG.2.2.2 (N 0 n) hwn.1 hwn.2
      have hgh := hgn.2.1
      refine T_p xr_107_68 xn_107 (pc' := 69) (ls' := [(3, .int (iI (N 0 n))), (0, .ref 527), (1, .ref B), (2, .int (iI n))]) (st' := [.ref B]) rfl ?_
      refine T_get xr_107_69 hb0 rfl (v := .ref (B + 5)) rfl (pc' := 72) rfl ?_
      refine T_p xr_107_72 xn_107 (pc' := 73) (ls' := [(3, .int (iI (N 0 n))), (0, .ref 527), (1, .ref B), (2, .int (iI n))]) (st' := [.int (iI (N 0 n)), .ref (B + 5)]) rfl ?_
      have hwaw := hs (N 0 n) (by omega) (by omega)
      obtain ⟨aw, haaw⟩ : ∃ z : Nat, z = B + 6 + 8 * (N 0 n : Int).toNat := ⟨_, rfl⟩
      rw [← haaw] at hwaw
      obtain ⟨⟨_, _⟩, ⟨_, _⟩, ⟨_, _⟩, ⟨_, _⟩, ⟨_, _⟩, ⟨_, _⟩, ⟨_, _⟩, ⟨_, _⟩⟩ := id hwaw.2
      refine T_zaald xr_107_73 hb5 (w := aw) (by rw [haaw]; exact hf _ (by omega)) (pc' := 74) rfl ?_
      refine T_p xr_107_74 xn_107 (pc' := 76) (ls' := [(4, .ref aw), (3, .int (iI (N 0 n))), (0, .ref 527), (1, .ref B), (2, .int (iI n))]) (st' := []) rfl ?_
      refine T_p xr_107_76 xn_107 (pc' := 78) (ls' := [(4, .ref aw), (3, .int (iI (N 0 n))), (0, .ref 527), (1, .ref B), (2, .int (iI n))]) (st' := [.ref aw]) rfl ?_
      refine T_get xr_107_78 hwaw.1.1 rfl (v := .int (iI ((gD G) (N 0 n) 5 0))) rfl (pc' := 81) rfl ?_
      refine T_p xr_107_81 xn_107 (pc' := 82) (ls' := [(4, .ref aw), (3, .int (iI (N 0 n))), (0, .ref 527), (1, .ref B), (2, .int (iI n))]) (st' := [.int (iI (-1)), .int (iI ((gD G) (N 0 n) 5 0))]) rfl ?_
      refine T_zicmp_eq xr_107_82 (t := 101) (pc' := 85) rfl rfl (fun c1986 => ?_) (fun c1986 => ?_)
      · skip
        have c1986 : ((gD G) (N 0 n) 5 0) = (-1) := c1986
        refine T_p xr_107_101 xn_107 (pc' := 102) (ls' := [(4, .ref aw), (3, .int (iI (N 0 n))), (0, .ref 527), (1, .ref B), (2, .int (iI n))]) (st' := [.ref 527]) rfl ?_
        refine T_get xr_107_102 hO527 rfl (v := .ref 528) rfl (pc' := 105) rfl ?_
        refine T_p xr_107_105 xn_107 (pc' := 106) (ls' := [(4, .ref aw), (3, .int (iI (N 0 n))), (0, .ref 527), (1, .ref B), (2, .int (iI n))]) (st' := [.int (iI n), .ref 528]) rfl ?_
        refine T_p xr_107_106 xn_107 (pc' := 108) (ls' := [(4, .ref aw), (3, .int (iI (N 0 n))), (0, .ref 527), (1, .ref B), (2, .int (iI n))]) (st' := [.ref aw, .int (iI n), .ref 528]) rfl ?_
        refine T_get xr_107_108 hwaw.1.1 rfl (v := .int (iI ((gD G) (N 0 n) 7 0))) rfl (pc' := 111) rfl ?_
        refine T_ziast xr_107_111 hA528 (pc' := 112) rfl (fun S1987 h1988 n1989 e1990 => ?_)
        refine T_p xr_107_112 xn_107 (pc' := 114) (ls' := [(4, .ref aw), (3, .int (iI (N 0 n))), (0, .ref 527), (1, .ref B), (2, .int (iI n))]) (st' := [.ref aw]) rfl ?_
        have h1991 := (n1989 aw (by omega)).trans (hwaw.1.1)
        refine T_get xr_107_114 h1991 rfl (v := .int (iI ((gD G) (N 0 n) 6 0))) rfl (pc' := 117) rfl ?_
        refine T_zif_eq xr_107_117 (t := 124) (pc' := 120) rfl rfl (fun c1992 => ?_) (fun c1992 => ?_)
        · skip
          have c1992 : ((gD G) (N 0 n) 6 0) = 0 := c1992
          refine T_p xr_107_124 xn_107 (pc' := 125) (ls' := [(4, .ref aw), (3, .int (iI (N 0 n))), (0, .ref 527), (1, .ref B), (2, .int (iI n))]) (st' := [.int (iI 2)]) rfl ?_
          refine T_iret xr_107_125 xf_107.2.2 rfl ?_
          refine hQ _ _ ?_
          have h1993 := (n1989 529 (by decide)).trans (hA529)
          have h1994 := (n1989 527 (by decide)).trans (hO527)
          have hev1995 : (X_ev G (fun w => gD G w 6 0) (fun w => gD G w 7 0) N nc V n) = (2, 0) := (X_ev_v hwn.1 (by omega)).trans (by first | rw [if_pos (show gD G (N 0 n) 6 0 = 1 by omega)] | rw [if_neg (show ¬ gD G (N 0 n) 6 0 = 1 by omega)])
          exact ⟨(X_ug vs n ((gD G) (N 0 n) 7 0)), pl, hgt, (by rw [hev1995]), (fun z => absurd (show (2 : Int) = 0 by rw [hev1995] at z; exact z) (by omega)), (fun m hm => X_ug_n _ _ hm), h1994, h1988, h1993, (X_Fr.rf).tr (X_Fr.of n1989 e1990 (by first | decide | exact ⟨Nat.le_add_right _ _, Nat.add_le_add_left (by decide) _⟩ | omega))⟩
        · skip
          have c1992 : ¬ (((gD G) (N 0 n) 6 0) = 0) := c1992
          refine T_p xr_107_120 xn_107 (pc' := 121) (ls' := [(4, .ref aw), (3, .int (iI (N 0 n))), (0, .ref 527), (1, .ref B), (2, .int (iI n))]) (st' := [.int (iI 0)]) rfl ?_
          refine T_p xr_107_121 xn_107 (pc' := 125) (ls' := [(4, .ref aw), (3, .int (iI (N 0 n))), (0, .ref 527), (1, .ref B), (2, .int (iI n))]) (st' := [.int (iI 0)]) rfl ?_
          refine T_iret xr_107_125 xf_107.2.2 rfl ?_
          refine hQ _ _ ?_
          have h1996 := (n1989 529 (by decide)).trans (hA529)
          have h1997 := (n1989 527 (by decide)).trans (hO527)
          have hev1998 : (X_ev G (fun w => gD G w 6 0) (fun w => gD G w 7 0) N nc V n) = (0, gD G (N 0 n) 7 0) := (X_ev_v hwn.1 (by omega)).trans (by first | rw [if_pos (show gD G (N 0 n) 6 0 = 1 by omega)] | rw [if_neg (show ¬ gD G (N 0 n) 6 0 = 1 by omega)])
          exact ⟨(X_ug vs n ((gD G) (N 0 n) 7 0)), pl, hgt, (by rw [hev1998]), (fun _ => by rw [hev1998]; exact X_ug_s _ _ _), (fun m hm => X_ug_n _ _ hm), h1997, h1988, h1996, (X_Fr.rf).tr (X_Fr.of n1989 e1990 (by first | decide | exact ⟨Nat.le_add_right _ _, Nat.add_le_add_left (by decide) _⟩ | omega))⟩
      · skip
        have c1986 : ¬ (((gD G) (N 0 n) 5 0) = (-1)) := c1986
        have hsk := (hGs (N 0 n) hwn.1 hwn.2).resolve_left (by omega)
        have hcv : ∀ h, 0 ≤ h → h < gD G (N 0 n) 4 0 → (0 ≤ nC (n * 4 + h) ∧ nC (n * 4 + h) < 30) ∧ vs (nC (n * 4 + h)) = (fun h => V (X_lc N n h nc.toNat)) h := fun h g1 g2 => by
          have hc := hR.2.2.2.2.2.1 n hn.1 hn.2 hwn.1 h g1 g2
          have hc2 := X_lc_r (N := N) (p := n) (h := h) nc.toNat
          rw [hch n h hn.1 g1 (by omega) hc]
          exact ⟨by omega, hV h g1 (by omega) hc⟩
        refine T_p xr_107_85 xn_107 (pc' := 86) (ls' := [(4, .ref aw), (3, .int (iI (N 0 n))), (0, .ref 527), (1, .ref B), (2, .int (iI n))]) (st' := [.ref 527]) rfl ?_
        refine T_p xr_107_86 xn_107 (pc' := 88) (ls' := [(4, .ref aw), (3, .int (iI (N 0 n))), (0, .ref 527), (1, .ref B), (2, .int (iI n))]) (st' := [.ref aw, .ref 527]) rfl ?_
        refine T_p xr_107_88 xn_107 (pc' := 89) (ls' := [(4, .ref aw), (3, .int (iI (N 0 n))), (0, .ref 527), (1, .ref B), (2, .int (iI n))]) (st' := [.int (iI n), .ref aw, .ref 527]) rfl ?_
        refine T_cv (S := S) (q := 527) xr_107_89 xf_108.1 xf_108.2.1 xn_108 (as := [.ref aw, .int (iI n)]) (r := []) rfl hO527 (Nat.le_of_ble_eq_true rfl) (Nat.le_of_ble_eq_true rfl) (pc' := 92) rfl (ls' := [(0, .ref 527), (1, .ref aw), (2, .int (iI n))]) rfl ?_
        refine T_mono (c_runSteps sc S nC vs pl aw (gD G (N 0 n)) (gW G (N 0 n)) (fun h => V (X_lc N n h nc.toNat)) n nc hgt rs re hO504 hO527 hA510 hA528 hA529 ⟨hwaw.1.1, hwaw.1.2.1, hwaw.1.2.2.1, hwaw.1.2.2.2.1, hwaw.1.2.2.2.2.1, hwaw.1.2.2.2.2.2.1, hwaw.1.2.2.2.2.2.2.1, hwaw.1.2.2.2.2.2.2.2⟩ hwaw.2 (by omega) hsk.1 hsk.2.1 hsk.2.2 (by omega) hcv) (fun v1999 S2000 h2001 => ?_)
        rcases h2001 with ⟨h2002, pl2003, hv2004, hp2005, ho2006, ha2007, hf2008⟩ | ⟨h2009, pl2010, rr2011, hv2012, hp2013, ho2014, ha2015, ha2016, hf2017⟩
        · skip
          rw [hv2004]
          show X_T sc 107 (92, [(4, .ref aw), (3, .int (iI (N 0 n))), (0, .ref 527), (1, .ref B), (2, .int (iI n))], [.int (iI 0)], S2000) _
          refine T_zif_eqt xr_107_92 (t := 99) rfl (by decide) ?_
          refine T_p xr_107_99 xn_107 (pc' := 100) (ls' := [(4, .ref aw), (3, .int (iI (N 0 n))), (0, .ref 527), (1, .ref B), (2, .int (iI n))]) (st' := [.int (iI 1)]) rfl ?_
          refine T_iret xr_107_100 xf_107.2.2 rfl ?_
          refine hQ _ _ ?_
          have h2018 := (hf2008.1 528 (by first | decide | omega)).trans (hA528)
          have hev2019 : (X_ev G (fun w => gD G w 6 0) (fun w => gD G w 7 0) N nc V n) = (1, 0) := X_ev_s1 hwn.1 (by omega) hp2005
          exact ⟨vs, pl2003, h2002, (by rw [hev2019]), (fun z => absurd (show (1 : Int) = 0 by rw [hev2019] at z; exact z) (by omega)), (fun m _ => rfl), ho2006, h2018, ha2007, (X_Fr.rf).tr (X_Fr.mono ⟨hf2008.1, hf2008.2⟩ (fun q hq => (by omega)))⟩
        · skip
          rw [hv2012]
          show X_T sc 107 (92, [(4, .ref aw), (3, .int (iI (N 0 n))), (0, .ref 527), (1, .ref B), (2, .int (iI n))], [.int (iI 1)], S2000) _
          refine T_zif_eqf xr_107_92 (t := 99) (pc' := 95) rfl rfl (by decide) ?_
          refine T_p xr_107_95 xn_107 (pc' := 96) (ls' := [(4, .ref aw), (3, .int (iI (N 0 n))), (0, .ref 527), (1, .ref B), (2, .int (iI n))]) (st' := [.int (iI 0)]) rfl ?_
          refine T_p xr_107_96 xn_107 (pc' := 100) (ls' := [(4, .ref aw), (3, .int (iI (N 0 n))), (0, .ref 527), (1, .ref B), (2, .int (iI n))]) (st' := [.int (iI 0)]) rfl ?_
          refine T_iret xr_107_100 xf_107.2.2 rfl ?_
          refine hQ _ _ ?_
          have hev2020 : (X_ev G (fun w => gD G w 6 0) (fun w => gD G w 7 0) N nc V n) = (0, rr2011.2 0) := X_ev_s0 hwn.1 (by omega) hp2013
          exact ⟨(X_ug vs n (rr2011.2 0)), pl2010, h2009, (by rw [hev2020]), (fun _ => by rw [hev2020]; exact X_ug_s _ _ _), (fun m hm => X_ug_n _ _ hm), ho2014, ha2015, ha2016, (X_Fr.rf).tr (X_Fr.mono ⟨hf2017.1, hf2017.2⟩ (fun q hq => (by omega)))⟩
    · skip
      have c1982 : ¬ (¬ (N 0 n) = (-3)) := c1982
      have hb := hR.2.2.2.2.2.2 n hn.1 hn.2 (by omega)
      have hbc := hch n 0 hn.1 (Int.le_refl 0) (by omega) (by omega)
      have hbv := hV 0 (Int.le_refl 0) (by omega) (by omega)
      refine T_p xr_107_46 xn_107 (pc' := 47) (ls' := [(3, .int (iI (N 0 n))), (0, .ref 527), (1, .ref B), (2, .int (iI n))]) (st' := [.ref 527]) rfl ?_
      refine T_get xr_107_47 hO527 rfl (v := .ref 528) rfl (pc' := 50) rfl ?_
      refine T_p xr_107_50 xn_107 (pc' := 51) (ls' := [(3, .int (iI (N 0 n))), (0, .ref 527), (1, .ref B), (2, .int (iI n))]) (st' := [.int (iI n), .ref 528]) rfl ?_
      refine T_p xr_107_51 xn_107 (pc' := 52) (ls' := [(3, .int (iI (N 0 n))), (0, .ref 527), (1, .ref B), (2, .int (iI n))]) (st' := [.ref 527, .int (iI n), .ref 528]) rfl ?_
      refine T_get xr_107_52 hO527 rfl (v := .ref 528) rfl (pc' := 55) rfl ?_
      refine T_p xr_107_55 xn_107 (pc' := 56) (ls' := [(3, .int (iI (N 0 n))), (0, .ref 527), (1, .ref B), (2, .int (iI n))]) (st' := [.ref 527, .ref 528, .int (iI n), .ref 528]) rfl ?_
      refine T_get xr_107_56 hO527 rfl (v := .ref 504) rfl (pc' := 59) rfl ?_
      refine T_p xr_107_59 xn_107 (pc' := 60) (ls' := [(3, .int (iI (N 0 n))), (0, .ref 527), (1, .ref B), (2, .int (iI n))]) (st' := [.int (iI n), .ref 504, .ref 528, .int (iI n), .ref 528]) rfl ?_
      refine T_p xr_107_60 xn_107 (pc' := 61) (ls' := [(3, .int (iI (N 0 n))), (0, .ref 527), (1, .ref B), (2, .int (iI n))]) (st' := [.int (iI 0), .int (iI n), .ref 504, .ref 528, .int (iI n), .ref 528]) rfl ?_
      refine T_cv (S := S) (q := 504) xr_107_61 xf_85.1 xf_85.2.1 xn_85 (as := [.int (iI n), .int (iI 0)]) (r := [.ref 528, .int (iI n), .ref 528]) rfl hO504 (Nat.le_of_ble_eq_true rfl) (Nat.le_of_ble_eq_true rfl) (pc' := 64) rfl (ls' := [(0, .ref 504), (1, .int (iI n)), (2, .int (iI 0))]) rfl ?_
      refine T_p xr_85_0 xn_85 (pc' := 1) (ls' := [(0, .ref 504), (1, .int (iI n)), (2, .int (iI 0))]) (st' := [.ref 504]) rfl ?_
      refine T_get xr_85_1 hO504 rfl (v := .ref 510) rfl (pc' := 4) rfl ?_
      refine T_p xr_85_4 xn_85 (pc' := 5) (ls' := [(0, .ref 504), (1, .int (iI n)), (2, .int (iI 0))]) (st' := [.int (iI n), .ref 510]) rfl ?_
      refine T_p xr_85_5 xn_85 (pc' := 6) (ls' := [(0, .ref 504), (1, .int (iI n)), (2, .int (iI 0))]) (st' := [.int (iI 4), .int (iI n), .ref 510]) rfl ?_
      refine T_zimul xr_85_6 (z := n * 4) rfl (pc' := 7) rfl ?_
      refine T_p xr_85_7 xn_85 (pc' := 8) (ls' := [(0, .ref 504), (1, .int (iI n)), (2, .int (iI 0))]) (st' := [.int (iI 0), .int (iI (n * 4)), .ref 510]) rfl ?_
      refine T_ziadd xr_85_8 (z := (n * 4) + 0) rfl (pc' := 9) rfl ?_
      refine T_ziald xr_85_9 hA510 (pc' := 10) rfl ?_
      refine T_iret xr_85_10 xf_85.2.2 rfl ?_
      show X_T sc 107 (64, [(3, .int (iI (N 0 n))), (0, .ref 527), (1, .ref B), (2, .int (iI n))], [.int (iI (nC ((n * 4) + 0))), .ref 528, .int (iI n), .ref 528], S) _
      refine T_ie (y := iI (X_lc N n 0 nc.toNat)) (by rw [← hbc]) ?_
      refine T_ziald xr_107_64 hA528 (pc' := 65) rfl ?_
      refine T_ie (y := iI (V (X_lc N n 0 nc.toNat))) (by rw [hbv]) ?_
      refine T_ziast xr_107_65 hA528 (pc' := 66) rfl (fun S2021 h2022 n2023 e2024 => ?_)
      refine T_p xr_107_66 xn_107 (pc' := 67) (ls' := [(3, .int (iI (N 0 n))), (0, .ref 527), (1, .ref B), (2, .int (iI n))]) (st' := [.int (iI 0)]) rfl ?_
      refine T_iret xr_107_67 xf_107.2.2 rfl ?_
      refine hQ _ _ ?_
      have h2025 := (n2023 529 (by decide)).trans (hA529)
      have h2026 := (n2023 527 (by decide)).trans (hO527)
      have hev2027 : (X_ev G (fun w => gD G w 6 0) (fun w => gD G w 7 0) N nc V n) = (0, V (X_lc N n 0 nc.toNat)) := X_ev_b (by omega)
      exact ⟨(X_ug vs n (V (X_lc N n 0 nc.toNat))), pl, hgt, (by rw [hev2027]), (fun _ => by rw [hev2027]; exact X_ug_s _ _ _), (fun m hm => X_ug_n _ _ hm), h2026, h2022, h2025, (X_Fr.rf).tr (X_Fr.of n2023 e2024 (by first | decide | exact ⟨Nat.le_add_right _ _, Nat.add_le_add_left (by decide) _⟩ | omega))⟩
  · skip
    have c1981 : ¬ (¬ (N 0 n) = (-2)) := c1981
    refine T_p xr_107_16 xn_107 (pc' := 17) (ls' := [(3, .int (iI (N 0 n))), (0, .ref 527), (1, .ref B), (2, .int (iI n))]) (st' := [.ref 527]) rfl ?_
    refine T_get xr_107_17 hO527 rfl (v := .ref 528) rfl (pc' := 20) rfl ?_
    refine T_p xr_107_20 xn_107 (pc' := 21) (ls' := [(3, .int (iI (N 0 n))), (0, .ref 527), (1, .ref B), (2, .int (iI n))]) (st' := [.int (iI n), .ref 528]) rfl ?_
    refine T_p xr_107_21 xn_107 (pc' := 22) (ls' := [(3, .int (iI (N 0 n))), (0, .ref 527), (1, .ref B), (2, .int (iI n))]) (st' := [.ref 527, .int (iI n), .ref 528]) rfl ?_
    refine T_get xr_107_22 hO527 rfl (v := .ref 501) rfl (pc' := 25) rfl ?_
    refine T_p xr_107_25 xn_107 (pc' := 26) (ls' := [(3, .int (iI (N 0 n))), (0, .ref 527), (1, .ref B), (2, .int (iI n))]) (st' := [.ref 527, .ref 501, .int (iI n), .ref 528]) rfl ?_
    refine T_get xr_107_26 hO527 rfl (v := .ref 504) rfl (pc' := 29) rfl ?_
    refine T_get xr_107_29 hO504 rfl (v := .ref 506) rfl (pc' := 32) rfl ?_
    refine T_p xr_107_32 xn_107 (pc' := 33) (ls' := [(3, .int (iI (N 0 n))), (0, .ref 527), (1, .ref B), (2, .int (iI n))]) (st' := [.int (iI n), .ref 506, .ref 501, .int (iI n), .ref 528]) rfl ?_
    refine T_ziald xr_107_33 hA506 (pc' := 34) rfl ?_
    refine T_ie (y := iI (N 1 n)) (by rw [hN1]) ?_
    refine T_cv (S := S) (q := 501) xr_107_34 xf_89.1 xf_89.2.1 xn_89 (as := [.int (iI (N 1 n))]) (r := [.int (iI n), .ref 528]) rfl hO501 (Nat.le_of_ble_eq_true rfl) (Nat.le_of_ble_eq_true rfl) (pc' := 37) rfl (ls' := [(0, .ref 501), (1, .int (iI (N 1 n)))]) rfl ?_
    refine T_mono (c_numberAt sc S tn G (N 1 n) hO501 hA502 (by omega)) (fun v2028 S2029 h2030 => ?_)
    rcases h2030 with ⟨hv2031, hf2032⟩
    rw [hv2031]
    rw [hf2032]
    have hnv2033 := X_nv_r (gt G (N 1 n))
    show X_T sc 107 (37, [(3, .int (iI (N 0 n))), (0, .ref 527), (1, .ref B), (2, .int (iI n))], [.int (iI (X_nv (gt G (N 1 n)))), .int (iI n), .ref 528], S) _
    refine T_ziast xr_107_37 hA528 (pc' := 38) rfl (fun S2034 h2035 n2036 e2037 => ?_)
    refine T_p xr_107_38 xn_107 (pc' := 39) (ls' := [(3, .int (iI (N 0 n))), (0, .ref 527), (1, .ref B), (2, .int (iI n))]) (st' := [.int (iI 0)]) rfl ?_
    refine T_iret xr_107_39 xf_107.2.2 rfl ?_
    refine hQ _ _ ?_
    have h2038 := (n2036 529 (by decide)).trans (hA529)
    have h2039 := (n2036 527 (by decide)).trans (hO527)
    have hev2040 : (X_ev G (fun w => gD G w 6 0) (fun w => gD G w 7 0) N nc V n) = (0, X_nv (gt G (N 1 n))) := X_ev_n (by omega)
    exact ⟨(X_ug vs n (X_nv (gt G (N 1 n)))), pl, hgt, (by rw [hev2040]), (fun _ => by rw [hev2040]; exact X_ug_s _ _ _), (fun m hm => X_ug_n _ _ hm), h2039, h2035, h2038, (X_Fr.rf).tr (X_Fr.of n2036 e2037 (by first | decide | exact ⟨Nat.le_add_right _ _, Nat.add_le_add_left (by decide) _⟩ | omega))⟩
theorem c_forget (sc : X_Sc) (S : X_S) (rs : Int) (re : Int) (hgt : Int) (hO527 : S.1 527 = .inr (9, [.ref 501, .ref 504, .int (iI rs), .int (iI re), .ref 528, .ref 529, .int (iI hgt)])) : X_T sc 105 (0, [(0, .ref 527)], [], S) (fun v S' => v = none ∧ S'.1 527 = .inr (9, [.ref 501, .ref 504, .int (iI 0), .int (iI (-1)), .ref 528, .ref 529, .int (iI hgt)]) ∧ X_Fr (fun q => q = 527) S S') := by
  refine X_QI (fun Q hQ => ?_)
  refine T_p xr_105_0 xn_105 (pc' := 1) (ls' := [(0, .ref 527)]) (st' := [.ref 527]) rfl ?_
  refine T_p xr_105_1 xn_105 (pc' := 2) (ls' := [(0, .ref 527)]) (st' := [.int (iI 0), .ref 527]) rfl ?_
  refine T_put xr_105_2 hO527 rfl (Nat.le_of_ble_eq_true rfl) rfl (fs' := [.ref 501, .ref 504, .int (iI 0), .int (iI re), .ref 528, .ref 529, .int (iI hgt)]) rfl (pc' := 5) rfl (fun S2041 h2042 n2043 e2044 => ?_)
  refine T_p xr_105_5 xn_105 (pc' := 6) (ls' := [(0, .ref 527)]) (st' := [.ref 527]) rfl ?_
  refine T_p xr_105_6 xn_105 (pc' := 7) (ls' := [(0, .ref 527)]) (st' := [.int (iI (-1)), .ref 527]) rfl ?_
  refine T_put xr_105_7 h2042 rfl (Nat.le_of_ble_eq_true rfl) rfl (fs' := [.ref 501, .ref 504, .int (iI 0), .int (iI (-1)), .ref 528, .ref 529, .int (iI hgt)]) rfl (pc' := 10) rfl (fun S2045 h2046 n2047 e2048 => ?_)
  refine T_vret xr_105_10 xf_105.2.2 ?_
  refine hQ _ _ ?_
  exact ⟨rfl, h2046, ((X_Fr.rf).tr (X_Fr.of n2043 e2044 (by first | decide | exact ⟨Nat.le_add_right _ _, Nat.add_le_add_left (by decide) _⟩ | omega))).tr (X_Fr.of n2047 e2048 (by first | decide | exact ⟨Nat.le_add_right _ _, Nat.add_le_add_left (by decide) _⟩ | omega))⟩
set_option maxHeartbeats 1600000 in
theorem c_run (sc : X_Sc) (S : X_S) (nW : Int → Int) (nF : Int → Int) (nL : Int → Int) (nP : Int → Int) (nH : Int → Int) (nC : Int → Int) (vs : Int → Int) (pl : Int → Int) (B : Nat) (rc : Int) (rn : Int → Int64) (kn : Int → Int64) (G : X_G) (tn : Int) (nc : Int) (N : Int → Int → Int) (rs : Int) (re : Int) (hgt : Int) (hO501 : S.1 501 = .inr (6, [.int (iI tn), .ref 502, .ref 503])) (hO504 : S.1 504 = .inr (5, [.int (iI nc), .ref 505, .ref 506, .ref 507, .ref 508, .ref 509, .ref 510])) (hO527 : S.1 527 = .inr (9, [.ref 501, .ref 504, .int (iI rs), .int (iI re), .ref 528, .ref 529, .int (iI hgt)])) (hA505 : S.1 505 = .inl (.int, 30, .inl fun k : Nat => iI (nW (k : Int)))) (hA506 : S.1 506 = .inl (.int, 30, .inl fun k : Nat => iI (nF (k : Int)))) (hA507 : S.1 507 = .inl (.int, 30, .inl fun k : Nat => iI (nL (k : Int)))) (hA508 : S.1 508 = .inl (.int, 30, .inl fun k : Nat => iI (nP (k : Int)))) (hA509 : S.1 509 = .inl (.int, 30, .inl fun k : Nat => iI (nH (k : Int)))) (hA510 : S.1 510 = .inl (.int, 120, .inl fun k : Nat => iI (nC (k : Int)))) (hA528 : S.1 528 = .inl (.int, 30, .inl fun k : Nat => iI (vs (k : Int)))) (hA529 : S.1 529 = .inl (.int, 16, .inl fun k : Nat => iI (pl (k : Int)))) (hB : B = 4 ∨ B = 250) (hb : C_bk S B rc (gk G) (gw G) rn (gl G) kn (ga G)) (hs : C_ws S B (gD G) (gW G)) (hG : X_Gok G) (hGs : X_Gst G) (hA502 : S.1 502 = .inl (.long, 30, .inr (.inl fun k : Nat => (gt G) (k : Int)))) (hR : X_Rok G tn nc N) (hnc : 1 ≤ nc) (hnd : F_nd nc N nW nF nL nP nH) (hch : F_ch nc N nC) : X_T sc 106 (0, [(0, .ref 527), (1, .ref B)], [], S) (fun v S' => ∃ (vs1 : Int → Int) (pl1 : Int → Int) (h2 : Int), v = some (.int (iI ((X_wk G (fun w => gD G w 6 0) (fun w => gD G w 7 0) N nc).1))) ∧ S'.1 527 = .inr (9, [.ref 501, .ref 504, .int (iI ((X_wk G (fun w => gD G w 6 0) (fun w => gD G w 7 0) N nc).2.2)), .int (iI ((X_wk G (fun w => gD G w 6 0) (fun w => gD G w 7 0) N nc).2.1)), .ref 528, .ref 529, .int (iI h2)]) ∧ S'.1 528 = .inl (.int, 30, .inl fun k : Nat => iI (vs1 (k : Int))) ∧ S'.1 529 = .inl (.int, 16, .inl fun k : Nat => iI (pl1 (k : Int))) ∧ (X_Fr (fun q => 527 ≤ q ∧ q ≤ 529) S S')) := by
  obtain ⟨hb0, hb1, hb2, hb3, hb4, ⟨f, hb5, hf⟩, ⟨hrc, hrcb⟩, ⟨hkc, hkcb⟩, ⟨hwc, hwcb⟩⟩ := id hb
  have hRn := hR.1
  have t0 := hR.2.1
  refine X_QI (fun Q hQ => ?_)
  refine T_p xr_106_0 xn_106 (pc' := 1) (ls' := [(0, .ref 527), (1, .ref B)]) (st' := [.ref 527]) rfl ?_
  refine T_cv (S := S) (q := 527) xr_106_1 xf_105.1 xf_105.2.1 xn_105 (as := []) (r := []) rfl hO527 (Nat.le_of_ble_eq_true rfl) (Nat.le_of_ble_eq_true rfl) (pc' := 4) rfl (ls' := [(0, .ref 527)]) rfl ?_
  refine T_mono (c_forget sc S rs re hgt hO527) (fun v2049 S2050 h2051 => ?_)
  rcases h2051 with ⟨hv2052, ho2053, hf2054⟩
  rw [hv2052]
  show X_T sc 106 (4, [(0, .ref 527), (1, .ref B)], [], S2050) _
  refine T_p xr_106_4 xn_106 (pc' := 5) (ls' := [(0, .ref 527), (1, .ref B)]) (st' := [.int (iI 1)]) rfl ?_
  refine T_p xr_106_5 xn_106 (pc' := 6) (ls' := [(2, .int (iI 1)), (0, .ref 527), (1, .ref B)]) (st' := []) rfl ?_
  have h2060 := (hf2054.1 528 (by first | decide | omega)).trans (hA528)
  have h2061 := (hf2054.1 529 (by first | decide | omega)).trans (hA529)
  have L2055 : ∀ (m2057 : Nat) (S2062 : X_S) (nx : Int) (V : Int → Int) (hg1 : Int) (vs1 : Int → Int) (pl1 : Int → Int) (hO7 : S2062.1 527 = .inr (9, [.ref 501, .ref 504, .int (iI 0), .int (iI (-1)), .ref 528, .ref 529, .int (iI hg1)])) (hvs1 : S2062.1 528 = .inl (.int, 30, .inl fun k : Nat => iI (vs1 (k : Int)))) (hpl1 : S2062.1 529 = .inl (.int, 16, .inl fun k : Nat => iI (pl1 (k : Int)))) (hF2059 : X_Fr (fun q => 527 ≤ q ∧ q ≤ 529) S2050 S2062) (hnx : 1 ≤ nx ∧ nx ≤ nc + 1) (hI : nx ≤ nc → X_Wr N nx (nx - 1) V vs1 ∧ X_wo G (fun w => gD G w 6 0) (fun w => gD G w 7 0) N nc (nc + 1 - nx).toNat nx V = (X_wk G (fun w => gD G w 6 0) (fun w => gD G w 7 0) N nc)) (hE : nx = nc + 1 → vs1 0 = V 0 ∧ (X_wk G (fun w => gD G w 6 0) (fun w => gD G w 7 0) N nc) = (0, -1, V 0)) (hm2058 : nc + 1 - nx < m2057), X_T sc 106 (6, [(2, .int (iI nx)), (0, .ref 527), (1, .ref B)], [], S2062) Q := by
    intro m2057
    induction m2057 with
    | zero =>
      intro S2062 nx V hg1 vs1 pl1 hO7 hvs1 hpl1 hF2059 hnx hI hE hm2058
      exact (show False by omega).elim
    | succ m2057 ih2056 =>
      intro S2062 nx V hg1 vs1 pl1 hO7 hvs1 hpl1 hF2059 hnx hI hE hm2058
      refine T_p xr_106_6 xn_106 (pc' := 7) (ls' := [(2, .int (iI nx)), (0, .ref 527), (1, .ref B)]) (st' := [.int (iI nx)]) rfl ?_
      refine T_p xr_106_7 xn_106 (pc' := 8) (ls' := [(2, .int (iI nx)), (0, .ref 527), (1, .ref B)]) (st' := [.ref 527, .int (iI nx)]) rfl ?_
      refine T_get xr_106_8 hO7 rfl (v := .ref 504) rfl (pc' := 11) rfl ?_
      have h2063 := (hF2059.1 504 (by first | decide | omega)).trans ((hf2054.1 504 (by first | decide | omega)).trans (hO504))
      refine T_get xr_106_11 h2063 rfl (v := .int (iI nc)) rfl (pc' := 14) rfl ?_
      refine T_zicmp_gt xr_106_14 (t := 110) (pc' := 17) rfl rfl (fun c2064 => ?_) (fun c2064 => ?_)
      · skip
        have c2064 : nc < nx := c2064
        refine T_p xr_106_110 xn_106 (pc' := 111) (ls' := [(2, .int (iI nx)), (0, .ref 527), (1, .ref B)]) (st' := [.ref 527]) rfl ?_
        refine T_p xr_106_111 xn_106 (pc' := 112) (ls' := [(2, .int (iI nx)), (0, .ref 527), (1, .ref B)]) (st' := [.ref 527, .ref 527]) rfl ?_
        refine T_get xr_106_112 hO7 rfl (v := .ref 528) rfl (pc' := 115) rfl ?_
        refine T_p xr_106_115 xn_106 (pc' := 116) (ls' := [(2, .int (iI nx)), (0, .ref 527), (1, .ref B)]) (st' := [.int (iI 0), .ref 528, .ref 527]) rfl ?_
        refine T_ziald xr_106_116 hvs1 (pc' := 117) rfl ?_
        refine T_put xr_106_117 hO7 rfl (Nat.le_of_ble_eq_true rfl) rfl (fs' := [.ref 501, .ref 504, .int (iI (vs1 0)), .int (iI (-1)), .ref 528, .ref 529, .int (iI hg1)]) rfl (pc' := 120) rfl (fun S2065 h2066 n2067 e2068 => ?_)
        refine T_p xr_106_120 xn_106 (pc' := 121) (ls' := [(2, .int (iI nx)), (0, .ref 527), (1, .ref B)]) (st' := [.int (iI 0)]) rfl ?_
        refine T_iret xr_106_121 xf_106.2.2 rfl ?_
        refine hQ _ _ ?_
        have h2069 := (n2067 528 (by decide)).trans (hvs1)
        have h2070 := (n2067 529 (by decide)).trans (hpl1)
        obtain ⟨hv0, hXe⟩ := hE (show nx = nc + 1 by omega)
        have hRR : (X_wk G (fun w => gD G w 6 0) (fun w => gD G w 7 0) N nc) = (0, -1, V 0) := hXe
        exact ⟨vs1, pl1, hg1, by rw [hRR], by rw [hRR]; exact (show _ = _ from by rw [← hv0]; exact h2066), h2069, h2070, (((X_Fr.rf).tr (X_Fr.mono ⟨hf2054.1, hf2054.2⟩ (fun q hq => (by omega)))).tr (X_Fr.mono ⟨hF2059.1, hF2059.2⟩ (fun q hq => (by omega)))).tr (X_Fr.of n2067 e2068 (by first | decide | exact ⟨Nat.le_add_right _ _, Nat.add_le_add_left (by decide) _⟩ | omega))⟩
      · skip
        have c2064 : ¬ (nc < nx) := c2064
        obtain ⟨hW, hXn⟩ := hI (show nx ≤ nc by omega)
        have hwA := X_wn_A hR (show 1 ≤ nx ∧ nx ≤ nc by omega)
        have hnp : nx < nc → nP nx = N 3 nx := fun z => (hnd nx (by omega) z).2.2.2.1
        refine T_p xr_106_17 xn_106 (pc' := 18) (ls' := [(2, .int (iI nx)), (0, .ref 527), (1, .ref B)]) (st' := [.int (iI nx)]) rfl ?_
        refine T_p xr_106_18 xn_106 (pc' := 19) (ls' := [(2, .int (iI nx)), (0, .ref 527), (1, .ref B)]) (st' := [.ref 527, .int (iI nx)]) rfl ?_
        refine T_get xr_106_19 hO7 rfl (v := .ref 504) rfl (pc' := 22) rfl ?_
        refine T_get xr_106_22 h2063 rfl (v := .int (iI nc)) rfl (pc' := 25) rfl ?_
        refine T_zicmp_ge xr_106_25 (t := 40) (pc' := 28) rfl rfl (fun c2071 => ?_) (fun c2071 => ?_)
        · skip
          have c2071 : nc ≤ nx := c2071
          refine T_p xr_106_40 xn_106 (pc' := 41) (ls' := [(2, .int (iI nx)), (0, .ref 527), (1, .ref B)]) (st' := [.int (iI (-1))]) rfl ?_
          refine T_ie (y := iI (X_wn N nc nx)) (by unfold X_wn; first | rw [if_pos (by omega), hnp (by omega)] | rw [if_neg (by omega)]) ?_
          refine T_p xr_106_41 xn_106 (pc' := 42) (ls' := [(3, .int (iI (X_wn N nc nx))), (2, .int (iI nx)), (0, .ref 527), (1, .ref B)]) (st' := []) rfl ?_
          refine T_p xr_106_42 xn_106 (pc' := 43) (ls' := [(3, .int (iI (X_wn N nc nx))), (2, .int (iI nx)), (0, .ref 527), (1, .ref B)]) (st' := [.int (iI nx)]) rfl ?_
          refine T_p xr_106_43 xn_106 (pc' := 44) (ls' := [(3, .int (iI (X_wn N nc nx))), (2, .int (iI nx)), (0, .ref 527), (1, .ref B)]) (st' := [.int (iI 1), .int (iI nx)]) rfl ?_
          refine T_zisub xr_106_44 (z := nx - 1) rfl (pc' := 45) rfl ?_
          refine T_p xr_106_45 xn_106 (pc' := 47) (ls' := [(4, .int (iI (nx - 1))), (3, .int (iI (X_wn N nc nx))), (2, .int (iI nx)), (0, .ref 527), (1, .ref B)]) (st' := []) rfl ?_
          refine T_p xr_106_47 xn_106 (pc' := 48) (ls' := [(4, .int (iI (nx - 1))), (3, .int (iI (X_wn N nc nx))), (2, .int (iI nx)), (0, .ref 527), (1, .ref B)]) (st' := [.int (iI 0)]) rfl ?_
          refine T_p xr_106_48 xn_106 (pc' := 50) (ls' := [(5, .int (iI 0)), (4, .int (iI (nx - 1))), (3, .int (iI (X_wn N nc nx))), (2, .int (iI nx)), (0, .ref 527), (1, .ref B)]) (st' := []) rfl ?_
          have L2072 : ∀ (m2074 : Nat) (S2077 : X_S) (lv : Int) (n : Int) (V1 : Int → Int) (hg2 : Int) (vs2 : Int → Int) (pl2 : Int → Int) (hO72 : S2077.1 527 = .inr (9, [.ref 501, .ref 504, .int (iI 0), .int (iI (-1)), .ref 528, .ref 529, .int (iI hg2)])) (hvs2 : S2077.1 528 = .inl (.int, 30, .inl fun k : Nat => iI (vs2 (k : Int)))) (hpl2 : S2077.1 529 = .inl (.int, 16, .inl fun k : Nat => iI (pl2 (k : Int)))) (hF2076 : X_Fr (fun q => 527 ≤ q ∧ q ≤ 529) S2062 S2077) (hlv : 0 ≤ lv ∧ lv ≤ 30) (hln : -1 ≤ n ∧ n + lv ≤ nx - 1) (hA : X_An N (nx - 1) n) (hAo : X_An N n (X_wn N nc nx)) (hX2 : X_wi G (fun w => gD G w 6 0) (fun w => gD G w 7 0) N nc (X_wn N nc nx) (31 - lv).toNat n V1 = X_wi G (fun w => gD G w 6 0) (fun w => gD G w 7 0) N nc (X_wn N nc nx) 31 (nx - 1) V) (hW2 : X_Wr N nx n V1 vs2) (hm2075 : 30 - lv < m2074), X_T sc 106 (50, [(5, .int (iI lv)), (4, .int (iI n)), (3, .int (iI (X_wn N nc nx))), (2, .int (iI nx)), (0, .ref 527), (1, .ref B)], [], S2077) Q := by
            intro m2074
            induction m2074 with
            | zero =>
              intro S2077 lv n V1 hg2 vs2 pl2 hO72 hvs2 hpl2 hF2076 hlv hln hA hAo hX2 hW2 hm2075
              exact (show False by omega).elim
            | succ m2074 ih2073 =>
              intro S2077 lv n V1 hg2 vs2 pl2 hO72 hvs2 hpl2 hF2076 hlv hln hA hAo hX2 hW2 hm2075
              refine T_p xr_106_50 xn_106 (pc' := 52) (ls' := [(5, .int (iI lv)), (4, .int (iI n)), (3, .int (iI (X_wn N nc nx))), (2, .int (iI nx)), (0, .ref 527), (1, .ref B)]) (st' := [.int (iI lv)]) rfl ?_
              refine T_p xr_106_52 xn_106 (pc' := 54) (ls' := [(5, .int (iI lv)), (4, .int (iI n)), (3, .int (iI (X_wn N nc nx))), (2, .int (iI nx)), (0, .ref 527), (1, .ref B)]) (st' := [.int (iI 30), .int (iI lv)]) rfl ?_
              refine T_zicmp_ge xr_106_54 (t := 104) (pc' := 57) rfl rfl (fun c2078 => ?_) (fun c2078 => ?_)
              · skip
                have c2078 : 30 ≤ lv := c2078
                refine T_ziinc xr_106_104 xn_106 (a := nx) (z := nx + 1) rfl (Nat.le_of_ble_eq_true rfl) (by omega) (ls' := [(2, .int (iI (nx + 1))), (5, .int (iI lv)), (4, .int (iI n)), (3, .int (iI (X_wn N nc nx))), (0, .ref 527), (1, .ref B)]) rfl (pc' := 107) rfl ?_
                refine T_p xr_106_107 xn_106 (pc' := 6) (ls' := [(2, .int (iI (nx + 1))), (5, .int (iI lv)), (4, .int (iI n)), (3, .int (iI (X_wn N nc nx))), (0, .ref 527), (1, .ref B)]) (st' := []) rfl ?_
                have hno : n = X_wn N nc nx := by
                  have h1 := hAo.le t0 (by omega) (by omega)
                  omega
                have hRI : X_wi G (fun w => gD G w 6 0) (fun w => gD G w 7 0) N nc (X_wn N nc nx) 31 (nx - 1) V = ((0, n), V1) := hX2.symm.trans (X_wi_e (by omega))
                have hXs := X_wo_s (show nx ≤ nc by omega) hRI
                rw [hXn] at hXs
                refine T_sub (ls := [(2, .int (iI (nx + 1))), (0, .ref 527), (1, .ref B)]) ⟨rfl, rfl, rfl, trivial⟩ rfl rfl ?_
                exact ih2056 S2077 (nx + 1) V1 hg2 vs2 pl2 hO72 hvs2 hpl2 (hF2059.tr ((X_Fr.rf).tr (X_Fr.mono ⟨hF2076.1, hF2076.2⟩ (fun q hq => (by omega))))) (by omega) (fun z => ⟨by
                      rw [show nx + 1 - 1 = nx by omega]
                      refine X_Wr.nx hW2 (by omega) ?_
                      rw [hno]; unfold X_wn; rw [if_pos (by omega)], hXs.symm⟩) (fun z => ⟨by
                      refine hW2 0 (Int.le_refl 0) (by omega) (fun y => ?_)
                      have hn1 : n = -1 := by rw [hno]; unfold X_wn; rw [if_neg (by omega)]
                      rw [hn1] at y
                      have := X_An_neg y
                      omega, by rw [hXs, z, show nc + 1 - (nc + 1) = 0 by omega]; rfl⟩) (by omega)
              · skip
                have c2078 : ¬ (30 ≤ lv) := c2078
                refine T_p xr_106_57 xn_106 (pc' := 59) (ls' := [(5, .int (iI lv)), (4, .int (iI n)), (3, .int (iI (X_wn N nc nx))), (2, .int (iI nx)), (0, .ref 527), (1, .ref B)]) (st' := [.int (iI n)]) rfl ?_
                refine T_p xr_106_59 xn_106 (pc' := 60) (ls' := [(5, .int (iI lv)), (4, .int (iI n)), (3, .int (iI (X_wn N nc nx))), (2, .int (iI nx)), (0, .ref 527), (1, .ref B)]) (st' := [.int (iI (X_wn N nc nx)), .int (iI n)]) rfl ?_
                refine T_zicmp_le xr_106_60 (t := 104) (pc' := 63) rfl rfl (fun c2079 => ?_) (fun c2079 => ?_)
                · skip
                  have c2079 : n ≤ (X_wn N nc nx) := c2079
                  refine T_ziinc xr_106_104 xn_106 (a := nx) (z := nx + 1) rfl (Nat.le_of_ble_eq_true rfl) (by omega) (ls' := [(2, .int (iI (nx + 1))), (5, .int (iI lv)), (4, .int (iI n)), (3, .int (iI (X_wn N nc nx))), (0, .ref 527), (1, .ref B)]) rfl (pc' := 107) rfl ?_
                  refine T_p xr_106_107 xn_106 (pc' := 6) (ls' := [(2, .int (iI (nx + 1))), (5, .int (iI lv)), (4, .int (iI n)), (3, .int (iI (X_wn N nc nx))), (0, .ref 527), (1, .ref B)]) (st' := []) rfl ?_
                  have hno : n = X_wn N nc nx := by
                    have h1 := hAo.le t0 (by omega) (by omega)
                    omega
                  have hRI : X_wi G (fun w => gD G w 6 0) (fun w => gD G w 7 0) N nc (X_wn N nc nx) 31 (nx - 1) V = ((0, n), V1) := hX2.symm.trans (X_wi_e (by omega))
                  have hXs := X_wo_s (show nx ≤ nc by omega) hRI
                  rw [hXn] at hXs
                  refine T_sub (ls := [(2, .int (iI (nx + 1))), (0, .ref 527), (1, .ref B)]) ⟨rfl, rfl, rfl, trivial⟩ rfl rfl ?_
                  exact ih2056 S2077 (nx + 1) V1 hg2 vs2 pl2 hO72 hvs2 hpl2 (hF2059.tr ((X_Fr.rf).tr (X_Fr.mono ⟨hF2076.1, hF2076.2⟩ (fun q hq => (by omega))))) (by omega) (fun z => ⟨by
                        rw [show nx + 1 - 1 = nx by omega]
                        refine X_Wr.nx hW2 (by omega) ?_
                        rw [hno]; unfold X_wn; rw [if_pos (by omega)], hXs.symm⟩) (fun z => ⟨by
                        refine hW2 0 (Int.le_refl 0) (by omega) (fun y => ?_)
                        have hn1 : n = -1 := by rw [hno]; unfold X_wn; rw [if_neg (by omega)]
                        rw [hn1] at y
                        have := X_An_neg y
                        omega, by rw [hXs, z, show nc + 1 - (nc + 1) = 0 by omega]; rfl⟩) (by omega)
                · skip
                  have c2079 : ¬ (n ≤ (X_wn N nc nx)) := c2079
                  refine T_p xr_106_63 xn_106 (pc' := 64) (ls' := [(5, .int (iI lv)), (4, .int (iI n)), (3, .int (iI (X_wn N nc nx))), (2, .int (iI nx)), (0, .ref 527), (1, .ref B)]) (st' := [.ref 527]) rfl ?_
                  refine T_p xr_106_64 xn_106 (pc' := 65) (ls' := [(5, .int (iI lv)), (4, .int (iI n)), (3, .int (iI (X_wn N nc nx))), (2, .int (iI nx)), (0, .ref 527), (1, .ref B)]) (st' := [.ref B, .ref 527]) rfl ?_
                  refine T_p xr_106_65 xn_106 (pc' := 67) (ls' := [(5, .int (iI lv)), (4, .int (iI n)), (3, .int (iI (X_wn N nc nx))), (2, .int (iI nx)), (0, .ref 527), (1, .ref B)]) (st' := [.int (iI n), .ref B, .ref 527]) rfl ?_
                  refine T_cv (S := S2077) (q := 527) xr_106_67 xf_107.1 xf_107.2.1 xn_107 (as := [.ref B, .int (iI n)]) (r := []) rfl hO72 (Nat.le_of_ble_eq_true rfl) (Nat.le_of_ble_eq_true rfl) (pc' := 70) rfl (ls' := [(0, .ref 527), (1, .ref B), (2, .int (iI n))]) rfl ?_
                  have h2080 := (hF2076.1 505 (by first | decide | omega)).trans ((hF2059.1 505 (by first | decide | omega)).trans ((hf2054.1 505 (by first | decide | omega)).trans (hA505)))
                  have h2081 := (hF2076.1 506 (by first | decide | omega)).trans ((hF2059.1 506 (by first | decide | omega)).trans ((hf2054.1 506 (by first | decide | omega)).trans (hA506)))
                  have h2082 := (hF2076.1 507 (by first | decide | omega)).trans ((hF2059.1 507 (by first | decide | omega)).trans ((hf2054.1 507 (by first | decide | omega)).trans (hA507)))
                  have h2083 := (hF2076.1 508 (by first | decide | omega)).trans ((hF2059.1 508 (by first | decide | omega)).trans ((hf2054.1 508 (by first | decide | omega)).trans (hA508)))
                  have h2084 := (hF2076.1 509 (by first | decide | omega)).trans ((hF2059.1 509 (by first | decide | omega)).trans ((hf2054.1 509 (by first | decide | omega)).trans (hA509)))
                  have h2085 := (hF2076.1 510 (by first | decide | omega)).trans ((hF2059.1 510 (by first | decide | omega)).trans ((hf2054.1 510 (by first | decide | omega)).trans (hA510)))
                  have h2086 := (hF2076.1 501 (by first | decide | omega)).trans ((hF2059.1 501 (by first | decide | omega)).trans ((hf2054.1 501 (by first | decide | omega)).trans (hO501)))
                  have h2087 := (hF2076.1 504 (by first | decide | omega)).trans (h2063)
                  have h2088 := (hF2076.1 B (by omega)).trans ((hF2059.1 B (by omega)).trans ((hf2054.1 B (by omega)).trans (hb0)))
                  have h2089 := (hF2076.1 (B + 1) (by omega)).trans ((hF2059.1 (B + 1) (by omega)).trans ((hf2054.1 (B + 1) (by omega)).trans (hb1)))
                  have h2090 := (hF2076.1 (B + 2) (by omega)).trans ((hF2059.1 (B + 2) (by omega)).trans ((hf2054.1 (B + 2) (by omega)).trans (hb2)))
                  have h2091 := (hF2076.1 (B + 3) (by omega)).trans ((hF2059.1 (B + 3) (by omega)).trans ((hf2054.1 (B + 3) (by omega)).trans (hb3)))
                  have h2092 := (hF2076.1 (B + 4) (by omega)).trans ((hF2059.1 (B + 4) (by omega)).trans ((hf2054.1 (B + 4) (by omega)).trans (hb4)))
                  have h2093 := (hF2076.1 (B + 5) (by omega)).trans ((hF2059.1 (B + 5) (by omega)).trans ((hf2054.1 (B + 5) (by omega)).trans (hb5)))
                  have hs2094 : C_ws S2077 B (gD G) (gW G) := C_ws.fr (P := fun q => 501 ≤ q ∧ q ≤ 529) hs ((((X_Fr.rf).tr (X_Fr.mono ⟨hf2054.1, hf2054.2⟩ (fun q hq => (by omega)))).tr (X_Fr.mono ⟨hF2059.1, hF2059.2⟩ (fun q hq => (by omega)))).tr (X_Fr.mono ⟨hF2076.1, hF2076.2⟩ (fun q hq => (by omega)))) (fun k h1 h2 => by omega)
                  have h2095 := (hF2076.1 502 (by first | decide | omega)).trans ((hF2059.1 502 (by first | decide | omega)).trans ((hf2054.1 502 (by first | decide | omega)).trans (hA502)))
                  refine T_mono (c_workNode sc S2077 nW nF nL nP nH nC vs2 pl2 B rc rn kn G tn nc N n V1 0 (-1) hg2 h2086 h2087 hO72 h2080 h2081 h2082 h2083 h2084 h2085 hvs2 hpl2 hB ⟨h2088, h2089, h2090, h2091, h2092, ⟨f, h2093, hf⟩, ⟨by omega, by omega⟩, ⟨by omega, by omega⟩, ⟨by omega, by omega⟩⟩ hs2094 hG hGs h2095 hR (by omega) hnd hch (fun h g1 g2 g3 => by have hc := X_ch_ev hR (show 1 ≤ nx ∧ nx ≤ nc by omega) hA (by omega) (by omega) g3; have hc2 := X_lc_r (N := N) (p := n) (h := h) nc.toNat; exact hW2 _ (by omega) hc.2.1 hc.2.2)) (fun v2096 S2097 h2098 => ?_)
                  rcases h2098 with ⟨vs2099, pl2100, h2101, hv2102, hp2103, hp2104, ho2105, ha2106, ha2107, hf2108⟩
                  rw [hv2102]
                  have hcr2109 := X_ev_r (G := G) (bo := (fun w => gD G w 6 0)) (va := (fun w => gD G w 7 0)) (V := V1) (N := N) (nc := nc) (n := n)
                  show X_T sc 106 (70, [(5, .int (iI lv)), (4, .int (iI n)), (3, .int (iI (X_wn N nc nx))), (2, .int (iI nx)), (0, .ref 527), (1, .ref B)], [.int (iI ((X_ev G (fun w => gD G w 6 0) (fun w => gD G w 7 0) N nc V1 n).1))], S2097) _
                  refine T_p xr_106_70 xn_106 (pc' := 72) (ls' := [(6, .int (iI ((X_ev G (fun w => gD G w 6 0) (fun w => gD G w 7 0) N nc V1 n).1))), (5, .int (iI lv)), (4, .int (iI n)), (3, .int (iI (X_wn N nc nx))), (2, .int (iI nx)), (0, .ref 527), (1, .ref B)]) (st' := []) rfl ?_
                  refine T_p xr_106_72 xn_106 (pc' := 74) (ls' := [(6, .int (iI ((X_ev G (fun w => gD G w 6 0) (fun w => gD G w 7 0) N nc V1 n).1))), (5, .int (iI lv)), (4, .int (iI n)), (3, .int (iI (X_wn N nc nx))), (2, .int (iI nx)), (0, .ref 527), (1, .ref B)]) (st' := [.int (iI ((X_ev G (fun w => gD G w 6 0) (fun w => gD G w 7 0) N nc V1 n).1))]) rfl ?_
                  refine T_zif_eq xr_106_74 (t := 86) (pc' := 77) rfl rfl (fun c2110 => ?_) (fun c2110 => ?_)
                  · skip
                    have c2110 : ((X_ev G (fun w => gD G w 6 0) (fun w => gD G w 7 0) N nc V1 n).1) = 0 := c2110
                    refine T_p xr_106_86 xn_106 (pc' := 87) (ls' := [(6, .int (iI ((X_ev G (fun w => gD G w 6 0) (fun w => gD G w 7 0) N nc V1 n).1))), (5, .int (iI lv)), (4, .int (iI n)), (3, .int (iI (X_wn N nc nx))), (2, .int (iI nx)), (0, .ref 527), (1, .ref B)]) (st' := [.ref 527]) rfl ?_
                    refine T_get xr_106_87 ho2105 rfl (v := .ref 504) rfl (pc' := 90) rfl ?_
                    have h2111 := (hf2108.1 504 (by first | decide | omega)).trans (h2087)
                    refine T_get xr_106_90 h2111 rfl (v := .ref 508) rfl (pc' := 93) rfl ?_
                    refine T_p xr_106_93 xn_106 (pc' := 95) (ls' := [(6, .int (iI ((X_ev G (fun w => gD G w 6 0) (fun w => gD G w 7 0) N nc V1 n).1))), (5, .int (iI lv)), (4, .int (iI n)), (3, .int (iI (X_wn N nc nx))), (2, .int (iI nx)), (0, .ref 527), (1, .ref B)]) (st' := [.int (iI n), .ref 508]) rfl ?_
                    have h2112 := (hf2108.1 508 (by first | decide | omega)).trans (h2083)
                    refine T_ziald xr_106_95 h2112 (pc' := 96) rfl ?_
                    refine T_ie (y := iI (N 3 n)) (by rw [(hnd n (by omega) (by omega)).2.2.2.1]) ?_
                    refine T_p xr_106_96 xn_106 (pc' := 98) (ls' := [(4, .int (iI (N 3 n))), (6, .int (iI ((X_ev G (fun w => gD G w 6 0) (fun w => gD G w 7 0) N nc V1 n).1))), (5, .int (iI lv)), (3, .int (iI (X_wn N nc nx))), (2, .int (iI nx)), (0, .ref 527), (1, .ref B)]) (st' := []) rfl ?_
                    refine T_ziinc xr_106_98 xn_106 (a := lv) (z := lv + 1) rfl (Nat.le_of_ble_eq_true rfl) (by omega) (ls' := [(5, .int (iI (lv + 1))), (4, .int (iI (N 3 n))), (6, .int (iI ((X_ev G (fun w => gD G w 6 0) (fun w => gD G w 7 0) N nc V1 n).1))), (3, .int (iI (X_wn N nc nx))), (2, .int (iI nx)), (0, .ref 527), (1, .ref B)]) rfl (pc' := 101) rfl ?_
                    refine T_p xr_106_101 xn_106 (pc' := 50) (ls' := [(5, .int (iI (lv + 1))), (4, .int (iI (N 3 n))), (6, .int (iI ((X_ev G (fun w => gD G w 6 0) (fun w => gD G w 7 0) N nc V1 n).1))), (3, .int (iI (X_wn N nc nx))), (2, .int (iI nx)), (0, .ref 527), (1, .ref B)]) (st' := []) rfl ?_
                    refine T_sub (ls := [(5, .int (iI (lv + 1))), (4, .int (iI (N 3 n))), (3, .int (iI (X_wn N nc nx))), (2, .int (iI nx)), (0, .ref 527), (1, .ref B)]) ⟨rfl, rfl, rfl, rfl, rfl, rfl, trivial⟩ rfl rfl ?_
                    exact ih2073 S2097 (lv + 1) (N 3 n) (X_ug V1 n (X_ev G (fun w => gD G w 6 0) (fun w => gD G w 7 0) N nc V1 n).2) h2101 vs2099 pl2100 ho2105 ha2106 ha2107 (hF2076.tr ((X_Fr.rf).tr (X_Fr.mono ⟨hf2108.1, hf2108.2⟩ (fun q hq => (by omega))))) (by omega) (by have := t0 n (by omega) (by omega); omega) (X_An.tr hA (X_An.up (by omega) X_An.rf) t0 (by omega)) (hAo.dn (by omega)).2 (by
                          rw [← hX2, show (31 - lv).toNat = (31 - (lv + 1)).toNat + 1 by omega, X_wi_s (by omega) (by assumption)]) (X_Wr.st hW2 (by omega) (hp2103 (by assumption)) hp2104) (by omega)
                  · skip
                    have c2110 : ¬ (((X_ev G (fun w => gD G w 6 0) (fun w => gD G w 7 0) N nc V1 n).1) = 0) := c2110
                    refine T_p xr_106_77 xn_106 (pc' := 78) (ls' := [(6, .int (iI ((X_ev G (fun w => gD G w 6 0) (fun w => gD G w 7 0) N nc V1 n).1))), (5, .int (iI lv)), (4, .int (iI n)), (3, .int (iI (X_wn N nc nx))), (2, .int (iI nx)), (0, .ref 527), (1, .ref B)]) (st' := [.ref 527]) rfl ?_
                    refine T_p xr_106_78 xn_106 (pc' := 80) (ls' := [(6, .int (iI ((X_ev G (fun w => gD G w 6 0) (fun w => gD G w 7 0) N nc V1 n).1))), (5, .int (iI lv)), (4, .int (iI n)), (3, .int (iI (X_wn N nc nx))), (2, .int (iI nx)), (0, .ref 527), (1, .ref B)]) (st' := [.int (iI n), .ref 527]) rfl ?_
                    refine T_put xr_106_80 ho2105 rfl (Nat.le_of_ble_eq_true rfl) rfl (fs' := [.ref 501, .ref 504, .int (iI 0), .int (iI n), .ref 528, .ref 529, .int (iI h2101)]) rfl (pc' := 83) rfl (fun S2113 h2114 n2115 e2116 => ?_)
                    refine T_p xr_106_83 xn_106 (pc' := 85) (ls' := [(6, .int (iI ((X_ev G (fun w => gD G w 6 0) (fun w => gD G w 7 0) N nc V1 n).1))), (5, .int (iI lv)), (4, .int (iI n)), (3, .int (iI (X_wn N nc nx))), (2, .int (iI nx)), (0, .ref 527), (1, .ref B)]) (st' := [.int (iI ((X_ev G (fun w => gD G w 6 0) (fun w => gD G w 7 0) N nc V1 n).1))]) rfl ?_
                    refine T_iret xr_106_85 xf_106.2.2 rfl ?_
                    refine hQ _ _ ?_
                    have h2117 := (n2115 528 (by decide)).trans (ha2106)
                    have h2118 := (n2115 529 (by decide)).trans (ha2107)
                    have hRI : X_wi G (fun w => gD G w 6 0) (fun w => gD G w 7 0) N nc (X_wn N nc nx) 31 (nx - 1) V = (((X_ev G (fun w => gD G w 6 0) (fun w => gD G w 7 0) N nc V1 n).1, n), V1) := hX2.symm.trans (by rw [show (31 - lv).toNat = (31 - (lv + 1)).toNat + 1 by omega, X_wi_x (by omega) (by assumption)])
                    have hRR : (X_wk G (fun w => gD G w 6 0) (fun w => gD G w 7 0) N nc) = ((X_ev G (fun w => gD G w 6 0) (fun w => gD G w 7 0) N nc V1 n).1, n, 0) := hXn.symm.trans (X_wo_x (show nx ≤ nc by omega) (by assumption) hRI)
                    exact ⟨vs2099, pl2100, h2101, by rw [hRR], by rw [hRR]; exact h2114, h2117, h2118, (((((X_Fr.rf).tr (X_Fr.mono ⟨hf2054.1, hf2054.2⟩ (fun q hq => (by omega)))).tr (X_Fr.mono ⟨hF2059.1, hF2059.2⟩ (fun q hq => (by omega)))).tr (X_Fr.mono ⟨hF2076.1, hF2076.2⟩ (fun q hq => (by omega)))).tr (X_Fr.mono ⟨hf2108.1, hf2108.2⟩ (fun q hq => (by omega)))).tr (X_Fr.of n2115 e2116 (by first | decide | exact ⟨Nat.le_add_right _ _, Nat.add_le_add_left (by decide) _⟩ | omega))⟩
          exact L2072 ((30 : Int) + 1).toNat S2062 0 (nx - 1) V hg1 vs1 pl1 hO7 hvs1 hpl1 ((X_Fr.rf)) (by omega) (by omega) X_An.rf hwA.1 rfl hW (by omega)
        · skip
          have c2071 : ¬ (nc ≤ nx) := c2071
          refine T_p xr_106_28 xn_106 (pc' := 29) (ls' := [(2, .int (iI nx)), (0, .ref 527), (1, .ref B)]) (st' := [.ref 527]) rfl ?_
          refine T_get xr_106_29 hO7 rfl (v := .ref 504) rfl (pc' := 32) rfl ?_
          refine T_get xr_106_32 h2063 rfl (v := .ref 508) rfl (pc' := 35) rfl ?_
          refine T_p xr_106_35 xn_106 (pc' := 36) (ls' := [(2, .int (iI nx)), (0, .ref 527), (1, .ref B)]) (st' := [.int (iI nx), .ref 508]) rfl ?_
          have h2119 := (hF2059.1 508 (by first | decide | omega)).trans ((hf2054.1 508 (by first | decide | omega)).trans (hA508))
          refine T_ziald xr_106_36 h2119 (pc' := 37) rfl ?_
          refine T_p xr_106_37 xn_106 (pc' := 41) (ls' := [(2, .int (iI nx)), (0, .ref 527), (1, .ref B)]) (st' := [.int (iI (nP nx))]) rfl ?_
          refine T_ie (y := iI (X_wn N nc nx)) (by unfold X_wn; first | rw [if_pos (by omega), hnp (by omega)] | rw [if_neg (by omega)]) ?_
          refine T_p xr_106_41 xn_106 (pc' := 42) (ls' := [(3, .int (iI (X_wn N nc nx))), (2, .int (iI nx)), (0, .ref 527), (1, .ref B)]) (st' := []) rfl ?_
          refine T_p xr_106_42 xn_106 (pc' := 43) (ls' := [(3, .int (iI (X_wn N nc nx))), (2, .int (iI nx)), (0, .ref 527), (1, .ref B)]) (st' := [.int (iI nx)]) rfl ?_
          refine T_p xr_106_43 xn_106 (pc' := 44) (ls' := [(3, .int (iI (X_wn N nc nx))), (2, .int (iI nx)), (0, .ref 527), (1, .ref B)]) (st' := [.int (iI 1), .int (iI nx)]) rfl ?_
          refine T_zisub xr_106_44 (z := nx - 1) rfl (pc' := 45) rfl ?_
          refine T_p xr_106_45 xn_106 (pc' := 47) (ls' := [(4, .int (iI (nx - 1))), (3, .int (iI (X_wn N nc nx))), (2, .int (iI nx)), (0, .ref 527), (1, .ref B)]) (st' := []) rfl ?_
          refine T_p xr_106_47 xn_106 (pc' := 48) (ls' := [(4, .int (iI (nx - 1))), (3, .int (iI (X_wn N nc nx))), (2, .int (iI nx)), (0, .ref 527), (1, .ref B)]) (st' := [.int (iI 0)]) rfl ?_
          refine T_p xr_106_48 xn_106 (pc' := 50) (ls' := [(5, .int (iI 0)), (4, .int (iI (nx - 1))), (3, .int (iI (X_wn N nc nx))), (2, .int (iI nx)), (0, .ref 527), (1, .ref B)]) (st' := []) rfl ?_
          have L2120 : ∀ (m2122 : Nat) (S2125 : X_S) (lv : Int) (n : Int) (V1 : Int → Int) (hg2 : Int) (vs2 : Int → Int) (pl2 : Int → Int) (hO72 : S2125.1 527 = .inr (9, [.ref 501, .ref 504, .int (iI 0), .int (iI (-1)), .ref 528, .ref 529, .int (iI hg2)])) (hvs2 : S2125.1 528 = .inl (.int, 30, .inl fun k : Nat => iI (vs2 (k : Int)))) (hpl2 : S2125.1 529 = .inl (.int, 16, .inl fun k : Nat => iI (pl2 (k : Int)))) (hF2124 : X_Fr (fun q => 527 ≤ q ∧ q ≤ 529) S2062 S2125) (hlv : 0 ≤ lv ∧ lv ≤ 30) (hln : -1 ≤ n ∧ n + lv ≤ nx - 1) (hA : X_An N (nx - 1) n) (hAo : X_An N n (X_wn N nc nx)) (hX2 : X_wi G (fun w => gD G w 6 0) (fun w => gD G w 7 0) N nc (X_wn N nc nx) (31 - lv).toNat n V1 = X_wi G (fun w => gD G w 6 0) (fun w => gD G w 7 0) N nc (X_wn N nc nx) 31 (nx - 1) V) (hW2 : X_Wr N nx n V1 vs2) (hm2123 : 30 - lv < m2122), X_T sc 106 (50, [(5, .int (iI lv)), (4, .int (iI n)), (3, .int (iI (X_wn N nc nx))), (2, .int (iI nx)), (0, .ref 527), (1, .ref B)], [], S2125) Q := by
            intro m2122
            induction m2122 with
            | zero =>
              intro S2125 lv n V1 hg2 vs2 pl2 hO72 hvs2 hpl2 hF2124 hlv hln hA hAo hX2 hW2 hm2123
              exact (show False by omega).elim
            | succ m2122 ih2121 =>
              intro S2125 lv n V1 hg2 vs2 pl2 hO72 hvs2 hpl2 hF2124 hlv hln hA hAo hX2 hW2 hm2123
              refine T_p xr_106_50 xn_106 (pc' := 52) (ls' := [(5, .int (iI lv)), (4, .int (iI n)), (3, .int (iI (X_wn N nc nx))), (2, .int (iI nx)), (0, .ref 527), (1, .ref B)]) (st' := [.int (iI lv)]) rfl ?_
              refine T_p xr_106_52 xn_106 (pc' := 54) (ls' := [(5, .int (iI lv)), (4, .int (iI n)), (3, .int (iI (X_wn N nc nx))), (2, .int (iI nx)), (0, .ref 527), (1, .ref B)]) (st' := [.int (iI 30), .int (iI lv)]) rfl ?_
              refine T_zicmp_ge xr_106_54 (t := 104) (pc' := 57) rfl rfl (fun c2126 => ?_) (fun c2126 => ?_)
              · skip
                have c2126 : 30 ≤ lv := c2126
                refine T_ziinc xr_106_104 xn_106 (a := nx) (z := nx + 1) rfl (Nat.le_of_ble_eq_true rfl) (by omega) (ls' := [(2, .int (iI (nx + 1))), (5, .int (iI lv)), (4, .int (iI n)), (3, .int (iI (X_wn N nc nx))), (0, .ref 527), (1, .ref B)]) rfl (pc' := 107) rfl ?_
                refine T_p xr_106_107 xn_106 (pc' := 6) (ls' := [(2, .int (iI (nx + 1))), (5, .int (iI lv)), (4, .int (iI n)), (3, .int (iI (X_wn N nc nx))), (0, .ref 527), (1, .ref B)]) (st' := []) rfl ?_
                have hno : n = X_wn N nc nx := by
                  have h1 := hAo.le t0 (by omega) (by omega)
                  omega
                have hRI : X_wi G (fun w => gD G w 6 0) (fun w => gD G w 7 0) N nc (X_wn N nc nx) 31 (nx - 1) V = ((0, n), V1) := hX2.symm.trans (X_wi_e (by omega))
                have hXs := X_wo_s (show nx ≤ nc by omega) hRI
                rw [hXn] at hXs
                refine T_sub (ls := [(2, .int (iI (nx + 1))), (0, .ref 527), (1, .ref B)]) ⟨rfl, rfl, rfl, trivial⟩ rfl rfl ?_
                exact ih2056 S2125 (nx + 1) V1 hg2 vs2 pl2 hO72 hvs2 hpl2 (hF2059.tr ((X_Fr.rf).tr (X_Fr.mono ⟨hF2124.1, hF2124.2⟩ (fun q hq => (by omega))))) (by omega) (fun z => ⟨by
                      rw [show nx + 1 - 1 = nx by omega]
                      refine X_Wr.nx hW2 (by omega) ?_
                      rw [hno]; unfold X_wn; rw [if_pos (by omega)], hXs.symm⟩) (fun z => ⟨by
                      refine hW2 0 (Int.le_refl 0) (by omega) (fun y => ?_)
                      have hn1 : n = -1 := by rw [hno]; unfold X_wn; rw [if_neg (by omega)]
                      rw [hn1] at y
                      have := X_An_neg y
                      omega, by rw [hXs, z, show nc + 1 - (nc + 1) = 0 by omega]; rfl⟩) (by omega)
              · skip
                have c2126 : ¬ (30 ≤ lv) := c2126
                refine T_p xr_106_57 xn_106 (pc' := 59) (ls' := [(5, .int (iI lv)), (4, .int (iI n)), (3, .int (iI (X_wn N nc nx))), (2, .int (iI nx)), (0, .ref 527), (1, .ref B)]) (st' := [.int (iI n)]) rfl ?_
                refine T_p xr_106_59 xn_106 (pc' := 60) (ls' := [(5, .int (iI lv)), (4, .int (iI n)), (3, .int (iI (X_wn N nc nx))), (2, .int (iI nx)), (0, .ref 527), (1, .ref B)]) (st' := [.int (iI (X_wn N nc nx)), .int (iI n)]) rfl ?_
                refine T_zicmp_le xr_106_60 (t := 104) (pc' := 63) rfl rfl (fun c2127 => ?_) (fun c2127 => ?_)
                · skip
                  have c2127 : n ≤ (X_wn N nc nx) := c2127
                  refine T_ziinc xr_106_104 xn_106 (a := nx) (z := nx + 1) rfl (Nat.le_of_ble_eq_true rfl) (by omega) (ls' := [(2, .int (iI (nx + 1))), (5, .int (iI lv)), (4, .int (iI n)), (3, .int (iI (X_wn N nc nx))), (0, .ref 527), (1, .ref B)]) rfl (pc' := 107) rfl ?_
                  refine T_p xr_106_107 xn_106 (pc' := 6) (ls' := [(2, .int (iI (nx + 1))), (5, .int (iI lv)), (4, .int (iI n)), (3, .int (iI (X_wn N nc nx))), (0, .ref 527), (1, .ref B)]) (st' := []) rfl ?_
                  have hno : n = X_wn N nc nx := by
                    have h1 := hAo.le t0 (by omega) (by omega)
                    omega
                  have hRI : X_wi G (fun w => gD G w 6 0) (fun w => gD G w 7 0) N nc (X_wn N nc nx) 31 (nx - 1) V = ((0, n), V1) := hX2.symm.trans (X_wi_e (by omega))
                  have hXs := X_wo_s (show nx ≤ nc by omega) hRI
                  rw [hXn] at hXs
                  refine T_sub (ls := [(2, .int (iI (nx + 1))), (0, .ref 527), (1, .ref B)]) ⟨rfl, rfl, rfl, trivial⟩ rfl rfl ?_
                  exact ih2056 S2125 (nx + 1) V1 hg2 vs2 pl2 hO72 hvs2 hpl2 (hF2059.tr ((X_Fr.rf).tr (X_Fr.mono ⟨hF2124.1, hF2124.2⟩ (fun q hq => (by omega))))) (by omega) (fun z => ⟨by
                        rw [show nx + 1 - 1 = nx by omega]
                        refine X_Wr.nx hW2 (by omega) ?_
                        rw [hno]; unfold X_wn; rw [if_pos (by omega)], hXs.symm⟩) (fun z => ⟨by
                        refine hW2 0 (Int.le_refl 0) (by omega) (fun y => ?_)
                        have hn1 : n = -1 := by rw [hno]; unfold X_wn; rw [if_neg (by omega)]
                        rw [hn1] at y
                        have := X_An_neg y
                        omega, by rw [hXs, z, show nc + 1 - (nc + 1) = 0 by omega]; rfl⟩) (by omega)
                · skip
                  have c2127 : ¬ (n ≤ (X_wn N nc nx)) := c2127
                  refine T_p xr_106_63 xn_106 (pc' := 64) (ls' := [(5, .int (iI lv)), (4, .int (iI n)), (3, .int (iI (X_wn N nc nx))), (2, .int (iI nx)), (0, .ref 527), (1, .ref B)]) (st' := [.ref 527]) rfl ?_
                  refine T_p xr_106_64 xn_106 (pc' := 65) (ls' := [(5, .int (iI lv)), (4, .int (iI n)), (3, .int (iI (X_wn N nc nx))), (2, .int (iI nx)), (0, .ref 527), (1, .ref B)]) (st' := [.ref B, .ref 527]) rfl ?_
                  refine T_p xr_106_65 xn_106 (pc' := 67) (ls' := [(5, .int (iI lv)), (4, .int (iI n)), (3, .int (iI (X_wn N nc nx))), (2, .int (iI nx)), (0, .ref 527), (1, .ref B)]) (st' := [.int (iI n), .ref B, .ref 527]) rfl ?_
                  refine T_cv (S := S2125) (q := 527) xr_106_67 xf_107.1 xf_107.2.1 xn_107 (as := [.ref B, .int (iI n)]) (r := []) rfl hO72 (Nat.le_of_ble_eq_true rfl) (Nat.le_of_ble_eq_true rfl) (pc' := 70) rfl (ls' := [(0, .ref 527), (1, .ref B), (2, .int (iI n))]) rfl ?_
                  have h2128 := (hF2124.1 505 (by first | decide | omega)).trans ((hF2059.1 505 (by first | decide | omega)).trans ((hf2054.1 505 (by first | decide | omega)).trans (hA505)))
                  have h2129 := (hF2124.1 506 (by first | decide | omega)).trans ((hF2059.1 506 (by first | decide | omega)).trans ((hf2054.1 506 (by first | decide | omega)).trans (hA506)))
                  have h2130 := (hF2124.1 507 (by first | decide | omega)).trans ((hF2059.1 507 (by first | decide | omega)).trans ((hf2054.1 507 (by first | decide | omega)).trans (hA507)))
                  have h2131 := (hF2124.1 508 (by first | decide | omega)).trans (h2119)
                  have h2132 := (hF2124.1 509 (by first | decide | omega)).trans ((hF2059.1 509 (by first | decide | omega)).trans ((hf2054.1 509 (by first | decide | omega)).trans (hA509)))
                  have h2133 := (hF2124.1 510 (by first | decide | omega)).trans ((hF2059.1 510 (by first | decide | omega)).trans ((hf2054.1 510 (by first | decide | omega)).trans (hA510)))
                  have h2134 := (hF2124.1 501 (by first | decide | omega)).trans ((hF2059.1 501 (by first | decide | omega)).trans ((hf2054.1 501 (by first | decide | omega)).trans (hO501)))
                  have h2135 := (hF2124.1 504 (by first | decide | omega)).trans (h2063)
                  have h2136 := (hF2124.1 B (by omega)).trans ((hF2059.1 B (by omega)).trans ((hf2054.1 B (by omega)).trans (hb0)))
                  have h2137 := (hF2124.1 (B + 1) (by omega)).trans ((hF2059.1 (B + 1) (by omega)).trans ((hf2054.1 (B + 1) (by omega)).trans (hb1)))
                  have h2138 := (hF2124.1 (B + 2) (by omega)).trans ((hF2059.1 (B + 2) (by omega)).trans ((hf2054.1 (B + 2) (by omega)).trans (hb2)))
                  have h2139 := (hF2124.1 (B + 3) (by omega)).trans ((hF2059.1 (B + 3) (by omega)).trans ((hf2054.1 (B + 3) (by omega)).trans (hb3)))
                  have h2140 := (hF2124.1 (B + 4) (by omega)).trans ((hF2059.1 (B + 4) (by omega)).trans ((hf2054.1 (B + 4) (by omega)).trans (hb4)))
                  have h2141 := (hF2124.1 (B + 5) (by omega)).trans ((hF2059.1 (B + 5) (by omega)).trans ((hf2054.1 (B + 5) (by omega)).trans (hb5)))
                  have hs2142 : C_ws S2125 B (gD G) (gW G) := C_ws.fr (P := fun q => 501 ≤ q ∧ q ≤ 529) hs ((((X_Fr.rf).tr (X_Fr.mono ⟨hf2054.1, hf2054.2⟩ (fun q hq => (by omega)))).tr (X_Fr.mono ⟨hF2059.1, hF2059.2⟩ (fun q hq => (by omega)))).tr (X_Fr.mono ⟨hF2124.1, hF2124.2⟩ (fun q hq => (by omega)))) (fun k h1 h2 => by omega)
                  have h2143 := (hF2124.1 502 (by first | decide | omega)).trans ((hF2059.1 502 (by first | decide | omega)).trans ((hf2054.1 502 (by first | decide | omega)).trans (hA502)))
                  refine T_mono (c_workNode sc S2125 nW nF nL nP nH nC vs2 pl2 B rc rn kn G tn nc N n V1 0 (-1) hg2 h2134 h2135 hO72 h2128 h2129 h2130 h2131 h2132 h2133 hvs2 hpl2 hB ⟨h2136, h2137, h2138, h2139, h2140, ⟨f, h2141, hf⟩, ⟨by omega, by omega⟩, ⟨by omega, by omega⟩, ⟨by omega, by omega⟩⟩ hs2142 hG hGs h2143 hR (by omega) hnd hch (fun h g1 g2 g3 => by have hc := X_ch_ev hR (show 1 ≤ nx ∧ nx ≤ nc by omega) hA (by omega) (by omega) g3; have hc2 := X_lc_r (N := N) (p := n) (h := h) nc.toNat; exact hW2 _ (by omega) hc.2.1 hc.2.2)) (fun v2144 S2145 h2146 => ?_)
                  rcases h2146 with ⟨vs2147, pl2148, h2149, hv2150, hp2151, hp2152, ho2153, ha2154, ha2155, hf2156⟩
                  rw [hv2150]
                  have hcr2157 := X_ev_r (G := G) (bo := (fun w => gD G w 6 0)) (va := (fun w => gD G w 7 0)) (V := V1) (N := N) (nc := nc) (n := n)
                  show X_T sc 106 (70, [(5, .int (iI lv)), (4, .int (iI n)), (3, .int (iI (X_wn N nc nx))), (2, .int (iI nx)), (0, .ref 527), (1, .ref B)], [.int (iI ((X_ev G (fun w => gD G w 6 0) (fun w => gD G w 7 0) N nc V1 n).1))], S2145) _
                  refine T_p xr_106_70 xn_106 (pc' := 72) (ls' := [(6, .int (iI ((X_ev G (fun w => gD G w 6 0) (fun w => gD G w 7 0) N nc V1 n).1))), (5, .int (iI lv)), (4, .int (iI n)), (3, .int (iI (X_wn N nc nx))), (2, .int (iI nx)), (0, .ref 527), (1, .ref B)]) (st' := []) rfl ?_
                  refine T_p xr_106_72 xn_106 (pc' := 74) (ls' := [(6, .int (iI ((X_ev G (fun w => gD G w 6 0) (fun w => gD G w 7 0) N nc V1 n).1))), (5, .int (iI lv)), (4, .int (iI n)), (3, .int (iI (X_wn N nc nx))), (2, .int (iI nx)), (0, .ref 527), (1, .ref B)]) (st' := [.int (iI ((X_ev G (fun w => gD G w 6 0) (fun w => gD G w 7 0) N nc V1 n).1))]) rfl ?_
                  refine T_zif_eq xr_106_74 (t := 86) (pc' := 77) rfl rfl (fun c2158 => ?_) (fun c2158 => ?_)
                  · skip
                    have c2158 : ((X_ev G (fun w => gD G w 6 0) (fun w => gD G w 7 0) N nc V1 n).1) = 0 := c2158
                    refine T_p xr_106_86 xn_106 (pc' := 87) (ls' := [(6, .int (iI ((X_ev G (fun w => gD G w 6 0) (fun w => gD G w 7 0) N nc V1 n).1))), (5, .int (iI lv)), (4, .int (iI n)), (3, .int (iI (X_wn N nc nx))), (2, .int (iI nx)), (0, .ref 527), (1, .ref B)]) (st' := [.ref 527]) rfl ?_
                    refine T_get xr_106_87 ho2153 rfl (v := .ref 504) rfl (pc' := 90) rfl ?_
                    have h2159 := (hf2156.1 504 (by first | decide | omega)).trans (h2135)
                    refine T_get xr_106_90 h2159 rfl (v := .ref 508) rfl (pc' := 93) rfl ?_
                    refine T_p xr_106_93 xn_106 (pc' := 95) (ls' := [(6, .int (iI ((X_ev G (fun w => gD G w 6 0) (fun w => gD G w 7 0) N nc V1 n).1))), (5, .int (iI lv)), (4, .int (iI n)), (3, .int (iI (X_wn N nc nx))), (2, .int (iI nx)), (0, .ref 527), (1, .ref B)]) (st' := [.int (iI n), .ref 508]) rfl ?_
                    have h2160 := (hf2156.1 508 (by first | decide | omega)).trans (h2131)
                    refine T_ziald xr_106_95 h2160 (pc' := 96) rfl ?_
                    refine T_ie (y := iI (N 3 n)) (by rw [(hnd n (by omega) (by omega)).2.2.2.1]) ?_
                    refine T_p xr_106_96 xn_106 (pc' := 98) (ls' := [(4, .int (iI (N 3 n))), (6, .int (iI ((X_ev G (fun w => gD G w 6 0) (fun w => gD G w 7 0) N nc V1 n).1))), (5, .int (iI lv)), (3, .int (iI (X_wn N nc nx))), (2, .int (iI nx)), (0, .ref 527), (1, .ref B)]) (st' := []) rfl ?_
                    refine T_ziinc xr_106_98 xn_106 (a := lv) (z := lv + 1) rfl (Nat.le_of_ble_eq_true rfl) (by omega) (ls' := [(5, .int (iI (lv + 1))), (4, .int (iI (N 3 n))), (6, .int (iI ((X_ev G (fun w => gD G w 6 0) (fun w => gD G w 7 0) N nc V1 n).1))), (3, .int (iI (X_wn N nc nx))), (2, .int (iI nx)), (0, .ref 527), (1, .ref B)]) rfl (pc' := 101) rfl ?_
                    refine T_p xr_106_101 xn_106 (pc' := 50) (ls' := [(5, .int (iI (lv + 1))), (4, .int (iI (N 3 n))), (6, .int (iI ((X_ev G (fun w => gD G w 6 0) (fun w => gD G w 7 0) N nc V1 n).1))), (3, .int (iI (X_wn N nc nx))), (2, .int (iI nx)), (0, .ref 527), (1, .ref B)]) (st' := []) rfl ?_
                    refine T_sub (ls := [(5, .int (iI (lv + 1))), (4, .int (iI (N 3 n))), (3, .int (iI (X_wn N nc nx))), (2, .int (iI nx)), (0, .ref 527), (1, .ref B)]) ⟨rfl, rfl, rfl, rfl, rfl, rfl, trivial⟩ rfl rfl ?_
                    exact ih2121 S2145 (lv + 1) (N 3 n) (X_ug V1 n (X_ev G (fun w => gD G w 6 0) (fun w => gD G w 7 0) N nc V1 n).2) h2149 vs2147 pl2148 ho2153 ha2154 ha2155 (hF2124.tr ((X_Fr.rf).tr (X_Fr.mono ⟨hf2156.1, hf2156.2⟩ (fun q hq => (by omega))))) (by omega) (by have := t0 n (by omega) (by omega); omega) (X_An.tr hA (X_An.up (by omega) X_An.rf) t0 (by omega)) (hAo.dn (by omega)).2 (by
                          rw [← hX2, show (31 - lv).toNat = (31 - (lv + 1)).toNat + 1 by omega, X_wi_s (by omega) (by assumption)]) (X_Wr.st hW2 (by omega) (hp2151 (by assumption)) hp2152) (by omega)
                  · skip
                    have c2158 : ¬ (((X_ev G (fun w => gD G w 6 0) (fun w => gD G w 7 0) N nc V1 n).1) = 0) := c2158
                    refine T_p xr_106_77 xn_106 (pc' := 78) (ls' := [(6, .int (iI ((X_ev G (fun w => gD G w 6 0) (fun w => gD G w 7 0) N nc V1 n).1))), (5, .int (iI lv)), (4, .int (iI n)), (3, .int (iI (X_wn N nc nx))), (2, .int (iI nx)), (0, .ref 527), (1, .ref B)]) (st' := [.ref 527]) rfl ?_
                    refine T_p xr_106_78 xn_106 (pc' := 80) (ls' := [(6, .int (iI ((X_ev G (fun w => gD G w 6 0) (fun w => gD G w 7 0) N nc V1 n).1))), (5, .int (iI lv)), (4, .int (iI n)), (3, .int (iI (X_wn N nc nx))), (2, .int (iI nx)), (0, .ref 527), (1, .ref B)]) (st' := [.int (iI n), .ref 527]) rfl ?_
                    refine T_put xr_106_80 ho2153 rfl (Nat.le_of_ble_eq_true rfl) rfl (fs' := [.ref 501, .ref 504, .int (iI 0), .int (iI n), .ref 528, .ref 529, .int (iI h2149)]) rfl (pc' := 83) rfl (fun S2161 h2162 n2163 e2164 => ?_)
                    refine T_p xr_106_83 xn_106 (pc' := 85) (ls' := [(6, .int (iI ((X_ev G (fun w => gD G w 6 0) (fun w => gD G w 7 0) N nc V1 n).1))), (5, .int (iI lv)), (4, .int (iI n)), (3, .int (iI (X_wn N nc nx))), (2, .int (iI nx)), (0, .ref 527), (1, .ref B)]) (st' := [.int (iI ((X_ev G (fun w => gD G w 6 0) (fun w => gD G w 7 0) N nc V1 n).1))]) rfl ?_
                    refine T_iret xr_106_85 xf_106.2.2 rfl ?_
                    refine hQ _ _ ?_
                    have h2165 := (n2163 528 (by decide)).trans (ha2154)
                    have h2166 := (n2163 529 (by decide)).trans (ha2155)
                    have hRI : X_wi G (fun w => gD G w 6 0) (fun w => gD G w 7 0) N nc (X_wn N nc nx) 31 (nx - 1) V = (((X_ev G (fun w => gD G w 6 0) (fun w => gD G w 7 0) N nc V1 n).1, n), V1) := hX2.symm.trans (by rw [show (31 - lv).toNat = (31 - (lv + 1)).toNat + 1 by omega, X_wi_x (by omega) (by assumption)])
                    have hRR : (X_wk G (fun w => gD G w 6 0) (fun w => gD G w 7 0) N nc) = ((X_ev G (fun w => gD G w 6 0) (fun w => gD G w 7 0) N nc V1 n).1, n, 0) := hXn.symm.trans (X_wo_x (show nx ≤ nc by omega) (by assumption) hRI)
                    exact ⟨vs2147, pl2148, h2149, by rw [hRR], by rw [hRR]; exact h2162, h2165, h2166, (((((X_Fr.rf).tr (X_Fr.mono ⟨hf2054.1, hf2054.2⟩ (fun q hq => (by omega)))).tr (X_Fr.mono ⟨hF2059.1, hF2059.2⟩ (fun q hq => (by omega)))).tr (X_Fr.mono ⟨hF2124.1, hF2124.2⟩ (fun q hq => (by omega)))).tr (X_Fr.mono ⟨hf2156.1, hf2156.2⟩ (fun q hq => (by omega)))).tr (X_Fr.of n2163 e2164 (by first | decide | exact ⟨Nat.le_add_right _ _, Nat.add_le_add_left (by decide) _⟩ | omega))⟩
          exact L2120 ((30 : Int) + 1).toNat S2062 0 (nx - 1) V hg1 vs1 pl1 hO7 hvs1 hpl1 ((X_Fr.rf)) (by omega) (by omega) X_An.rf hwA.1 rfl hW (by omega)
  exact L2055 ((nc + 1) + 1).toNat S2050 1 (fun _ => 0) hgt vs pl ho2053 h2060 h2061 ((X_Fr.rf)) (by omega) (fun _ => ⟨fun m h1 h2 h3 => absurd (by rw [show m = 1 - 1 by omega]; exact X_An.rf) h3, by rw [show nc + 1 - 1 = nc by omega]; rfl⟩) (fun z => absurd z (by omega)) (by omega)
end
section
theorem xr_22_0 : X_row 22 0 = some (0, (.aload_n 0, 1), (0, 0, 0)) := by decide +kernel
theorem xr_22_1 : X_row 22 1 = some (1, (.aload_n 1, 1), (0, 0, 0)) := by decide +kernel
theorem xr_22_2 : X_row 22 2 = some (2, (.putfield 32, 3), (1, 0, 22)) := by decide +kernel
theorem xr_22_5 : X_row 22 5 = some (5, (.aload_n 0, 1), (0, 0, 0)) := by decide +kernel
theorem xr_22_6 : X_row 22 6 = some (6, (.iconst 0, 1), (0, 0, 0)) := by decide +kernel
theorem xr_22_7 : X_row 22 7 = some (7, (.putfield 9, 3), (1, 2, 26)) := by decide +kernel
theorem xr_22_10 : X_row 22 10 = some (10, (.return_, 1), (0, 0, 0)) := by decide +kernel
theorem xr_87_0 : X_row 87 0 = some (0, (.iconst 0, 1), (0, 0, 0)) := by decide +kernel
theorem xr_87_1 : X_row 87 1 = some (1, (.istore_n 2, 1), (0, 0, 0)) := by decide +kernel
theorem xr_87_2 : X_row 87 2 = some (2, (.iconst 0, 1), (0, 0, 0)) := by decide +kernel
theorem xr_87_3 : X_row 87 3 = some (3, (.istore_n 3, 1), (0, 0, 0)) := by decide +kernel
theorem xr_87_4 : X_row 87 4 = some (4, (.iconst 0, 1), (0, 0, 0)) := by decide +kernel
theorem xr_87_5 : X_row 87 5 = some (5, (.istore 4, 2), (0, 0, 0)) := by decide +kernel
theorem xr_87_7 : X_row 87 7 = some (7, (.iload 4, 2), (0, 0, 0)) := by decide +kernel
theorem xr_87_9 : X_row 87 9 = some (9, (.aload_n 1, 1), (0, 0, 0)) := by decide +kernel
theorem xr_87_10 : X_row 87 10 = some (10, (.getfield 22, 3), (7, 1, 1)) := by decide +kernel
theorem xr_87_13 : X_row 87 13 = some (13, (.if_icmp .ge 144, 3), (0, 0, 0)) := by decide +kernel
theorem xr_87_16 : X_row 87 16 = some (16, (.aload_n 1, 1), (0, 0, 0)) := by decide +kernel
theorem xr_87_17 : X_row 87 17 = some (17, (.iload 4, 2), (0, 0, 0)) := by decide +kernel
theorem xr_87_19 : X_row 87 19 = some (19, (.invokevirtual 27, 3), (93, 0, 0)) := by decide +kernel
theorem xr_87_22 : X_row 87 22 = some (22, (.istore 5, 2), (0, 0, 0)) := by decide +kernel
theorem xr_87_24 : X_row 87 24 = some (24, (.iload 5, 2), (0, 0, 0)) := by decide +kernel
theorem xr_87_26 : X_row 87 26 = some (26, (.bipush 40, 2), (0, 0, 0)) := by decide +kernel
theorem xr_87_28 : X_row 87 28 = some (28, (.if_icmp .eq 10, 3), (0, 0, 0)) := by decide +kernel
theorem xr_87_31 : X_row 87 31 = some (31, (.iload 5, 2), (0, 0, 0)) := by decide +kernel
theorem xr_87_33 : X_row 87 33 = some (33, (.bipush 41, 2), (0, 0, 0)) := by decide +kernel
theorem xr_87_35 : X_row 87 35 = some (35, (.if_icmp .ne 7, 3), (0, 0, 0)) := by decide +kernel
theorem xr_87_38 : X_row 87 38 = some (38, (.iconst 1, 1), (0, 0, 0)) := by decide +kernel
theorem xr_87_39 : X_row 87 39 = some (39, (.goto 4, 3), (0, 0, 0)) := by decide +kernel
theorem xr_87_42 : X_row 87 42 = some (42, (.iconst 0, 1), (0, 0, 0)) := by decide +kernel
theorem xr_87_43 : X_row 87 43 = some (43, (.istore 6, 2), (0, 0, 0)) := by decide +kernel
theorem xr_87_45 : X_row 87 45 = some (45, (.iload 5, 2), (0, 0, 0)) := by decide +kernel
theorem xr_87_47 : X_row 87 47 = some (47, (.invokestatic 31, 3), (133, 3, 0)) := by decide +kernel
theorem xr_87_50 : X_row 87 50 = some (50, (.ifCond .eq 8, 3), (0, 0, 0)) := by decide +kernel
theorem xr_87_53 : X_row 87 53 = some (53, (.iconst 0, 1), (0, 0, 0)) := by decide +kernel
theorem xr_87_54 : X_row 87 54 = some (54, (.istore_n 3, 1), (0, 0, 0)) := by decide +kernel
theorem xr_87_55 : X_row 87 55 = some (55, (.goto 96, 3), (0, 0, 0)) := by decide +kernel
theorem xr_87_58 : X_row 87 58 = some (58, (.iload 5, 2), (0, 0, 0)) := by decide +kernel
theorem xr_87_60 : X_row 87 60 = some (60, (.bipush 33, 2), (0, 0, 0)) := by decide +kernel
theorem xr_87_62 : X_row 87 62 = some (62, (.if_icmp .lt 10, 3), (0, 0, 0)) := by decide +kernel
theorem xr_87_65 : X_row 87 65 = some (65, (.iload 5, 2), (0, 0, 0)) := by decide +kernel
theorem xr_87_67 : X_row 87 67 = some (67, (.bipush 126, 2), (0, 0, 0)) := by decide +kernel
theorem xr_87_69 : X_row 87 69 = some (69, (.if_icmp .le 5, 3), (0, 0, 0)) := by decide +kernel
theorem xr_87_72 : X_row 87 72 = some (72, (.iconst 0, 1), (0, 0, 0)) := by decide +kernel
theorem xr_87_73 : X_row 87 73 = some (73, (.ireturn, 1), (0, 0, 0)) := by decide +kernel
theorem xr_87_74 : X_row 87 74 = some (74, (.iload_n 3, 1), (0, 0, 0)) := by decide +kernel
theorem xr_87_75 : X_row 87 75 = some (75, (.ifCond .le 45, 3), (0, 0, 0)) := by decide +kernel
theorem xr_87_78 : X_row 87 78 = some (78, (.iload 6, 2), (0, 0, 0)) := by decide +kernel
theorem xr_87_80 : X_row 87 80 = some (80, (.ifCond .ne 40, 3), (0, 0, 0)) := by decide +kernel
theorem xr_87_83 : X_row 87 83 = some (83, (.iload_n 3, 1), (0, 0, 0)) := by decide +kernel
theorem xr_87_84 : X_row 87 84 = some (84, (.bipush 8, 2), (0, 0, 0)) := by decide +kernel
theorem xr_87_86 : X_row 87 86 = some (86, (.if_icmp .ne 5, 3), (0, 0, 0)) := by decide +kernel
theorem xr_87_89 : X_row 87 89 = some (89, (.iconst 0, 1), (0, 0, 0)) := by decide +kernel
theorem xr_87_90 : X_row 87 90 = some (90, (.ireturn, 1), (0, 0, 0)) := by decide +kernel
theorem xr_87_91 : X_row 87 91 = some (91, (.aload_n 0, 1), (0, 0, 0)) := by decide +kernel
theorem xr_87_92 : X_row 87 92 = some (92, (.getfield 19, 3), (6, 2, 6)) := by decide +kernel
theorem xr_87_95 : X_row 87 95 = some (95, (.iload_n 2, 1), (0, 0, 0)) := by decide +kernel
theorem xr_87_96 : X_row 87 96 = some (96, (.iconst 1, 1), (0, 0, 0)) := by decide +kernel
theorem xr_87_97 : X_row 87 97 = some (97, (.isub, 1), (0, 0, 0)) := by decide +kernel
theorem xr_87_98 : X_row 87 98 = some (98, (.aload_n 0, 1), (0, 0, 0)) := by decide +kernel
theorem xr_87_99 : X_row 87 99 = some (99, (.getfield 19, 3), (6, 2, 6)) := by decide +kernel
theorem xr_87_102 : X_row 87 102 = some (102, (.iload_n 2, 1), (0, 0, 0)) := by decide +kernel
theorem xr_87_103 : X_row 87 103 = some (103, (.iconst 1, 1), (0, 0, 0)) := by decide +kernel
theorem xr_87_104 : X_row 87 104 = some (104, (.isub, 1), (0, 0, 0)) := by decide +kernel
theorem xr_87_105 : X_row 87 105 = some (105, (.laload, 1), (0, 0, 0)) := by decide +kernel
theorem xr_87_106 : X_row 87 106 = some (106, (.bipush 8, 2), (0, 0, 0)) := by decide +kernel
theorem xr_87_108 : X_row 87 108 = some (108, (.lshl, 1), (0, 0, 0)) := by decide +kernel
theorem xr_87_109 : X_row 87 109 = some (109, (.iload 5, 2), (0, 0, 0)) := by decide +kernel
theorem xr_87_111 : X_row 87 111 = some (111, (.i2l, 1), (0, 0, 0)) := by decide +kernel
theorem xr_87_112 : X_row 87 112 = some (112, (.lor, 1), (0, 0, 0)) := by decide +kernel
theorem xr_87_113 : X_row 87 113 = some (113, (.lastore, 1), (0, 0, 0)) := by decide +kernel
theorem xr_87_114 : X_row 87 114 = some (114, (.iinc 3 1, 3), (0, 0, 0)) := by decide +kernel
theorem xr_87_117 : X_row 87 117 = some (117, (.goto 34, 3), (0, 0, 0)) := by decide +kernel
theorem xr_87_120 : X_row 87 120 = some (120, (.iload_n 2, 1), (0, 0, 0)) := by decide +kernel
theorem xr_87_121 : X_row 87 121 = some (121, (.bipush 30, 2), (0, 0, 0)) := by decide +kernel
theorem xr_87_123 : X_row 87 123 = some (123, (.if_icmp .ne 5, 3), (0, 0, 0)) := by decide +kernel
theorem xr_87_126 : X_row 87 126 = some (126, (.iconst 0, 1), (0, 0, 0)) := by decide +kernel
theorem xr_87_127 : X_row 87 127 = some (127, (.ireturn, 1), (0, 0, 0)) := by decide +kernel
theorem xr_87_128 : X_row 87 128 = some (128, (.aload_n 0, 1), (0, 0, 0)) := by decide +kernel
theorem xr_87_129 : X_row 87 129 = some (129, (.getfield 19, 3), (6, 2, 6)) := by decide +kernel
theorem xr_87_132 : X_row 87 132 = some (132, (.iload_n 2, 1), (0, 0, 0)) := by decide +kernel
theorem xr_87_133 : X_row 87 133 = some (133, (.iload 5, 2), (0, 0, 0)) := by decide +kernel
theorem xr_87_135 : X_row 87 135 = some (135, (.i2l, 1), (0, 0, 0)) := by decide +kernel
theorem xr_87_136 : X_row 87 136 = some (136, (.lastore, 1), (0, 0, 0)) := by decide +kernel
theorem xr_87_137 : X_row 87 137 = some (137, (.iinc 2 1, 3), (0, 0, 0)) := by decide +kernel
theorem xr_87_140 : X_row 87 140 = some (140, (.iload 6, 2), (0, 0, 0)) := by decide +kernel
theorem xr_87_142 : X_row 87 142 = some (142, (.ifCond .eq 7, 3), (0, 0, 0)) := by decide +kernel
theorem xr_87_145 : X_row 87 145 = some (145, (.iconst 0, 1), (0, 0, 0)) := by decide +kernel
theorem xr_87_146 : X_row 87 146 = some (146, (.goto 4, 3), (0, 0, 0)) := by decide +kernel
theorem xr_87_149 : X_row 87 149 = some (149, (.iconst 1, 1), (0, 0, 0)) := by decide +kernel
theorem xr_87_150 : X_row 87 150 = some (150, (.istore_n 3, 1), (0, 0, 0)) := by decide +kernel
theorem xr_87_151 : X_row 87 151 = some (151, (.iinc 4 1, 3), (0, 0, 0)) := by decide +kernel
theorem xr_87_154 : X_row 87 154 = some (154, (.goto (-147), 3), (0, 0, 0)) := by decide +kernel
theorem xr_87_157 : X_row 87 157 = some (157, (.aload_n 0, 1), (0, 0, 0)) := by decide +kernel
theorem xr_87_158 : X_row 87 158 = some (158, (.getfield 19, 3), (6, 2, 6)) := by decide +kernel
theorem xr_87_161 : X_row 87 161 = some (161, (.iconst 0, 1), (0, 0, 0)) := by decide +kernel
theorem xr_87_162 : X_row 87 162 = some (162, (.aload_n 0, 1), (0, 0, 0)) := by decide +kernel
theorem xr_87_163 : X_row 87 163 = some (163, (.getfield 15, 3), (6, 1, 4)) := by decide +kernel
theorem xr_87_166 : X_row 87 166 = some (166, (.iconst 0, 1), (0, 0, 0)) := by decide +kernel
theorem xr_87_167 : X_row 87 167 = some (167, (.iload_n 2, 1), (0, 0, 0)) := by decide +kernel
theorem xr_87_168 : X_row 87 168 = some (168, (.invokestatic 35, 3), (9998, 826, 0)) := by decide +kernel
theorem xr_87_171 : X_row 87 171 = some (171, (.aload_n 0, 1), (0, 0, 0)) := by decide +kernel
theorem xr_87_172 : X_row 87 172 = some (172, (.iload_n 2, 1), (0, 0, 0)) := by decide +kernel
theorem xr_87_173 : X_row 87 173 = some (173, (.putfield 9, 3), (6, 0, 2)) := by decide +kernel
theorem xr_87_176 : X_row 87 176 = some (176, (.iconst 1, 1), (0, 0, 0)) := by decide +kernel
theorem xr_87_177 : X_row 87 177 = some (177, (.ireturn, 1), (0, 0, 0)) := by decide +kernel
theorem xr_130_0 : X_row 130 0 = some (0, (.aload_n 0, 1), (0, 0, 0)) := by decide +kernel
theorem xr_130_1 : X_row 130 1 = some (1, (.getfield 54, 3), (10, 6, 60)) := by decide +kernel
theorem xr_130_4 : X_row 130 4 = some (4, (.aload_n 0, 1), (0, 0, 0)) := by decide +kernel
theorem xr_130_5 : X_row 130 5 = some (5, (.getfield 19, 3), (10, 1, 50)) := by decide +kernel
theorem xr_130_8 : X_row 130 8 = some (8, (.invokevirtual 210, 3), (22, 22, 0)) := by decide +kernel
theorem xr_130_11 : X_row 130 11 = some (11, (.aload_n 0, 1), (0, 0, 0)) := by decide +kernel
theorem xr_130_12 : X_row 130 12 = some (12, (.getfield 45, 3), (10, 5, 58)) := by decide +kernel
theorem xr_130_15 : X_row 130 15 = some (15, (.invokevirtual 214, 3), (83, 24, 0)) := by decide +kernel
theorem xr_130_18 : X_row 130 18 = some (18, (.aload_n 0, 1), (0, 0, 0)) := by decide +kernel
theorem xr_130_19 : X_row 130 19 = some (19, (.getfield 72, 3), (10, 8, 64)) := by decide +kernel
theorem xr_130_22 : X_row 130 22 = some (22, (.invokevirtual 172, 3), (105, 26, 0)) := by decide +kernel
theorem xr_130_25 : X_row 130 25 = some (25, (.return_, 1), (0, 0, 0)) := by decide +kernel
theorem xn_22 : X_nL 22 = 2 := by decide +kernel
theorem xf_22 : X_na 22 = 1 ∧ X_ci 22 = 1 ∧ X_rt 22 = none := by decide +kernel
theorem xn_87 : X_nL 87 = 7 := by decide +kernel
theorem xf_87 : X_na 87 = 1 ∧ X_ci 87 = 6 ∧ X_rt 87 = (some .boolean) := by decide +kernel
theorem xn_130 : X_nL 130 = 1 := by decide +kernel
theorem xf_130 : X_na 130 = 0 ∧ X_ci 130 = 10 ∧ X_rt 130 = none := by decide +kernel
theorem c_readFrom (sc : X_Sc) (S : X_S) (ot : Int → Int64) (dr : Int → Int64) (tn : Int) (len : Int) (tb : Int → Int) (hO2 : S.1 2 = .inr (7, [.ref 3, .int (iI len)])) (hO501 : S.1 501 = .inr (6, [.int (iI tn), .ref 502, .ref 503])) (hA502 : S.1 502 = .inl (.long, 30, .inr (.inl fun k : Nat => ot (k : Int)))) (hA503 : S.1 503 = .inl (.long, 30, .inr (.inl fun k : Nat => dr (k : Int)))) (hA3 : S.1 3 = .inl (.byte, 2000, .inl fun k : Nat => iI (tb (k : Int)))) (hl : 0 ≤ len ∧ len ≤ 2000) : X_T sc 87 (0, [(0, .ref 501), (1, .ref 2)], [], S) (fun v S' => (∃ (dr1 : Int → Int64), v = some (.int (iI 0)) ∧ X_sn tb len len.toNat = none ∧ S'.1 503 = .inl (.long, 30, .inr (.inl fun k : Nat => dr1 (k : Int))) ∧ X_Fr (fun q => q = 503) S S') ∨ (∃ (n1 : Int) (z1 : Int) (t1 : Int → Int64) (ot1 : Int → Int64) (dr1 : Int → Int64), v = some (.int (iI 1)) ∧ X_sn tb len len.toNat = some (n1, z1, t1) ∧ (0 ≤ n1 ∧ n1 ≤ 30) ∧ ((∀ i, 0 ≤ i → i < n1 → ot1 i = t1 i)) ∧ S'.1 501 = .inr (6, [.int (iI n1), .ref 502, .ref 503]) ∧ S'.1 502 = .inl (.long, 30, .inr (.inl fun k : Nat => ot1 (k : Int))) ∧ S'.1 503 = .inl (.long, 30, .inr (.inl fun k : Nat => dr1 (k : Int))) ∧ (X_Fr (fun q => 501 ≤ q ∧ q ≤ 503) S S'))) := by
  refine X_QI (fun Q hQ => ?_)
  refine T_p xr_87_0 xn_87 (pc' := 1) (ls' := [(0, .ref 501), (1, .ref 2)]) (st' := [.int (iI 0)]) rfl ?_
  refine T_p xr_87_1 xn_87 (pc' := 2) (ls' := [(2, .int (iI 0)), (0, .ref 501), (1, .ref 2)]) (st' := []) rfl ?_
  refine T_p xr_87_2 xn_87 (pc' := 3) (ls' := [(2, .int (iI 0)), (0, .ref 501), (1, .ref 2)]) (st' := [.int (iI 0)]) rfl ?_
  refine T_p xr_87_3 xn_87 (pc' := 4) (ls' := [(3, .int (iI 0)), (2, .int (iI 0)), (0, .ref 501), (1, .ref 2)]) (st' := []) rfl ?_
  refine T_p xr_87_4 xn_87 (pc' := 5) (ls' := [(3, .int (iI 0)), (2, .int (iI 0)), (0, .ref 501), (1, .ref 2)]) (st' := [.int (iI 0)]) rfl ?_
  refine T_p xr_87_5 xn_87 (pc' := 7) (ls' := [(4, .int (iI 0)), (3, .int (iI 0)), (2, .int (iI 0)), (0, .ref 501), (1, .ref 2)]) (st' := []) rfl ?_
  have L2167 : ∀ (m2169 : Nat) (S2172 : X_S) (k : Int) (n : Int) (z : Int) (t : Int → Int64) (dr1 : Int → Int64) (hdr1 : S2172.1 503 = .inl (.long, 30, .inr (.inl fun k : Nat => dr1 (k : Int)))) (hF2171 : X_Fr (fun q => q = 503) S S2172) (hk : (0 ≤ k ∧ k ≤ len) ∧ 0 ≤ n ∧ n ≤ 30) (hS : X_sn tb len k.toNat = some (n, z, t)) (hd : ∀ i, 0 ≤ i → i < n → dr1 i = t i) (hz : (0 ≤ z ∧ z ≤ 8) ∧ (0 < z → 1 ≤ n)) (hm2170 : len - k < m2169), X_T sc 87 (7, [(4, .int (iI k)), (3, .int (iI z)), (2, .int (iI n)), (0, .ref 501), (1, .ref 2)], [], S2172) Q := by
    intro m2169
    induction m2169 with
    | zero =>
      intro S2172 k n z t dr1 hdr1 hF2171 hk hS hd hz hm2170
      exact (show False by omega).elim
    | succ m2169 ih2168 =>
      intro S2172 k n z t dr1 hdr1 hF2171 hk hS hd hz hm2170
      refine T_p xr_87_7 xn_87 (pc' := 9) (ls' := [(4, .int (iI k)), (3, .int (iI z)), (2, .int (iI n)), (0, .ref 501), (1, .ref 2)]) (st' := [.int (iI k)]) rfl ?_
      refine T_p xr_87_9 xn_87 (pc' := 10) (ls' := [(4, .int (iI k)), (3, .int (iI z)), (2, .int (iI n)), (0, .ref 501), (1, .ref 2)]) (st' := [.ref 2, .int (iI k)]) rfl ?_
      have h2173 := (hF2171.1 2 (by first | decide | omega)).trans (hO2)
      refine T_get xr_87_10 h2173 rfl (v := .int (iI len)) rfl (pc' := 13) rfl ?_
      refine T_zicmp_ge xr_87_13 (t := 157) (pc' := 16) rfl rfl (fun c2174 => ?_) (fun c2174 => ?_)
      · skip
        have c2174 : len ≤ k := c2174
        refine T_p xr_87_157 xn_87 (pc' := 158) (ls' := [(4, .int (iI k)), (3, .int (iI z)), (2, .int (iI n)), (0, .ref 501), (1, .ref 2)]) (st' := [.ref 501]) rfl ?_
        have h2175 := (hF2171.1 501 (by first | decide | omega)).trans (hO501)
        refine T_get xr_87_158 h2175 rfl (v := .ref 503) rfl (pc' := 161) rfl ?_
        refine T_p xr_87_161 xn_87 (pc' := 162) (ls' := [(4, .int (iI k)), (3, .int (iI z)), (2, .int (iI n)), (0, .ref 501), (1, .ref 2)]) (st' := [.int (iI 0), .ref 503]) rfl ?_
        refine T_p xr_87_162 xn_87 (pc' := 163) (ls' := [(4, .int (iI k)), (3, .int (iI z)), (2, .int (iI n)), (0, .ref 501), (1, .ref 2)]) (st' := [.ref 501, .int (iI 0), .ref 503]) rfl ?_
        refine T_get xr_87_163 h2175 rfl (v := .ref 502) rfl (pc' := 166) rfl ?_
        refine T_p xr_87_166 xn_87 (pc' := 167) (ls' := [(4, .int (iI k)), (3, .int (iI z)), (2, .int (iI n)), (0, .ref 501), (1, .ref 2)]) (st' := [.int (iI 0), .ref 502, .int (iI 0), .ref 503]) rfl ?_
        refine T_p xr_87_167 xn_87 (pc' := 168) (ls' := [(4, .int (iI k)), (3, .int (iI z)), (2, .int (iI n)), (0, .ref 501), (1, .ref 2)]) (st' := [.int (iI n), .int (iI 0), .ref 502, .int (iI 0), .ref 503]) rfl ?_
        have h2176 := (hF2171.1 502 (by first | decide | omega)).trans (hA502)
        refine T_cpy xr_87_168 hdr1 h2176 (z := n) (by omega) (by omega) (Nat.le_of_ble_eq_true rfl) (pc' := 171) rfl (fun S2177 h2178 n2179 e2180 => ?_)
        refine T_p xr_87_171 xn_87 (pc' := 172) (ls' := [(4, .int (iI k)), (3, .int (iI z)), (2, .int (iI n)), (0, .ref 501), (1, .ref 2)]) (st' := [.ref 501]) rfl ?_
        refine T_p xr_87_172 xn_87 (pc' := 173) (ls' := [(4, .int (iI k)), (3, .int (iI z)), (2, .int (iI n)), (0, .ref 501), (1, .ref 2)]) (st' := [.int (iI n), .ref 501]) rfl ?_
        have h2181 := (n2179 501 (by decide)).trans (h2175)
        refine T_put xr_87_173 h2181 rfl (Nat.le_of_ble_eq_true rfl) rfl (fs' := [.int (iI n), .ref 502, .ref 503]) rfl (pc' := 176) rfl (fun S2182 h2183 n2184 e2185 => ?_)
        refine T_p xr_87_176 xn_87 (pc' := 177) (ls' := [(4, .int (iI k)), (3, .int (iI z)), (2, .int (iI n)), (0, .ref 501), (1, .ref 2)]) (st' := [.int (iI 1)]) rfl ?_
        refine T_iret xr_87_177 xf_87.2.2 (by decide) ?_
        refine hQ _ _ ?_
        have h2186 := (n2184 502 (by decide)).trans (h2178)
        have h2187 := (n2184 503 (by decide)).trans ((n2179 503 (by decide)).trans (hdr1))
        exact Or.inr ⟨n, z, t, (X_cpy dr1 ot n), dr1, rfl, (by rw [show len.toNat = k.toNat by omega]; exact hS), (by omega), (fun i h1 h2 => by unfold X_cpy; rw [if_pos h2]; exact hd i h1 h2), h2183, h2186, h2187, (((X_Fr.rf).tr (X_Fr.mono ⟨hF2171.1, hF2171.2⟩ (fun q hq => (by omega)))).tr (X_Fr.of n2179 e2180 (by first | decide | exact ⟨Nat.le_add_right _ _, Nat.add_le_add_left (by decide) _⟩ | omega))).tr (X_Fr.of n2184 e2185 (by first | decide | exact ⟨Nat.le_add_right _ _, Nat.add_le_add_left (by decide) _⟩ | omega))⟩
      · skip
        have c2174 : ¬ (len ≤ k) := c2174
        refine T_p xr_87_16 xn_87 (pc' := 17) (ls' := [(4, .int (iI k)), (3, .int (iI z)), (2, .int (iI n)), (0, .ref 501), (1, .ref 2)]) (st' := [.ref 2]) rfl ?_
        refine T_p xr_87_17 xn_87 (pc' := 19) (ls' := [(4, .int (iI k)), (3, .int (iI z)), (2, .int (iI n)), (0, .ref 501), (1, .ref 2)]) (st' := [.int (iI k), .ref 2]) rfl ?_
        refine T_cv (S := S2172) (q := 2) xr_87_19 xf_93.1 xf_93.2.1 xn_93 (as := [.int (iI k)]) (r := []) rfl h2173 (Nat.le_of_ble_eq_true rfl) (Nat.le_of_ble_eq_true rfl) (pc' := 22) rfl (ls' := [(0, .ref 2), (1, .int (iI k))]) rfl ?_
        have h2188 := (hF2171.1 3 (by first | decide | omega)).trans (hA3)
        refine T_mono (c_byteAt sc S2172 len k tb h2173 h2188 (by omega) (by omega)) (fun v2190 S2191 h2189 => ?_)
        obtain ⟨h2192, h2193⟩ := h2189
        rw [h2192, h2193]
        show X_T sc 87 (22, [(4, .int (iI k)), (3, .int (iI z)), (2, .int (iI n)), (0, .ref 501), (1, .ref 2)], [.int (iI (X_at tb len k))], S2172) _
        have hcr := X_at_in (tb := tb) (len := len) (p := k) (by omega)
        have hgo := X_sn_s (show 0 ≤ k by omega) hS
        refine T_p xr_87_22 xn_87 (pc' := 24) (ls' := [(5, .int (iI (X_at tb len k))), (4, .int (iI k)), (3, .int (iI z)), (2, .int (iI n)), (0, .ref 501), (1, .ref 2)]) (st' := []) rfl ?_
        have J2194 : X_T sc 87 (43, [(5, .int (iI (X_at tb len k))), (4, .int (iI k)), (3, .int (iI z)), (2, .int (iI n)), (0, .ref 501), (1, .ref 2)], [.int (iI (bI ((X_at tb len k) = 40 ∨ (X_at tb len k) = 41)))], S2172) Q := by
          refine T_p xr_87_43 xn_87 (pc' := 45) (ls' := [(6, .int (iI (bI ((X_at tb len k) = 40 ∨ (X_at tb len k) = 41)))), (5, .int (iI (X_at tb len k))), (4, .int (iI k)), (3, .int (iI z)), (2, .int (iI n)), (0, .ref 501), (1, .ref 2)]) (st' := []) rfl ?_
          refine T_p xr_87_45 xn_87 (pc' := 47) (ls' := [(6, .int (iI (bI ((X_at tb len k) = 40 ∨ (X_at tb len k) = 41)))), (5, .int (iI (X_at tb len k))), (4, .int (iI k)), (3, .int (iI z)), (2, .int (iI n)), (0, .ref 501), (1, .ref 2)]) (st' := [.int (iI (X_at tb len k))]) rfl ?_
          refine T_cs xr_87_47 (by decide) xf_133.1 xn_133 (as := [.int (iI (X_at tb len k))]) (r := []) rfl (Nat.le_of_ble_eq_true rfl) (Nat.le_of_ble_eq_true rfl) (pc' := 50) rfl (ls' := [(0, .int (iI (X_at tb len k)))]) rfl ?_
          refine T_mono (c_isBlank sc S2172 (X_at tb len k) (by omega)) (fun v2196 S2197 h2195 => ?_)
          obtain ⟨h2198, h2199⟩ := h2195
          rw [h2198, h2199]
          show X_T sc 87 (50, [(6, .int (iI (bI ((X_at tb len k) = 40 ∨ (X_at tb len k) = 41)))), (5, .int (iI (X_at tb len k))), (4, .int (iI k)), (3, .int (iI z)), (2, .int (iI n)), (0, .ref 501), (1, .ref 2)], [.int (iI (bI (X_isBl (X_at tb len k))))], S2172) _
          refine T_bif_eq xr_87_50 (t := 58) (pc' := 53) rfl rfl (fun c2200 => ?_) (fun c2200 => ?_)
          · skip
            have c2200 : ¬ (X_isBl (X_at tb len k)) := c2200
            have hnb : ¬ X_isBl (X_at tb len k) := by assumption
            refine T_p xr_87_58 xn_87 (pc' := 60) (ls' := [(6, .int (iI (bI ((X_at tb len k) = 40 ∨ (X_at tb len k) = 41)))), (5, .int (iI (X_at tb len k))), (4, .int (iI k)), (3, .int (iI z)), (2, .int (iI n)), (0, .ref 501), (1, .ref 2)]) (st' := [.int (iI (X_at tb len k))]) rfl ?_
            refine T_p xr_87_60 xn_87 (pc' := 62) (ls' := [(6, .int (iI (bI ((X_at tb len k) = 40 ∨ (X_at tb len k) = 41)))), (5, .int (iI (X_at tb len k))), (4, .int (iI k)), (3, .int (iI z)), (2, .int (iI n)), (0, .ref 501), (1, .ref 2)]) (st' := [.int (iI 33), .int (iI (X_at tb len k))]) rfl ?_
            refine T_zicmp_lt xr_87_62 (t := 72) (pc' := 65) rfl rfl (fun c2201 => ?_) (fun c2201 => ?_)
            · skip
              have c2201 : (X_at tb len k) < 33 := c2201
              refine T_p xr_87_72 xn_87 (pc' := 73) (ls' := [(6, .int (iI (bI ((X_at tb len k) = 40 ∨ (X_at tb len k) = 41)))), (5, .int (iI (X_at tb len k))), (4, .int (iI k)), (3, .int (iI z)), (2, .int (iI n)), (0, .ref 501), (1, .ref 2)]) (st' := [.int (iI 0)]) rfl ?_
              refine T_iret xr_87_73 xf_87.2.2 (by decide) ?_
              refine hQ _ _ ?_
              rw [X_sn1_x hnb (by omega)] at hgo
              exact Or.inl ⟨dr1, rfl, (X_sn_x (by omega) (by omega) hgo), hdr1, (X_Fr.rf).tr (X_Fr.mono ⟨hF2171.1, hF2171.2⟩ (fun q hq => (by omega)))⟩
            · skip
              have c2201 : ¬ ((X_at tb len k) < 33) := c2201
              refine T_p xr_87_65 xn_87 (pc' := 67) (ls' := [(6, .int (iI (bI ((X_at tb len k) = 40 ∨ (X_at tb len k) = 41)))), (5, .int (iI (X_at tb len k))), (4, .int (iI k)), (3, .int (iI z)), (2, .int (iI n)), (0, .ref 501), (1, .ref 2)]) (st' := [.int (iI (X_at tb len k))]) rfl ?_
              refine T_p xr_87_67 xn_87 (pc' := 69) (ls' := [(6, .int (iI (bI ((X_at tb len k) = 40 ∨ (X_at tb len k) = 41)))), (5, .int (iI (X_at tb len k))), (4, .int (iI k)), (3, .int (iI z)), (2, .int (iI n)), (0, .ref 501), (1, .ref 2)]) (st' := [.int (iI 126), .int (iI (X_at tb len k))]) rfl ?_
              refine T_zicmp_le xr_87_69 (t := 74) (pc' := 72) rfl rfl (fun c2202 => ?_) (fun c2202 => ?_)
              · skip
                have c2202 : (X_at tb len k) ≤ 126 := c2202
                refine T_p xr_87_74 xn_87 (pc' := 75) (ls' := [(6, .int (iI (bI ((X_at tb len k) = 40 ∨ (X_at tb len k) = 41)))), (5, .int (iI (X_at tb len k))), (4, .int (iI k)), (3, .int (iI z)), (2, .int (iI n)), (0, .ref 501), (1, .ref 2)]) (st' := [.int (iI z)]) rfl ?_
                refine T_zif_le xr_87_75 (t := 120) (pc' := 78) rfl rfl (fun c2203 => ?_) (fun c2203 => ?_)
                · skip
                  have c2203 : z ≤ 0 := c2203
                  have hnx : ¬ ((X_at tb len k) < 33 ∨ 126 < (X_at tb len k)) := by omega
                  rw [X_sn1_n hnb hnx (by omega)] at hgo
                  refine T_p xr_87_120 xn_87 (pc' := 121) (ls' := [(6, .int (iI (bI ((X_at tb len k) = 40 ∨ (X_at tb len k) = 41)))), (5, .int (iI (X_at tb len k))), (4, .int (iI k)), (3, .int (iI z)), (2, .int (iI n)), (0, .ref 501), (1, .ref 2)]) (st' := [.int (iI n)]) rfl ?_
                  refine T_p xr_87_121 xn_87 (pc' := 123) (ls' := [(6, .int (iI (bI ((X_at tb len k) = 40 ∨ (X_at tb len k) = 41)))), (5, .int (iI (X_at tb len k))), (4, .int (iI k)), (3, .int (iI z)), (2, .int (iI n)), (0, .ref 501), (1, .ref 2)]) (st' := [.int (iI 30), .int (iI n)]) rfl ?_
                  refine T_zicmp_ne xr_87_123 (t := 128) (pc' := 126) rfl rfl (fun c2204 => ?_) (fun c2204 => ?_)
                  · skip
                    have c2204 : ¬ n = 30 := c2204
                    refine T_p xr_87_128 xn_87 (pc' := 129) (ls' := [(6, .int (iI (bI ((X_at tb len k) = 40 ∨ (X_at tb len k) = 41)))), (5, .int (iI (X_at tb len k))), (4, .int (iI k)), (3, .int (iI z)), (2, .int (iI n)), (0, .ref 501), (1, .ref 2)]) (st' := [.ref 501]) rfl ?_
                    have h2205 := (hF2171.1 501 (by first | decide | omega)).trans (hO501)
                    refine T_get xr_87_129 h2205 rfl (v := .ref 503) rfl (pc' := 132) rfl ?_
                    refine T_p xr_87_132 xn_87 (pc' := 133) (ls' := [(6, .int (iI (bI ((X_at tb len k) = 40 ∨ (X_at tb len k) = 41)))), (5, .int (iI (X_at tb len k))), (4, .int (iI k)), (3, .int (iI z)), (2, .int (iI n)), (0, .ref 501), (1, .ref 2)]) (st' := [.int (iI n), .ref 503]) rfl ?_
                    refine T_p xr_87_133 xn_87 (pc' := 135) (ls' := [(6, .int (iI (bI ((X_at tb len k) = 40 ∨ (X_at tb len k) = 41)))), (5, .int (iI (X_at tb len k))), (4, .int (iI k)), (3, .int (iI z)), (2, .int (iI n)), (0, .ref 501), (1, .ref 2)]) (st' := [.int (iI (X_at tb len k)), .int (iI n), .ref 503]) rfl ?_
                    refine T_p xr_87_135 xn_87 (pc' := 136) (ls' := [(6, .int (iI (bI ((X_at tb len k) = 40 ∨ (X_at tb len k) = 41)))), (5, .int (iI (X_at tb len k))), (4, .int (iI k)), (3, .int (iI z)), (2, .int (iI n)), (0, .ref 501), (1, .ref 2)]) (st' := [.long ((iI (X_at tb len k)).toInt64), .int (iI n), .ref 503]) rfl ?_
                    refine T_zlast xr_87_136 hdr1 (pc' := 137) rfl (fun S2206 h2207 n2208 e2209 => ?_)
                    refine T_ziinc xr_87_137 xn_87 (a := n) (z := n + 1) rfl (Nat.le_of_ble_eq_true rfl) (by omega) (ls' := [(2, .int (iI (n + 1))), (6, .int (iI (bI ((X_at tb len k) = 40 ∨ (X_at tb len k) = 41)))), (5, .int (iI (X_at tb len k))), (4, .int (iI k)), (3, .int (iI z)), (0, .ref 501), (1, .ref 2)]) rfl (pc' := 140) rfl ?_
                    refine T_p xr_87_140 xn_87 (pc' := 142) (ls' := [(2, .int (iI (n + 1))), (6, .int (iI (bI ((X_at tb len k) = 40 ∨ (X_at tb len k) = 41)))), (5, .int (iI (X_at tb len k))), (4, .int (iI k)), (3, .int (iI z)), (0, .ref 501), (1, .ref 2)]) (st' := [.int (iI (bI ((X_at tb len k) = 40 ∨ (X_at tb len k) = 41)))]) rfl ?_
                    refine T_bif_eq xr_87_142 (t := 149) (pc' := 145) rfl rfl (fun c2210 => ?_) (fun c2210 => ?_)
                    · skip
                      have c2210 : ¬ ((X_at tb len k) = 40 ∨ (X_at tb len k) = 41) := c2210
                      refine T_p xr_87_149 xn_87 (pc' := 150) (ls' := [(2, .int (iI (n + 1))), (6, .int (iI (bI ((X_at tb len k) = 40 ∨ (X_at tb len k) = 41)))), (5, .int (iI (X_at tb len k))), (4, .int (iI k)), (3, .int (iI z)), (0, .ref 501), (1, .ref 2)]) (st' := [.int (iI 1)]) rfl ?_
                      refine T_p xr_87_150 xn_87 (pc' := 151) (ls' := [(3, .int (iI 1)), (2, .int (iI (n + 1))), (6, .int (iI (bI ((X_at tb len k) = 40 ∨ (X_at tb len k) = 41)))), (5, .int (iI (X_at tb len k))), (4, .int (iI k)), (0, .ref 501), (1, .ref 2)]) (st' := []) rfl ?_
                      refine T_ziinc xr_87_151 xn_87 (a := k) (z := k + 1) rfl (Nat.le_of_ble_eq_true rfl) (by omega) (ls' := [(4, .int (iI (k + 1))), (3, .int (iI 1)), (2, .int (iI (n + 1))), (6, .int (iI (bI ((X_at tb len k) = 40 ∨ (X_at tb len k) = 41)))), (5, .int (iI (X_at tb len k))), (0, .ref 501), (1, .ref 2)]) rfl (pc' := 154) rfl ?_
                      refine T_p xr_87_154 xn_87 (pc' := 7) (ls' := [(4, .int (iI (k + 1))), (3, .int (iI 1)), (2, .int (iI (n + 1))), (6, .int (iI (bI ((X_at tb len k) = 40 ∨ (X_at tb len k) = 41)))), (5, .int (iI (X_at tb len k))), (0, .ref 501), (1, .ref 2)]) (st' := []) rfl ?_
                      refine T_sub (ls := [(4, .int (iI (k + 1))), (3, .int (iI 1)), (2, .int (iI (n + 1))), (0, .ref 501), (1, .ref 2)]) ⟨rfl, rfl, rfl, rfl, rfl, trivial⟩ rfl rfl ?_
                      exact ih2168 S2206 (k + 1) (n + 1) 1 (X_ug t n (iI (X_at tb len k)).toInt64) (X_ug dr1 n ((iI (X_at tb len k)).toInt64)) h2207 (hF2171.tr ((X_Fr.rf).tr (X_Fr.of n2208 e2209 (by first | decide | exact ⟨Nat.le_add_right _ _, Nat.add_le_add_left (by decide) _⟩ | omega)))) (by omega) (by rw [hgo, if_neg (by omega)]; first | rw [if_pos (by omega)] | rw [if_neg (by omega)]) (fun i h1 h2 => by
                            by_cases hi : i = n
                            · rw [hi, X_ug_s, X_ug_s]
                            · rw [X_ug_n _ _ hi, X_ug_n _ _ hi]; exact hd i h1 (by omega)) (by omega) (by omega)
                    · skip
                      have c2210 : ((X_at tb len k) = 40 ∨ (X_at tb len k) = 41) := c2210
                      refine T_p xr_87_145 xn_87 (pc' := 146) (ls' := [(2, .int (iI (n + 1))), (6, .int (iI (bI ((X_at tb len k) = 40 ∨ (X_at tb len k) = 41)))), (5, .int (iI (X_at tb len k))), (4, .int (iI k)), (3, .int (iI z)), (0, .ref 501), (1, .ref 2)]) (st' := [.int (iI 0)]) rfl ?_
                      refine T_p xr_87_146 xn_87 (pc' := 150) (ls' := [(2, .int (iI (n + 1))), (6, .int (iI (bI ((X_at tb len k) = 40 ∨ (X_at tb len k) = 41)))), (5, .int (iI (X_at tb len k))), (4, .int (iI k)), (3, .int (iI z)), (0, .ref 501), (1, .ref 2)]) (st' := [.int (iI 0)]) rfl ?_
                      refine T_p xr_87_150 xn_87 (pc' := 151) (ls' := [(3, .int (iI 0)), (2, .int (iI (n + 1))), (6, .int (iI (bI ((X_at tb len k) = 40 ∨ (X_at tb len k) = 41)))), (5, .int (iI (X_at tb len k))), (4, .int (iI k)), (0, .ref 501), (1, .ref 2)]) (st' := []) rfl ?_
                      refine T_ziinc xr_87_151 xn_87 (a := k) (z := k + 1) rfl (Nat.le_of_ble_eq_true rfl) (by omega) (ls' := [(4, .int (iI (k + 1))), (3, .int (iI 0)), (2, .int (iI (n + 1))), (6, .int (iI (bI ((X_at tb len k) = 40 ∨ (X_at tb len k) = 41)))), (5, .int (iI (X_at tb len k))), (0, .ref 501), (1, .ref 2)]) rfl (pc' := 154) rfl ?_
                      refine T_p xr_87_154 xn_87 (pc' := 7) (ls' := [(4, .int (iI (k + 1))), (3, .int (iI 0)), (2, .int (iI (n + 1))), (6, .int (iI (bI ((X_at tb len k) = 40 ∨ (X_at tb len k) = 41)))), (5, .int (iI (X_at tb len k))), (0, .ref 501), (1, .ref 2)]) (st' := []) rfl ?_
                      refine T_sub (ls := [(4, .int (iI (k + 1))), (3, .int (iI 0)), (2, .int (iI (n + 1))), (0, .ref 501), (1, .ref 2)]) ⟨rfl, rfl, rfl, rfl, rfl, trivial⟩ rfl rfl ?_
                      exact ih2168 S2206 (k + 1) (n + 1) 0 (X_ug t n (iI (X_at tb len k)).toInt64) (X_ug dr1 n ((iI (X_at tb len k)).toInt64)) h2207 (hF2171.tr ((X_Fr.rf).tr (X_Fr.of n2208 e2209 (by first | decide | exact ⟨Nat.le_add_right _ _, Nat.add_le_add_left (by decide) _⟩ | omega)))) (by omega) (by rw [hgo, if_neg (by omega)]; first | rw [if_pos (by omega)] | rw [if_neg (by omega)]) (fun i h1 h2 => by
                            by_cases hi : i = n
                            · rw [hi, X_ug_s, X_ug_s]
                            · rw [X_ug_n _ _ hi, X_ug_n _ _ hi]; exact hd i h1 (by omega)) (by omega) (by omega)
                  · skip
                    have c2204 : ¬ (¬ n = 30) := c2204
                    refine T_p xr_87_126 xn_87 (pc' := 127) (ls' := [(6, .int (iI (bI ((X_at tb len k) = 40 ∨ (X_at tb len k) = 41)))), (5, .int (iI (X_at tb len k))), (4, .int (iI k)), (3, .int (iI z)), (2, .int (iI n)), (0, .ref 501), (1, .ref 2)]) (st' := [.int (iI 0)]) rfl ?_
                    refine T_iret xr_87_127 xf_87.2.2 (by decide) ?_
                    refine hQ _ _ ?_
                    rw [if_pos (by omega)] at hgo
                    exact Or.inl ⟨dr1, rfl, (X_sn_x (by omega) (by omega) hgo), hdr1, (X_Fr.rf).tr (X_Fr.mono ⟨hF2171.1, hF2171.2⟩ (fun q hq => (by omega)))⟩
                · skip
                  have c2203 : ¬ (z ≤ 0) := c2203
                  refine T_p xr_87_78 xn_87 (pc' := 80) (ls' := [(6, .int (iI (bI ((X_at tb len k) = 40 ∨ (X_at tb len k) = 41)))), (5, .int (iI (X_at tb len k))), (4, .int (iI k)), (3, .int (iI z)), (2, .int (iI n)), (0, .ref 501), (1, .ref 2)]) (st' := [.int (iI (bI ((X_at tb len k) = 40 ∨ (X_at tb len k) = 41)))]) rfl ?_
                  refine T_bif_ne xr_87_80 (t := 120) (pc' := 83) rfl rfl (fun c2211 => ?_) (fun c2211 => ?_)
                  · skip
                    have c2211 : ((X_at tb len k) = 40 ∨ (X_at tb len k) = 41) := c2211
                    have hnx : ¬ ((X_at tb len k) < 33 ∨ 126 < (X_at tb len k)) := by omega
                    rw [X_sn1_n hnb hnx (by omega)] at hgo
                    refine T_p xr_87_120 xn_87 (pc' := 121) (ls' := [(6, .int (iI (bI ((X_at tb len k) = 40 ∨ (X_at tb len k) = 41)))), (5, .int (iI (X_at tb len k))), (4, .int (iI k)), (3, .int (iI z)), (2, .int (iI n)), (0, .ref 501), (1, .ref 2)]) (st' := [.int (iI n)]) rfl ?_
                    refine T_p xr_87_121 xn_87 (pc' := 123) (ls' := [(6, .int (iI (bI ((X_at tb len k) = 40 ∨ (X_at tb len k) = 41)))), (5, .int (iI (X_at tb len k))), (4, .int (iI k)), (3, .int (iI z)), (2, .int (iI n)), (0, .ref 501), (1, .ref 2)]) (st' := [.int (iI 30), .int (iI n)]) rfl ?_
                    refine T_zicmp_ne xr_87_123 (t := 128) (pc' := 126) rfl rfl (fun c2212 => ?_) (fun c2212 => ?_)
                    · skip
                      have c2212 : ¬ n = 30 := c2212
                      refine T_p xr_87_128 xn_87 (pc' := 129) (ls' := [(6, .int (iI (bI ((X_at tb len k) = 40 ∨ (X_at tb len k) = 41)))), (5, .int (iI (X_at tb len k))), (4, .int (iI k)), (3, .int (iI z)), (2, .int (iI n)), (0, .ref 501), (1, .ref 2)]) (st' := [.ref 501]) rfl ?_
                      have h2213 := (hF2171.1 501 (by first | decide | omega)).trans (hO501)
                      refine T_get xr_87_129 h2213 rfl (v := .ref 503) rfl (pc' := 132) rfl ?_
                      refine T_p xr_87_132 xn_87 (pc' := 133) (ls' := [(6, .int (iI (bI ((X_at tb len k) = 40 ∨ (X_at tb len k) = 41)))), (5, .int (iI (X_at tb len k))), (4, .int (iI k)), (3, .int (iI z)), (2, .int (iI n)), (0, .ref 501), (1, .ref 2)]) (st' := [.int (iI n), .ref 503]) rfl ?_
                      refine T_p xr_87_133 xn_87 (pc' := 135) (ls' := [(6, .int (iI (bI ((X_at tb len k) = 40 ∨ (X_at tb len k) = 41)))), (5, .int (iI (X_at tb len k))), (4, .int (iI k)), (3, .int (iI z)), (2, .int (iI n)), (0, .ref 501), (1, .ref 2)]) (st' := [.int (iI (X_at tb len k)), .int (iI n), .ref 503]) rfl ?_
                      refine T_p xr_87_135 xn_87 (pc' := 136) (ls' := [(6, .int (iI (bI ((X_at tb len k) = 40 ∨ (X_at tb len k) = 41)))), (5, .int (iI (X_at tb len k))), (4, .int (iI k)), (3, .int (iI z)), (2, .int (iI n)), (0, .ref 501), (1, .ref 2)]) (st' := [.long ((iI (X_at tb len k)).toInt64), .int (iI n), .ref 503]) rfl ?_
                      refine T_zlast xr_87_136 hdr1 (pc' := 137) rfl (fun S2214 h2215 n2216 e2217 => ?_)
                      refine T_ziinc xr_87_137 xn_87 (a := n) (z := n + 1) rfl (Nat.le_of_ble_eq_true rfl) (by omega) (ls' := [(2, .int (iI (n + 1))), (6, .int (iI (bI ((X_at tb len k) = 40 ∨ (X_at tb len k) = 41)))), (5, .int (iI (X_at tb len k))), (4, .int (iI k)), (3, .int (iI z)), (0, .ref 501), (1, .ref 2)]) rfl (pc' := 140) rfl ?_
                      refine T_p xr_87_140 xn_87 (pc' := 142) (ls' := [(2, .int (iI (n + 1))), (6, .int (iI (bI ((X_at tb len k) = 40 ∨ (X_at tb len k) = 41)))), (5, .int (iI (X_at tb len k))), (4, .int (iI k)), (3, .int (iI z)), (0, .ref 501), (1, .ref 2)]) (st' := [.int (iI (bI ((X_at tb len k) = 40 ∨ (X_at tb len k) = 41)))]) rfl ?_
                      refine T_bif_eq xr_87_142 (t := 149) (pc' := 145) rfl rfl (fun c2218 => ?_) (fun c2218 => ?_)
                      · skip
                        have c2218 : ¬ ((X_at tb len k) = 40 ∨ (X_at tb len k) = 41) := c2218
                        exact (show False by first | contradiction | omega).elim
                      · skip
                        have c2218 : ((X_at tb len k) = 40 ∨ (X_at tb len k) = 41) := c2218
                        refine T_p xr_87_145 xn_87 (pc' := 146) (ls' := [(2, .int (iI (n + 1))), (6, .int (iI (bI ((X_at tb len k) = 40 ∨ (X_at tb len k) = 41)))), (5, .int (iI (X_at tb len k))), (4, .int (iI k)), (3, .int (iI z)), (0, .ref 501), (1, .ref 2)]) (st' := [.int (iI 0)]) rfl ?_
                        refine T_p xr_87_146 xn_87 (pc' := 150) (ls' := [(2, .int (iI (n + 1))), (6, .int (iI (bI ((X_at tb len k) = 40 ∨ (X_at tb len k) = 41)))), (5, .int (iI (X_at tb len k))), (4, .int (iI k)), (3, .int (iI z)), (0, .ref 501), (1, .ref 2)]) (st' := [.int (iI 0)]) rfl ?_
                        refine T_p xr_87_150 xn_87 (pc' := 151) (ls' := [(3, .int (iI 0)), (2, .int (iI (n + 1))), (6, .int (iI (bI ((X_at tb len k) = 40 ∨ (X_at tb len k) = 41)))), (5, .int (iI (X_at tb len k))), (4, .int (iI k)), (0, .ref 501), (1, .ref 2)]) (st' := []) rfl ?_
                        refine T_ziinc xr_87_151 xn_87 (a := k) (z := k + 1) rfl (Nat.le_of_ble_eq_true rfl) (by omega) (ls' := [(4, .int (iI (k + 1))), (3, .int (iI 0)), (2, .int (iI (n + 1))), (6, .int (iI (bI ((X_at tb len k) = 40 ∨ (X_at tb len k) = 41)))), (5, .int (iI (X_at tb len k))), (0, .ref 501), (1, .ref 2)]) rfl (pc' := 154) rfl ?_
                        refine T_p xr_87_154 xn_87 (pc' := 7) (ls' := [(4, .int (iI (k + 1))), (3, .int (iI 0)), (2, .int (iI (n + 1))), (6, .int (iI (bI ((X_at tb len k) = 40 ∨ (X_at tb len k) = 41)))), (5, .int (iI (X_at tb len k))), (0, .ref 501), (1, .ref 2)]) (st' := []) rfl ?_
                        refine T_sub (ls := [(4, .int (iI (k + 1))), (3, .int (iI 0)), (2, .int (iI (n + 1))), (0, .ref 501), (1, .ref 2)]) ⟨rfl, rfl, rfl, rfl, rfl, trivial⟩ rfl rfl ?_
                        exact ih2168 S2214 (k + 1) (n + 1) 0 (X_ug t n (iI (X_at tb len k)).toInt64) (X_ug dr1 n ((iI (X_at tb len k)).toInt64)) h2215 (hF2171.tr ((X_Fr.rf).tr (X_Fr.of n2216 e2217 (by first | decide | exact ⟨Nat.le_add_right _ _, Nat.add_le_add_left (by decide) _⟩ | omega)))) (by omega) (by rw [hgo, if_neg (by omega)]; first | rw [if_pos (by omega)] | rw [if_neg (by omega)]) (fun i h1 h2 => by
                              by_cases hi : i = n
                              · rw [hi, X_ug_s, X_ug_s]
                              · rw [X_ug_n _ _ hi, X_ug_n _ _ hi]; exact hd i h1 (by omega)) (by omega) (by omega)
                    · skip
                      have c2212 : ¬ (¬ n = 30) := c2212
                      refine T_p xr_87_126 xn_87 (pc' := 127) (ls' := [(6, .int (iI (bI ((X_at tb len k) = 40 ∨ (X_at tb len k) = 41)))), (5, .int (iI (X_at tb len k))), (4, .int (iI k)), (3, .int (iI z)), (2, .int (iI n)), (0, .ref 501), (1, .ref 2)]) (st' := [.int (iI 0)]) rfl ?_
                      refine T_iret xr_87_127 xf_87.2.2 (by decide) ?_
                      refine hQ _ _ ?_
                      rw [if_pos (by omega)] at hgo
                      exact Or.inl ⟨dr1, rfl, (X_sn_x (by omega) (by omega) hgo), hdr1, (X_Fr.rf).tr (X_Fr.mono ⟨hF2171.1, hF2171.2⟩ (fun q hq => (by omega)))⟩
                  · skip
                    have c2211 : ¬ ((X_at tb len k) = 40 ∨ (X_at tb len k) = 41) := c2211
                    have hnx : ¬ ((X_at tb len k) < 33 ∨ 126 < (X_at tb len k)) := by omega
                    rw [X_sn1_m hnb hnx (by omega)] at hgo
                    refine T_p xr_87_83 xn_87 (pc' := 84) (ls' := [(6, .int (iI (bI ((X_at tb len k) = 40 ∨ (X_at tb len k) = 41)))), (5, .int (iI (X_at tb len k))), (4, .int (iI k)), (3, .int (iI z)), (2, .int (iI n)), (0, .ref 501), (1, .ref 2)]) (st' := [.int (iI z)]) rfl ?_
                    refine T_p xr_87_84 xn_87 (pc' := 86) (ls' := [(6, .int (iI (bI ((X_at tb len k) = 40 ∨ (X_at tb len k) = 41)))), (5, .int (iI (X_at tb len k))), (4, .int (iI k)), (3, .int (iI z)), (2, .int (iI n)), (0, .ref 501), (1, .ref 2)]) (st' := [.int (iI 8), .int (iI z)]) rfl ?_
                    refine T_zicmp_ne xr_87_86 (t := 91) (pc' := 89) rfl rfl (fun c2219 => ?_) (fun c2219 => ?_)
                    · skip
                      have c2219 : ¬ z = 8 := c2219
                      refine T_p xr_87_91 xn_87 (pc' := 92) (ls' := [(6, .int (iI (bI ((X_at tb len k) = 40 ∨ (X_at tb len k) = 41)))), (5, .int (iI (X_at tb len k))), (4, .int (iI k)), (3, .int (iI z)), (2, .int (iI n)), (0, .ref 501), (1, .ref 2)]) (st' := [.ref 501]) rfl ?_
                      have h2220 := (hF2171.1 501 (by first | decide | omega)).trans (hO501)
                      refine T_get xr_87_92 h2220 rfl (v := .ref 503) rfl (pc' := 95) rfl ?_
                      refine T_p xr_87_95 xn_87 (pc' := 96) (ls' := [(6, .int (iI (bI ((X_at tb len k) = 40 ∨ (X_at tb len k) = 41)))), (5, .int (iI (X_at tb len k))), (4, .int (iI k)), (3, .int (iI z)), (2, .int (iI n)), (0, .ref 501), (1, .ref 2)]) (st' := [.int (iI n), .ref 503]) rfl ?_
                      refine T_p xr_87_96 xn_87 (pc' := 97) (ls' := [(6, .int (iI (bI ((X_at tb len k) = 40 ∨ (X_at tb len k) = 41)))), (5, .int (iI (X_at tb len k))), (4, .int (iI k)), (3, .int (iI z)), (2, .int (iI n)), (0, .ref 501), (1, .ref 2)]) (st' := [.int (iI 1), .int (iI n), .ref 503]) rfl ?_
                      refine T_zisub xr_87_97 (z := n - 1) rfl (pc' := 98) rfl ?_
                      refine T_p xr_87_98 xn_87 (pc' := 99) (ls' := [(6, .int (iI (bI ((X_at tb len k) = 40 ∨ (X_at tb len k) = 41)))), (5, .int (iI (X_at tb len k))), (4, .int (iI k)), (3, .int (iI z)), (2, .int (iI n)), (0, .ref 501), (1, .ref 2)]) (st' := [.ref 501, .int (iI (n - 1)), .ref 503]) rfl ?_
                      refine T_get xr_87_99 h2220 rfl (v := .ref 503) rfl (pc' := 102) rfl ?_
                      refine T_p xr_87_102 xn_87 (pc' := 103) (ls' := [(6, .int (iI (bI ((X_at tb len k) = 40 ∨ (X_at tb len k) = 41)))), (5, .int (iI (X_at tb len k))), (4, .int (iI k)), (3, .int (iI z)), (2, .int (iI n)), (0, .ref 501), (1, .ref 2)]) (st' := [.int (iI n), .ref 503, .int (iI (n - 1)), .ref 503]) rfl ?_
                      refine T_p xr_87_103 xn_87 (pc' := 104) (ls' := [(6, .int (iI (bI ((X_at tb len k) = 40 ∨ (X_at tb len k) = 41)))), (5, .int (iI (X_at tb len k))), (4, .int (iI k)), (3, .int (iI z)), (2, .int (iI n)), (0, .ref 501), (1, .ref 2)]) (st' := [.int (iI 1), .int (iI n), .ref 503, .int (iI (n - 1)), .ref 503]) rfl ?_
                      refine T_zisub xr_87_104 (z := n - 1) rfl (pc' := 105) rfl ?_
                      refine T_zlald xr_87_105 hdr1 (pc' := 106) rfl ?_
                      refine T_p xr_87_106 xn_87 (pc' := 108) (ls' := [(6, .int (iI (bI ((X_at tb len k) = 40 ∨ (X_at tb len k) = 41)))), (5, .int (iI (X_at tb len k))), (4, .int (iI k)), (3, .int (iI z)), (2, .int (iI n)), (0, .ref 501), (1, .ref 2)]) (st' := [.int (iI 8), .long (dr1 (n - 1)), .int (iI (n - 1)), .ref 503]) rfl ?_
                      refine T_p xr_87_108 xn_87 (pc' := 109) (ls' := [(6, .int (iI (bI ((X_at tb len k) = 40 ∨ (X_at tb len k) = 41)))), (5, .int (iI (X_at tb len k))), (4, .int (iI k)), (3, .int (iI z)), (2, .int (iI n)), (0, .ref 501), (1, .ref 2)]) (st' := [.long ((dr1 (n - 1)) <<< ((iI 8).toInt64 &&& 63)), .int (iI (n - 1)), .ref 503]) rfl ?_
                      refine T_p xr_87_109 xn_87 (pc' := 111) (ls' := [(6, .int (iI (bI ((X_at tb len k) = 40 ∨ (X_at tb len k) = 41)))), (5, .int (iI (X_at tb len k))), (4, .int (iI k)), (3, .int (iI z)), (2, .int (iI n)), (0, .ref 501), (1, .ref 2)]) (st' := [.int (iI (X_at tb len k)), .long ((dr1 (n - 1)) <<< ((iI 8).toInt64 &&& 63)), .int (iI (n - 1)), .ref 503]) rfl ?_
                      refine T_p xr_87_111 xn_87 (pc' := 112) (ls' := [(6, .int (iI (bI ((X_at tb len k) = 40 ∨ (X_at tb len k) = 41)))), (5, .int (iI (X_at tb len k))), (4, .int (iI k)), (3, .int (iI z)), (2, .int (iI n)), (0, .ref 501), (1, .ref 2)]) (st' := [.long ((iI (X_at tb len k)).toInt64), .long ((dr1 (n - 1)) <<< ((iI 8).toInt64 &&& 63)), .int (iI (n - 1)), .ref 503]) rfl ?_
                      refine T_p xr_87_112 xn_87 (pc' := 113) (ls' := [(6, .int (iI (bI ((X_at tb len k) = 40 ∨ (X_at tb len k) = 41)))), (5, .int (iI (X_at tb len k))), (4, .int (iI k)), (3, .int (iI z)), (2, .int (iI n)), (0, .ref 501), (1, .ref 2)]) (st' := [.long (((dr1 (n - 1)) <<< ((iI 8).toInt64 &&& 63)) ||| ((iI (X_at tb len k)).toInt64)), .int (iI (n - 1)), .ref 503]) rfl ?_
                      refine T_zlast xr_87_113 hdr1 (pc' := 114) rfl (fun S2221 h2222 n2223 e2224 => ?_)
                      refine T_ziinc xr_87_114 xn_87 (a := z) (z := z + 1) rfl (Nat.le_of_ble_eq_true rfl) (by omega) (ls' := [(3, .int (iI (z + 1))), (6, .int (iI (bI ((X_at tb len k) = 40 ∨ (X_at tb len k) = 41)))), (5, .int (iI (X_at tb len k))), (4, .int (iI k)), (2, .int (iI n)), (0, .ref 501), (1, .ref 2)]) rfl (pc' := 117) rfl ?_
                      refine T_p xr_87_117 xn_87 (pc' := 151) (ls' := [(3, .int (iI (z + 1))), (6, .int (iI (bI ((X_at tb len k) = 40 ∨ (X_at tb len k) = 41)))), (5, .int (iI (X_at tb len k))), (4, .int (iI k)), (2, .int (iI n)), (0, .ref 501), (1, .ref 2)]) (st' := []) rfl ?_
                      refine T_ziinc xr_87_151 xn_87 (a := k) (z := k + 1) rfl (Nat.le_of_ble_eq_true rfl) (by omega) (ls' := [(4, .int (iI (k + 1))), (3, .int (iI (z + 1))), (6, .int (iI (bI ((X_at tb len k) = 40 ∨ (X_at tb len k) = 41)))), (5, .int (iI (X_at tb len k))), (2, .int (iI n)), (0, .ref 501), (1, .ref 2)]) rfl (pc' := 154) rfl ?_
                      refine T_p xr_87_154 xn_87 (pc' := 7) (ls' := [(4, .int (iI (k + 1))), (3, .int (iI (z + 1))), (6, .int (iI (bI ((X_at tb len k) = 40 ∨ (X_at tb len k) = 41)))), (5, .int (iI (X_at tb len k))), (2, .int (iI n)), (0, .ref 501), (1, .ref 2)]) (st' := []) rfl ?_
                      refine T_sub (ls := [(4, .int (iI (k + 1))), (3, .int (iI (z + 1))), (2, .int (iI n)), (0, .ref 501), (1, .ref 2)]) ⟨rfl, rfl, rfl, rfl, rfl, trivial⟩ rfl rfl ?_
                      exact ih2168 S2221 (k + 1) n (z + 1) (X_ug t (n - 1) (X_pk1 (t (n - 1)) (X_at tb len k))) (X_ug dr1 (n - 1) (((dr1 (n - 1)) <<< ((iI 8).toInt64 &&& 63)) ||| ((iI (X_at tb len k)).toInt64))) h2222 (hF2171.tr ((X_Fr.rf).tr (X_Fr.of n2223 e2224 (by first | decide | exact ⟨Nat.le_add_right _ _, Nat.add_le_add_left (by decide) _⟩ | omega)))) (by omega) (by rw [hgo, if_neg (by omega)]) (fun i h1 h2 => by
                            by_cases hi : i = n - 1
                            · rw [hi, X_ug_s, X_ug_s, hd (n - 1) (by omega) (by omega)]; rfl
                            · rw [X_ug_n _ _ hi, X_ug_n _ _ hi]; exact hd i h1 h2) (by omega) (by omega)
                    · skip
                      have c2219 : ¬ (¬ z = 8) := c2219
                      refine T_p xr_87_89 xn_87 (pc' := 90) (ls' := [(6, .int (iI (bI ((X_at tb len k) = 40 ∨ (X_at tb len k) = 41)))), (5, .int (iI (X_at tb len k))), (4, .int (iI k)), (3, .int (iI z)), (2, .int (iI n)), (0, .ref 501), (1, .ref 2)]) (st' := [.int (iI 0)]) rfl ?_
                      refine T_iret xr_87_90 xf_87.2.2 (by decide) ?_
                      refine hQ _ _ ?_
                      rw [if_pos (by omega)] at hgo
                      exact Or.inl ⟨dr1, rfl, (X_sn_x (by omega) (by omega) hgo), hdr1, (X_Fr.rf).tr (X_Fr.mono ⟨hF2171.1, hF2171.2⟩ (fun q hq => (by omega)))⟩
              · skip
                have c2202 : ¬ ((X_at tb len k) ≤ 126) := c2202
                refine T_p xr_87_72 xn_87 (pc' := 73) (ls' := [(6, .int (iI (bI ((X_at tb len k) = 40 ∨ (X_at tb len k) = 41)))), (5, .int (iI (X_at tb len k))), (4, .int (iI k)), (3, .int (iI z)), (2, .int (iI n)), (0, .ref 501), (1, .ref 2)]) (st' := [.int (iI 0)]) rfl ?_
                refine T_iret xr_87_73 xf_87.2.2 (by decide) ?_
                refine hQ _ _ ?_
                rw [X_sn1_x hnb (by omega)] at hgo
                exact Or.inl ⟨dr1, rfl, (X_sn_x (by omega) (by omega) hgo), hdr1, (X_Fr.rf).tr (X_Fr.mono ⟨hF2171.1, hF2171.2⟩ (fun q hq => (by omega)))⟩
          · skip
            have c2200 : (X_isBl (X_at tb len k)) := c2200
            rw [X_sn1_b (by assumption)] at hgo
            refine T_p xr_87_53 xn_87 (pc' := 54) (ls' := [(6, .int (iI (bI ((X_at tb len k) = 40 ∨ (X_at tb len k) = 41)))), (5, .int (iI (X_at tb len k))), (4, .int (iI k)), (3, .int (iI z)), (2, .int (iI n)), (0, .ref 501), (1, .ref 2)]) (st' := [.int (iI 0)]) rfl ?_
            refine T_p xr_87_54 xn_87 (pc' := 55) (ls' := [(3, .int (iI 0)), (6, .int (iI (bI ((X_at tb len k) = 40 ∨ (X_at tb len k) = 41)))), (5, .int (iI (X_at tb len k))), (4, .int (iI k)), (2, .int (iI n)), (0, .ref 501), (1, .ref 2)]) (st' := []) rfl ?_
            refine T_p xr_87_55 xn_87 (pc' := 151) (ls' := [(3, .int (iI 0)), (6, .int (iI (bI ((X_at tb len k) = 40 ∨ (X_at tb len k) = 41)))), (5, .int (iI (X_at tb len k))), (4, .int (iI k)), (2, .int (iI n)), (0, .ref 501), (1, .ref 2)]) (st' := []) rfl ?_
            refine T_ziinc xr_87_151 xn_87 (a := k) (z := k + 1) rfl (Nat.le_of_ble_eq_true rfl) (by omega) (ls' := [(4, .int (iI (k + 1))), (3, .int (iI 0)), (6, .int (iI (bI ((X_at tb len k) = 40 ∨ (X_at tb len k) = 41)))), (5, .int (iI (X_at tb len k))), (2, .int (iI n)), (0, .ref 501), (1, .ref 2)]) rfl (pc' := 154) rfl ?_
            refine T_p xr_87_154 xn_87 (pc' := 7) (ls' := [(4, .int (iI (k + 1))), (3, .int (iI 0)), (6, .int (iI (bI ((X_at tb len k) = 40 ∨ (X_at tb len k) = 41)))), (5, .int (iI (X_at tb len k))), (2, .int (iI n)), (0, .ref 501), (1, .ref 2)]) (st' := []) rfl ?_
            refine T_sub (ls := [(4, .int (iI (k + 1))), (3, .int (iI 0)), (2, .int (iI n)), (0, .ref 501), (1, .ref 2)]) ⟨rfl, rfl, rfl, rfl, rfl, trivial⟩ rfl rfl ?_
            exact ih2168 S2172 (k + 1) n 0 t dr1 hdr1 (hF2171.tr (X_Fr.rf)) (by omega) hgo hd (by omega) (by omega)
        refine T_p xr_87_24 xn_87 (pc' := 26) (ls' := [(5, .int (iI (X_at tb len k))), (4, .int (iI k)), (3, .int (iI z)), (2, .int (iI n)), (0, .ref 501), (1, .ref 2)]) (st' := [.int (iI (X_at tb len k))]) rfl ?_
        refine T_p xr_87_26 xn_87 (pc' := 28) (ls' := [(5, .int (iI (X_at tb len k))), (4, .int (iI k)), (3, .int (iI z)), (2, .int (iI n)), (0, .ref 501), (1, .ref 2)]) (st' := [.int (iI 40), .int (iI (X_at tb len k))]) rfl ?_
        refine T_zicmp_eq xr_87_28 (t := 38) (pc' := 31) rfl rfl (fun c2225 => ?_) (fun c2225 => ?_)
        · skip
          have c2225 : (X_at tb len k) = 40 := c2225
          refine T_p xr_87_38 xn_87 (pc' := 39) (ls' := [(5, .int (iI (X_at tb len k))), (4, .int (iI k)), (3, .int (iI z)), (2, .int (iI n)), (0, .ref 501), (1, .ref 2)]) (st' := [.int (iI 1)]) rfl ?_
          refine T_p xr_87_39 xn_87 (pc' := 43) (ls' := [(5, .int (iI (X_at tb len k))), (4, .int (iI k)), (3, .int (iI z)), (2, .int (iI n)), (0, .ref 501), (1, .ref 2)]) (st' := [.int (iI 1)]) rfl ?_
          refine T_ie (y := iI (bI ((X_at tb len k) = 40 ∨ (X_at tb len k) = 41))) (by rw [bI_t (by first | exact Or.inl (by assumption) | exact Or.inr (by omega) | omega)]) ?_
          exact J2194
        · skip
          have c2225 : ¬ ((X_at tb len k) = 40) := c2225
          refine T_p xr_87_31 xn_87 (pc' := 33) (ls' := [(5, .int (iI (X_at tb len k))), (4, .int (iI k)), (3, .int (iI z)), (2, .int (iI n)), (0, .ref 501), (1, .ref 2)]) (st' := [.int (iI (X_at tb len k))]) rfl ?_
          refine T_p xr_87_33 xn_87 (pc' := 35) (ls' := [(5, .int (iI (X_at tb len k))), (4, .int (iI k)), (3, .int (iI z)), (2, .int (iI n)), (0, .ref 501), (1, .ref 2)]) (st' := [.int (iI 41), .int (iI (X_at tb len k))]) rfl ?_
          refine T_zicmp_ne xr_87_35 (t := 42) (pc' := 38) rfl rfl (fun c2226 => ?_) (fun c2226 => ?_)
          · skip
            have c2226 : ¬ (X_at tb len k) = 41 := c2226
            refine T_p xr_87_42 xn_87 (pc' := 43) (ls' := [(5, .int (iI (X_at tb len k))), (4, .int (iI k)), (3, .int (iI z)), (2, .int (iI n)), (0, .ref 501), (1, .ref 2)]) (st' := [.int (iI 0)]) rfl ?_
            refine T_ie (y := iI (bI ((X_at tb len k) = 40 ∨ (X_at tb len k) = 41))) (by rw [bI_f (by omega)]) ?_
            exact J2194
          · skip
            have c2226 : ¬ (¬ (X_at tb len k) = 41) := c2226
            refine T_p xr_87_38 xn_87 (pc' := 39) (ls' := [(5, .int (iI (X_at tb len k))), (4, .int (iI k)), (3, .int (iI z)), (2, .int (iI n)), (0, .ref 501), (1, .ref 2)]) (st' := [.int (iI 1)]) rfl ?_
            refine T_p xr_87_39 xn_87 (pc' := 43) (ls' := [(5, .int (iI (X_at tb len k))), (4, .int (iI k)), (3, .int (iI z)), (2, .int (iI n)), (0, .ref 501), (1, .ref 2)]) (st' := [.int (iI 1)]) rfl ?_
            refine T_ie (y := iI (bI ((X_at tb len k) = 40 ∨ (X_at tb len k) = 41))) (by rw [bI_t (by first | exact Or.inl (by assumption) | exact Or.inr (by omega) | omega)]) ?_
            exact J2194
  exact L2167 (len + 1).toNat S 0 0 0 (fun _ => 0) dr hA503 ((X_Fr.rf)) (by omega) rfl (fun i h1 h2 => absurd h2 (by omega)) (by omega) (by omega)
theorem c_dropReading (sc : X_Sc) (S : X_S) (B : Nat) (B2 : Nat) (B3 : Nat) (fl : Int) (nc : Int) (rs : Int) (re : Int) (hgt : Int) (hO1 : S.1 1 = .inr (10, [.ref 2, .ref B, .ref B2, .ref 496, .ref 501, .ref 504, .ref 511, .ref 517, .ref 527])) (hO511 : S.1 511 = .inr (1, [.ref B3, .ref 501, .int (iI fl), .ref 512, .ref 513, .ref 514, .ref 515, .ref 516])) (hO504 : S.1 504 = .inr (5, [.int (iI nc), .ref 505, .ref 506, .ref 507, .ref 508, .ref 509, .ref 510])) (hO527 : S.1 527 = .inr (9, [.ref 501, .ref 504, .int (iI rs), .int (iI re), .ref 528, .ref 529, .int (iI hgt)])) : X_T sc 130 (0, [(0, .ref 1)], [], S) (fun v S' => v = none ∧ S'.1 511 = .inr (1, [.ref B, .ref 501, .int (iI 0), .ref 512, .ref 513, .ref 514, .ref 515, .ref 516]) ∧ S'.1 504 = .inr (5, [.int (iI 0), .ref 505, .ref 506, .ref 507, .ref 508, .ref 509, .ref 510]) ∧ S'.1 527 = .inr (9, [.ref 501, .ref 504, .int (iI 0), .int (iI (-1)), .ref 528, .ref 529, .int (iI hgt)]) ∧ (X_Fr (fun q => q = 511 ∨ q = 504 ∨ q = 527) S S')) := by
  refine X_QI (fun Q hQ => ?_)
  refine T_p xr_130_0 xn_130 (pc' := 1) (ls' := [(0, .ref 1)]) (st' := [.ref 1]) rfl ?_
  refine T_get xr_130_1 hO1 rfl (v := .ref 511) rfl (pc' := 4) rfl ?_
  refine T_p xr_130_4 xn_130 (pc' := 5) (ls' := [(0, .ref 1)]) (st' := [.ref 1, .ref 511]) rfl ?_
  refine T_get xr_130_5 hO1 rfl (v := .ref B) rfl (pc' := 8) rfl ?_
  refine T_cv (S := S) (q := 511) xr_130_8 xf_22.1 xf_22.2.1 xn_22 (as := [.ref B]) (r := []) rfl hO511 (Nat.le_of_ble_eq_true rfl) (Nat.le_of_ble_eq_true rfl) (pc' := 11) rfl (ls' := [(0, .ref 511), (1, .ref B)]) rfl ?_
  refine T_p xr_22_0 xn_22 (pc' := 1) (ls' := [(0, .ref 511), (1, .ref B)]) (st' := [.ref 511]) rfl ?_
  refine T_p xr_22_1 xn_22 (pc' := 2) (ls' := [(0, .ref 511), (1, .ref B)]) (st' := [.ref B, .ref 511]) rfl ?_
  refine T_put xr_22_2 hO511 rfl (Nat.le_of_ble_eq_true rfl) rfl (fs' := [.ref B, .ref 501, .int (iI fl), .ref 512, .ref 513, .ref 514, .ref 515, .ref 516]) rfl (pc' := 5) rfl (fun S2227 h2228 n2229 e2230 => ?_)
  refine T_p xr_22_5 xn_22 (pc' := 6) (ls' := [(0, .ref 511), (1, .ref B)]) (st' := [.ref 511]) rfl ?_
  refine T_p xr_22_6 xn_22 (pc' := 7) (ls' := [(0, .ref 511), (1, .ref B)]) (st' := [.int (iI 0), .ref 511]) rfl ?_
  refine T_put xr_22_7 h2228 rfl (Nat.le_of_ble_eq_true rfl) rfl (fs' := [.ref B, .ref 501, .int (iI 0), .ref 512, .ref 513, .ref 514, .ref 515, .ref 516]) rfl (pc' := 10) rfl (fun S2231 h2232 n2233 e2234 => ?_)
  refine T_vret xr_22_10 xf_22.2.2 ?_
  show X_T sc 130 (11, [(0, .ref 1)], [], S2231) _
  refine T_p xr_130_11 xn_130 (pc' := 12) (ls' := [(0, .ref 1)]) (st' := [.ref 1]) rfl ?_
  have h2235 := (n2233 1 (by decide)).trans ((n2229 1 (by decide)).trans (hO1))
  refine T_get xr_130_12 h2235 rfl (v := .ref 504) rfl (pc' := 15) rfl ?_
  have h2236 := (n2233 504 (by decide)).trans ((n2229 504 (by decide)).trans (hO504))
  refine T_cv (S := S2231) (q := 504) xr_130_15 xf_83.1 xf_83.2.1 xn_83 (as := []) (r := []) rfl h2236 (Nat.le_of_ble_eq_true rfl) (Nat.le_of_ble_eq_true rfl) (pc' := 18) rfl (ls' := [(0, .ref 504)]) rfl ?_
  refine T_p xr_83_0 xn_83 (pc' := 1) (ls' := [(0, .ref 504)]) (st' := [.ref 504]) rfl ?_
  refine T_p xr_83_1 xn_83 (pc' := 2) (ls' := [(0, .ref 504)]) (st' := [.int (iI 0), .ref 504]) rfl ?_
  refine T_put xr_83_2 h2236 rfl (Nat.le_of_ble_eq_true rfl) rfl (fs' := [.int (iI 0), .ref 505, .ref 506, .ref 507, .ref 508, .ref 509, .ref 510]) rfl (pc' := 5) rfl (fun S2237 h2238 n2239 e2240 => ?_)
  refine T_vret xr_83_5 xf_83.2.2 ?_
  show X_T sc 130 (18, [(0, .ref 1)], [], S2237) _
  refine T_p xr_130_18 xn_130 (pc' := 19) (ls' := [(0, .ref 1)]) (st' := [.ref 1]) rfl ?_
  have h2241 := (n2239 1 (by decide)).trans (h2235)
  refine T_get xr_130_19 h2241 rfl (v := .ref 527) rfl (pc' := 22) rfl ?_
  have h2242 := (n2239 527 (by decide)).trans ((n2233 527 (by decide)).trans ((n2229 527 (by decide)).trans (hO527)))
  refine T_cv (S := S2237) (q := 527) xr_130_22 xf_105.1 xf_105.2.1 xn_105 (as := []) (r := []) rfl h2242 (Nat.le_of_ble_eq_true rfl) (Nat.le_of_ble_eq_true rfl) (pc' := 25) rfl (ls' := [(0, .ref 527)]) rfl ?_
  refine T_mono (c_forget sc S2237 rs re hgt h2242) (fun v2243 S2244 h2245 => ?_)
  rcases h2245 with ⟨hv2246, ho2247, hf2248⟩
  rw [hv2246]
  show X_T sc 130 (25, [(0, .ref 1)], [], S2244) _
  refine T_vret xr_130_25 xf_130.2.2 ?_
  refine hQ _ _ ?_
  have h2249 := (hf2248.1 511 (by first | decide | omega)).trans ((n2239 511 (by decide)).trans (h2232))
  have h2250 := (hf2248.1 504 (by first | decide | omega)).trans (h2238)
  exact ⟨rfl, h2249, h2250, ho2247, ((((X_Fr.rf).tr (X_Fr.of n2229 e2230 (by first | decide | exact ⟨Nat.le_add_right _ _, Nat.add_le_add_left (by decide) _⟩ | omega))).tr (X_Fr.of n2233 e2234 (by first | decide | exact ⟨Nat.le_add_right _ _, Nat.add_le_add_left (by decide) _⟩ | omega))).tr (X_Fr.of n2239 e2240 (by first | decide | exact ⟨Nat.le_add_right _ _, Nat.add_le_add_left (by decide) _⟩ | omega))).tr (X_Fr.mono ⟨hf2248.1, hf2248.2⟩ (fun q hq => (by omega)))⟩
end
section
theorem xr_113_0 : X_row 113 0 = some (0, (.aload_n 0, 1), (0, 0, 0)) := by decide +kernel
theorem xr_113_1 : X_row 113 1 = some (1, (.getfield 12, 3), (10, 0, 48)) := by decide +kernel
theorem xr_113_4 : X_row 113 4 = some (4, (.getfield 76, 3), (7, 1, 1)) := by decide +kernel
theorem xr_113_7 : X_row 113 7 = some (7, (.bipush 20, 2), (0, 0, 0)) := by decide +kernel
theorem xr_113_9 : X_row 113 9 = some (9, (.iadd, 1), (0, 0, 0)) := by decide +kernel
theorem xr_113_10 : X_row 113 10 = some (10, (.sipush 2000, 3), (0, 0, 0)) := by decide +kernel
theorem xr_113_13 : X_row 113 13 = some (13, (.if_icmp .le 5, 3), (0, 0, 0)) := by decide +kernel
theorem xr_113_16 : X_row 113 16 = some (16, (.iconst (-1), 1), (0, 0, 0)) := by decide +kernel
theorem xr_113_17 : X_row 113 17 = some (17, (.ireturn, 1), (0, 0, 0)) := by decide +kernel
theorem xr_113_18 : X_row 113 18 = some (18, (.aload_n 0, 1), (0, 0, 0)) := by decide +kernel
theorem xr_113_19 : X_row 113 19 = some (19, (.getfield 12, 3), (10, 0, 48)) := by decide +kernel
theorem xr_113_22 : X_row 113 22 = some (22, (.iload_n 1, 1), (0, 0, 0)) := by decide +kernel
theorem xr_113_23 : X_row 113 23 = some (23, (.invokevirtual 80, 3), (92, 16, 0)) := by decide +kernel
theorem xr_113_26 : X_row 113 26 = some (26, (.aload_n 0, 1), (0, 0, 0)) := by decide +kernel
theorem xr_113_27 : X_row 113 27 = some (27, (.getfield 12, 3), (10, 0, 48)) := by decide +kernel
theorem xr_113_30 : X_row 113 30 = some (30, (.iload_n 2, 1), (0, 0, 0)) := by decide +kernel
theorem xr_113_31 : X_row 113 31 = some (31, (.invokevirtual 80, 3), (92, 16, 0)) := by decide +kernel
theorem xr_113_34 : X_row 113 34 = some (34, (.aload_n 0, 1), (0, 0, 0)) := by decide +kernel
theorem xr_113_35 : X_row 113 35 = some (35, (.getfield 12, 3), (10, 0, 48)) := by decide +kernel
theorem xr_113_38 : X_row 113 38 = some (38, (.iload_n 3, 1), (0, 0, 0)) := by decide +kernel
theorem xr_113_39 : X_row 113 39 = some (39, (.invokevirtual 80, 3), (92, 16, 0)) := by decide +kernel
theorem xr_113_42 : X_row 113 42 = some (42, (.aload_n 0, 1), (0, 0, 0)) := by decide +kernel
theorem xr_113_43 : X_row 113 43 = some (43, (.getfield 12, 3), (10, 0, 48)) := by decide +kernel
theorem xr_113_46 : X_row 113 46 = some (46, (.iload 4, 2), (0, 0, 0)) := by decide +kernel
theorem xr_113_48 : X_row 113 48 = some (48, (.invokevirtual 80, 3), (92, 16, 0)) := by decide +kernel
theorem xr_113_51 : X_row 113 51 = some (51, (.aload_n 0, 1), (0, 0, 0)) := by decide +kernel
theorem xr_113_52 : X_row 113 52 = some (52, (.getfield 12, 3), (10, 0, 48)) := by decide +kernel
theorem xr_113_55 : X_row 113 55 = some (55, (.iload 5, 2), (0, 0, 0)) := by decide +kernel
theorem xr_113_57 : X_row 113 57 = some (57, (.invokevirtual 80, 3), (92, 16, 0)) := by decide +kernel
theorem xr_113_60 : X_row 113 60 = some (60, (.aload_n 0, 1), (0, 0, 0)) := by decide +kernel
theorem xr_113_61 : X_row 113 61 = some (61, (.getfield 12, 3), (10, 0, 48)) := by decide +kernel
theorem xr_113_64 : X_row 113 64 = some (64, (.getfield 76, 3), (7, 1, 1)) := by decide +kernel
theorem xr_113_67 : X_row 113 67 = some (67, (.ireturn, 1), (0, 0, 0)) := by decide +kernel
theorem xr_114_0 : X_row 114 0 = some (0, (.iload_n 1, 1), (0, 0, 0)) := by decide +kernel
theorem xr_114_1 : X_row 114 1 = some (1, (.ifCond .lt 14, 3), (0, 0, 0)) := by decide +kernel
theorem xr_114_4 : X_row 114 4 = some (4, (.iload_n 1, 1), (0, 0, 0)) := by decide +kernel
theorem xr_114_5 : X_row 114 5 = some (5, (.aload_n 0, 1), (0, 0, 0)) := by decide +kernel
theorem xr_114_6 : X_row 114 6 = some (6, (.getfield 12, 3), (10, 0, 48)) := by decide +kernel
theorem xr_114_9 : X_row 114 9 = some (9, (.getfield 76, 3), (7, 1, 1)) := by decide +kernel
theorem xr_114_12 : X_row 114 12 = some (12, (.if_icmp .le 5, 3), (0, 0, 0)) := by decide +kernel
theorem xr_114_15 : X_row 114 15 = some (15, (.iconst (-1), 1), (0, 0, 0)) := by decide +kernel
theorem xr_114_16 : X_row 114 16 = some (16, (.ireturn, 1), (0, 0, 0)) := by decide +kernel
theorem xr_114_17 : X_row 114 17 = some (17, (.aload_n 0, 1), (0, 0, 0)) := by decide +kernel
theorem xr_114_18 : X_row 114 18 = some (18, (.getfield 12, 3), (10, 0, 48)) := by decide +kernel
theorem xr_114_21 : X_row 114 21 = some (21, (.iload_n 1, 1), (0, 0, 0)) := by decide +kernel
theorem xr_114_22 : X_row 114 22 = some (22, (.putfield 76, 3), (7, 1, 1)) := by decide +kernel
theorem xr_114_25 : X_row 114 25 = some (25, (.iload_n 1, 1), (0, 0, 0)) := by decide +kernel
theorem xr_114_26 : X_row 114 26 = some (26, (.ireturn, 1), (0, 0, 0)) := by decide +kernel
theorem xr_116_0 : X_row 116 0 = some (0, (.iload_n 1, 1), (0, 0, 0)) := by decide +kernel
theorem xr_116_1 : X_row 116 1 = some (1, (.ifCond .ne 11, 3), (0, 0, 0)) := by decide +kernel
theorem xr_116_4 : X_row 116 4 = some (4, (.aload_n 0, 1), (0, 0, 0)) := by decide +kernel
theorem xr_116_5 : X_row 116 5 = some (5, (.getfield 31, 3), (10, 3, 54)) := by decide +kernel
theorem xr_116_8 : X_row 116 8 = some (8, (.getfield 97, 3), (4, 2, 27)) := by decide +kernel
theorem xr_116_11 : X_row 116 11 = some (11, (.ireturn, 1), (0, 0, 0)) := by decide +kernel
theorem xr_116_12 : X_row 116 12 = some (12, (.iload_n 1, 1), (0, 0, 0)) := by decide +kernel
theorem xr_116_13 : X_row 116 13 = some (13, (.iconst 1, 1), (0, 0, 0)) := by decide +kernel
theorem xr_116_14 : X_row 116 14 = some (14, (.if_icmp .ne 13, 3), (0, 0, 0)) := by decide +kernel
theorem xr_116_17 : X_row 116 17 = some (17, (.aload_n 0, 1), (0, 0, 0)) := by decide +kernel
theorem xr_116_18 : X_row 116 18 = some (18, (.getfield 31, 3), (10, 3, 54)) := by decide +kernel
theorem xr_116_21 : X_row 116 21 = some (21, (.getfield 100, 3), (4, 3, 29)) := by decide +kernel
theorem xr_116_24 : X_row 116 24 = some (24, (.goto 4, 3), (0, 0, 0)) := by decide +kernel
theorem xr_116_27 : X_row 116 27 = some (27, (.iconst (-1), 1), (0, 0, 0)) := by decide +kernel
theorem xr_116_28 : X_row 116 28 = some (28, (.ireturn, 1), (0, 0, 0)) := by decide +kernel
theorem xr_117_0 : X_row 117 0 = some (0, (.iload_n 1, 1), (0, 0, 0)) := by decide +kernel
theorem xr_117_1 : X_row 117 1 = some (1, (.tableswitch 87 0 5 #[39, 47, 55, 63, 71, 79], 39), (0, 0, 0)) := by decide +kernel
theorem xr_117_40 : X_row 117 40 = some (40, (.aload_n 0, 1), (0, 0, 0)) := by decide +kernel
theorem xr_117_41 : X_row 117 41 = some (41, (.getfield 19, 3), (10, 1, 50)) := by decide +kernel
theorem xr_117_44 : X_row 117 44 = some (44, (.getfield 103, 3), (0, 0, 19)) := by decide +kernel
theorem xr_117_47 : X_row 117 47 = some (47, (.ireturn, 1), (0, 0, 0)) := by decide +kernel
theorem xr_117_48 : X_row 117 48 = some (48, (.aload_n 0, 1), (0, 0, 0)) := by decide +kernel
theorem xr_117_49 : X_row 117 49 = some (49, (.getfield 19, 3), (10, 1, 50)) := by decide +kernel
theorem xr_117_52 : X_row 117 52 = some (52, (.getfield 106, 3), (0, 1, 21)) := by decide +kernel
theorem xr_117_55 : X_row 117 55 = some (55, (.ireturn, 1), (0, 0, 0)) := by decide +kernel
theorem xr_117_56 : X_row 117 56 = some (56, (.aload_n 0, 1), (0, 0, 0)) := by decide +kernel
theorem xr_117_57 : X_row 117 57 = some (57, (.getfield 19, 3), (10, 1, 50)) := by decide +kernel
theorem xr_117_60 : X_row 117 60 = some (60, (.getfield 94, 3), (0, 2, 23)) := by decide +kernel
theorem xr_117_63 : X_row 117 63 = some (63, (.ireturn, 1), (0, 0, 0)) := by decide +kernel
theorem xr_117_64 : X_row 117 64 = some (64, (.aload_n 0, 1), (0, 0, 0)) := by decide +kernel
theorem xr_117_65 : X_row 117 65 = some (65, (.getfield 38, 3), (10, 4, 56)) := by decide +kernel
theorem xr_117_68 : X_row 117 68 = some (68, (.getfield 88, 3), (6, 0, 31)) := by decide +kernel
theorem xr_117_71 : X_row 117 71 = some (71, (.ireturn, 1), (0, 0, 0)) := by decide +kernel
theorem xr_117_72 : X_row 117 72 = some (72, (.aload_n 0, 1), (0, 0, 0)) := by decide +kernel
theorem xr_117_73 : X_row 117 73 = some (73, (.getfield 45, 3), (10, 5, 58)) := by decide +kernel
theorem xr_117_76 : X_row 117 76 = some (76, (.getfield 109, 3), (5, 0, 33)) := by decide +kernel
theorem xr_117_79 : X_row 117 79 = some (79, (.ireturn, 1), (0, 0, 0)) := by decide +kernel
theorem xr_117_80 : X_row 117 80 = some (80, (.aload_n 0, 1), (0, 0, 0)) := by decide +kernel
theorem xr_117_81 : X_row 117 81 = some (81, (.getfield 12, 3), (10, 0, 48)) := by decide +kernel
theorem xr_117_84 : X_row 117 84 = some (84, (.getfield 76, 3), (7, 1, 1)) := by decide +kernel
theorem xr_117_87 : X_row 117 87 = some (87, (.ireturn, 1), (0, 0, 0)) := by decide +kernel
theorem xr_117_88 : X_row 117 88 = some (88, (.iconst (-1), 1), (0, 0, 0)) := by decide +kernel
theorem xr_117_89 : X_row 117 89 = some (89, (.ireturn, 1), (0, 0, 0)) := by decide +kernel
theorem xr_118_0 : X_row 118 0 = some (0, (.aload_n 0, 1), (0, 0, 0)) := by decide +kernel
theorem xr_118_1 : X_row 118 1 = some (1, (.getfield 19, 3), (10, 1, 50)) := by decide +kernel
theorem xr_118_4 : X_row 118 4 = some (4, (.iload_n 1, 1), (0, 0, 0)) := by decide +kernel
theorem xr_118_5 : X_row 118 5 = some (5, (.invokevirtual 110, 3), (4, 28, 0)) := by decide +kernel
theorem xr_118_8 : X_row 118 8 = some (8, (.ifCond .ne 5, 3), (0, 0, 0)) := by decide +kernel
theorem xr_118_11 : X_row 118 11 = some (11, (.iconst (-1), 1), (0, 0, 0)) := by decide +kernel
theorem xr_118_12 : X_row 118 12 = some (12, (.ireturn, 1), (0, 0, 0)) := by decide +kernel
theorem xr_118_13 : X_row 118 13 = some (13, (.aload_n 0, 1), (0, 0, 0)) := by decide +kernel
theorem xr_118_14 : X_row 118 14 = some (14, (.getfield 19, 3), (10, 1, 50)) := by decide +kernel
theorem xr_118_17 : X_row 118 17 = some (17, (.getfield 114, 3), (0, 7, 25)) := by decide +kernel
theorem xr_118_20 : X_row 118 20 = some (20, (.iload_n 1, 1), (0, 0, 0)) := by decide +kernel
theorem xr_118_21 : X_row 118 21 = some (21, (.aaload, 1), (0, 0, 0)) := by decide +kernel
theorem xr_118_22 : X_row 118 22 = some (22, (.astore_n 3, 1), (0, 0, 0)) := by decide +kernel
theorem xr_118_23 : X_row 118 23 = some (23, (.iload_n 2, 1), (0, 0, 0)) := by decide +kernel
theorem xr_118_24 : X_row 118 24 = some (24, (.tableswitch 79 0 6 #[44, 49, 54, 59, 64, 69, 74], 44), (0, 0, 0)) := by decide +kernel
theorem xr_118_68 : X_row 118 68 = some (68, (.aload_n 3, 1), (0, 0, 0)) := by decide +kernel
theorem xr_118_69 : X_row 118 69 = some (69, (.getfield 118, 3), (8, 0, 3)) := by decide +kernel
theorem xr_118_72 : X_row 118 72 = some (72, (.ireturn, 1), (0, 0, 0)) := by decide +kernel
theorem xr_118_73 : X_row 118 73 = some (73, (.aload_n 3, 1), (0, 0, 0)) := by decide +kernel
theorem xr_118_74 : X_row 118 74 = some (74, (.getfield 123, 3), (8, 1, 5)) := by decide +kernel
theorem xr_118_77 : X_row 118 77 = some (77, (.ireturn, 1), (0, 0, 0)) := by decide +kernel
theorem xr_118_78 : X_row 118 78 = some (78, (.aload_n 3, 1), (0, 0, 0)) := by decide +kernel
theorem xr_118_79 : X_row 118 79 = some (79, (.getfield 126, 3), (8, 2, 7)) := by decide +kernel
theorem xr_118_82 : X_row 118 82 = some (82, (.ireturn, 1), (0, 0, 0)) := by decide +kernel
theorem xr_118_83 : X_row 118 83 = some (83, (.aload_n 3, 1), (0, 0, 0)) := by decide +kernel
theorem xr_118_84 : X_row 118 84 = some (84, (.getfield 129, 3), (8, 3, 9)) := by decide +kernel
theorem xr_118_87 : X_row 118 87 = some (87, (.ireturn, 1), (0, 0, 0)) := by decide +kernel
theorem xr_118_88 : X_row 118 88 = some (88, (.aload_n 3, 1), (0, 0, 0)) := by decide +kernel
theorem xr_118_89 : X_row 118 89 = some (89, (.getfield 132, 3), (8, 4, 11)) := by decide +kernel
theorem xr_118_92 : X_row 118 92 = some (92, (.ireturn, 1), (0, 0, 0)) := by decide +kernel
theorem xr_118_93 : X_row 118 93 = some (93, (.aload_n 3, 1), (0, 0, 0)) := by decide +kernel
theorem xr_118_94 : X_row 118 94 = some (94, (.invokevirtual 135, 3), (101, 30, 0)) := by decide +kernel
theorem xr_118_97 : X_row 118 97 = some (97, (.ireturn, 1), (0, 0, 0)) := by decide +kernel
theorem xr_118_98 : X_row 118 98 = some (98, (.aload_n 3, 1), (0, 0, 0)) := by decide +kernel
theorem xr_118_99 : X_row 118 99 = some (99, (.getfield 139, 3), (8, 5, 13)) := by decide +kernel
theorem xr_118_102 : X_row 118 102 = some (102, (.ireturn, 1), (0, 0, 0)) := by decide +kernel
theorem xr_118_103 : X_row 118 103 = some (103, (.iconst (-1), 1), (0, 0, 0)) := by decide +kernel
theorem xr_118_104 : X_row 118 104 = some (104, (.ireturn, 1), (0, 0, 0)) := by decide +kernel
theorem xr_119_0 : X_row 119 0 = some (0, (.aload_n 0, 1), (0, 0, 0)) := by decide +kernel
theorem xr_119_1 : X_row 119 1 = some (1, (.getfield 19, 3), (10, 1, 50)) := by decide +kernel
theorem xr_119_4 : X_row 119 4 = some (4, (.iload_n 1, 1), (0, 0, 0)) := by decide +kernel
theorem xr_119_5 : X_row 119 5 = some (5, (.invokevirtual 142, 3), (2, 32, 0)) := by decide +kernel
theorem xr_119_8 : X_row 119 8 = some (8, (.ifCond .eq 14, 3), (0, 0, 0)) := by decide +kernel
theorem xr_119_11 : X_row 119 11 = some (11, (.aload_n 0, 1), (0, 0, 0)) := by decide +kernel
theorem xr_119_12 : X_row 119 12 = some (12, (.getfield 19, 3), (10, 1, 50)) := by decide +kernel
theorem xr_119_15 : X_row 119 15 = some (15, (.iload_n 2, 1), (0, 0, 0)) := by decide +kernel
theorem xr_119_16 : X_row 119 16 = some (16, (.invokevirtual 142, 3), (2, 32, 0)) := by decide +kernel
theorem xr_119_19 : X_row 119 19 = some (19, (.ifCond .ne 5, 3), (0, 0, 0)) := by decide +kernel
theorem xr_119_22 : X_row 119 22 = some (22, (.iconst (-1), 1), (0, 0, 0)) := by decide +kernel
theorem xr_119_23 : X_row 119 23 = some (23, (.ireturn, 1), (0, 0, 0)) := by decide +kernel
theorem xr_119_24 : X_row 119 24 = some (24, (.aload_n 0, 1), (0, 0, 0)) := by decide +kernel
theorem xr_119_25 : X_row 119 25 = some (25, (.getfield 19, 3), (10, 1, 50)) := by decide +kernel
theorem xr_119_28 : X_row 119 28 = some (28, (.iload_n 1, 1), (0, 0, 0)) := by decide +kernel
theorem xr_119_29 : X_row 119 29 = some (29, (.iload_n 2, 1), (0, 0, 0)) := by decide +kernel
theorem xr_119_30 : X_row 119 30 = some (30, (.invokevirtual 145, 3), (11, 34, 0)) := by decide +kernel
theorem xr_119_33 : X_row 119 33 = some (33, (.ifCond .eq 7, 3), (0, 0, 0)) := by decide +kernel
theorem xr_119_36 : X_row 119 36 = some (36, (.iconst 1, 1), (0, 0, 0)) := by decide +kernel
theorem xr_119_37 : X_row 119 37 = some (37, (.goto 4, 3), (0, 0, 0)) := by decide +kernel
theorem xr_119_40 : X_row 119 40 = some (40, (.iconst 0, 1), (0, 0, 0)) := by decide +kernel
theorem xr_119_41 : X_row 119 41 = some (41, (.ireturn, 1), (0, 0, 0)) := by decide +kernel
theorem xr_120_0 : X_row 120 0 = some (0, (.aload_n 0, 1), (0, 0, 0)) := by decide +kernel
theorem xr_120_1 : X_row 120 1 = some (1, (.getfield 19, 3), (10, 1, 50)) := by decide +kernel
theorem xr_120_4 : X_row 120 4 = some (4, (.iload_n 1, 1), (0, 0, 0)) := by decide +kernel
theorem xr_120_5 : X_row 120 5 = some (5, (.invokevirtual 149, 3), (3, 36, 0)) := by decide +kernel
theorem xr_120_8 : X_row 120 8 = some (8, (.ifCond .eq 14, 3), (0, 0, 0)) := by decide +kernel
theorem xr_120_11 : X_row 120 11 = some (11, (.aload_n 0, 1), (0, 0, 0)) := by decide +kernel
theorem xr_120_12 : X_row 120 12 = some (12, (.getfield 19, 3), (10, 1, 50)) := by decide +kernel
theorem xr_120_15 : X_row 120 15 = some (15, (.iload_n 2, 1), (0, 0, 0)) := by decide +kernel
theorem xr_120_16 : X_row 120 16 = some (16, (.invokevirtual 149, 3), (3, 36, 0)) := by decide +kernel
theorem xr_120_19 : X_row 120 19 = some (19, (.ifCond .ne 5, 3), (0, 0, 0)) := by decide +kernel
theorem xr_120_22 : X_row 120 22 = some (22, (.iconst (-1), 1), (0, 0, 0)) := by decide +kernel
theorem xr_120_23 : X_row 120 23 = some (23, (.ireturn, 1), (0, 0, 0)) := by decide +kernel
theorem xr_120_24 : X_row 120 24 = some (24, (.aload_n 0, 1), (0, 0, 0)) := by decide +kernel
theorem xr_120_25 : X_row 120 25 = some (25, (.getfield 19, 3), (10, 1, 50)) := by decide +kernel
theorem xr_120_28 : X_row 120 28 = some (28, (.iload_n 1, 1), (0, 0, 0)) := by decide +kernel
theorem xr_120_29 : X_row 120 29 = some (29, (.iload_n 2, 1), (0, 0, 0)) := by decide +kernel
theorem xr_120_30 : X_row 120 30 = some (30, (.invokevirtual 152, 3), (12, 38, 0)) := by decide +kernel
theorem xr_120_33 : X_row 120 33 = some (33, (.ifCond .eq 7, 3), (0, 0, 0)) := by decide +kernel
theorem xr_120_36 : X_row 120 36 = some (36, (.iconst 1, 1), (0, 0, 0)) := by decide +kernel
theorem xr_120_37 : X_row 120 37 = some (37, (.goto 4, 3), (0, 0, 0)) := by decide +kernel
theorem xr_120_40 : X_row 120 40 = some (40, (.iconst 0, 1), (0, 0, 0)) := by decide +kernel
theorem xr_120_41 : X_row 120 41 = some (41, (.ireturn, 1), (0, 0, 0)) := by decide +kernel
theorem xr_125_0 : X_row 125 0 = some (0, (.iload_n 1, 1), (0, 0, 0)) := by decide +kernel
theorem xr_125_1 : X_row 125 1 = some (1, (.ifCond .lt 14, 3), (0, 0, 0)) := by decide +kernel
theorem xr_125_4 : X_row 125 4 = some (4, (.iload_n 1, 1), (0, 0, 0)) := by decide +kernel
theorem xr_125_5 : X_row 125 5 = some (5, (.aload_n 0, 1), (0, 0, 0)) := by decide +kernel
theorem xr_125_6 : X_row 125 6 = some (6, (.getfield 45, 3), (10, 5, 58)) := by decide +kernel
theorem xr_125_9 : X_row 125 9 = some (9, (.getfield 109, 3), (5, 0, 33)) := by decide +kernel
theorem xr_125_12 : X_row 125 12 = some (12, (.if_icmp .lt 5, 3), (0, 0, 0)) := by decide +kernel
theorem xr_125_15 : X_row 125 15 = some (15, (.iconst (-1), 1), (0, 0, 0)) := by decide +kernel
theorem xr_125_16 : X_row 125 16 = some (16, (.ireturn, 1), (0, 0, 0)) := by decide +kernel
theorem xr_125_17 : X_row 125 17 = some (17, (.iload_n 2, 1), (0, 0, 0)) := by decide +kernel
theorem xr_125_18 : X_row 125 18 = some (18, (.tableswitch 84 0 4 #[34, 44, 54, 64, 74], 34), (0, 0, 0)) := by decide +kernel
theorem xr_125_52 : X_row 125 52 = some (52, (.aload_n 0, 1), (0, 0, 0)) := by decide +kernel
theorem xr_125_53 : X_row 125 53 = some (53, (.getfield 45, 3), (10, 5, 58)) := by decide +kernel
theorem xr_125_56 : X_row 125 56 = some (56, (.getfield 175, 3), (5, 1, 35)) := by decide +kernel
theorem xr_125_59 : X_row 125 59 = some (59, (.iload_n 1, 1), (0, 0, 0)) := by decide +kernel
theorem xr_125_60 : X_row 125 60 = some (60, (.iaload, 1), (0, 0, 0)) := by decide +kernel
theorem xr_125_61 : X_row 125 61 = some (61, (.ireturn, 1), (0, 0, 0)) := by decide +kernel
theorem xr_125_62 : X_row 125 62 = some (62, (.aload_n 0, 1), (0, 0, 0)) := by decide +kernel
theorem xr_125_63 : X_row 125 63 = some (63, (.getfield 45, 3), (10, 5, 58)) := by decide +kernel
theorem xr_125_66 : X_row 125 66 = some (66, (.getfield 179, 3), (5, 2, 37)) := by decide +kernel
theorem xr_125_69 : X_row 125 69 = some (69, (.iload_n 1, 1), (0, 0, 0)) := by decide +kernel
theorem xr_125_70 : X_row 125 70 = some (70, (.iaload, 1), (0, 0, 0)) := by decide +kernel
theorem xr_125_71 : X_row 125 71 = some (71, (.ireturn, 1), (0, 0, 0)) := by decide +kernel
theorem xr_125_72 : X_row 125 72 = some (72, (.aload_n 0, 1), (0, 0, 0)) := by decide +kernel
theorem xr_125_73 : X_row 125 73 = some (73, (.getfield 45, 3), (10, 5, 58)) := by decide +kernel
theorem xr_125_76 : X_row 125 76 = some (76, (.getfield 182, 3), (5, 3, 39)) := by decide +kernel
theorem xr_125_79 : X_row 125 79 = some (79, (.iload_n 1, 1), (0, 0, 0)) := by decide +kernel
theorem xr_125_80 : X_row 125 80 = some (80, (.iaload, 1), (0, 0, 0)) := by decide +kernel
theorem xr_125_81 : X_row 125 81 = some (81, (.ireturn, 1), (0, 0, 0)) := by decide +kernel
theorem xr_125_82 : X_row 125 82 = some (82, (.aload_n 0, 1), (0, 0, 0)) := by decide +kernel
theorem xr_125_83 : X_row 125 83 = some (83, (.getfield 45, 3), (10, 5, 58)) := by decide +kernel
theorem xr_125_86 : X_row 125 86 = some (86, (.getfield 184, 3), (5, 4, 41)) := by decide +kernel
theorem xr_125_89 : X_row 125 89 = some (89, (.iload_n 1, 1), (0, 0, 0)) := by decide +kernel
theorem xr_125_90 : X_row 125 90 = some (90, (.iaload, 1), (0, 0, 0)) := by decide +kernel
theorem xr_125_91 : X_row 125 91 = some (91, (.ireturn, 1), (0, 0, 0)) := by decide +kernel
theorem xr_125_92 : X_row 125 92 = some (92, (.aload_n 0, 1), (0, 0, 0)) := by decide +kernel
theorem xr_125_93 : X_row 125 93 = some (93, (.getfield 45, 3), (10, 5, 58)) := by decide +kernel
theorem xr_125_96 : X_row 125 96 = some (96, (.getfield 187, 3), (5, 5, 43)) := by decide +kernel
theorem xr_125_99 : X_row 125 99 = some (99, (.iload_n 1, 1), (0, 0, 0)) := by decide +kernel
theorem xr_125_100 : X_row 125 100 = some (100, (.iaload, 1), (0, 0, 0)) := by decide +kernel
theorem xr_125_101 : X_row 125 101 = some (101, (.ireturn, 1), (0, 0, 0)) := by decide +kernel
theorem xr_125_102 : X_row 125 102 = some (102, (.iconst (-1), 1), (0, 0, 0)) := by decide +kernel
theorem xr_125_103 : X_row 125 103 = some (103, (.ireturn, 1), (0, 0, 0)) := by decide +kernel
theorem xr_128_0 : X_row 128 0 = some (0, (.iload_n 1, 1), (0, 0, 0)) := by decide +kernel
theorem xr_128_1 : X_row 128 1 = some (1, (.ifCond .ne 11, 3), (0, 0, 0)) := by decide +kernel
theorem xr_128_4 : X_row 128 4 = some (4, (.aload_n 0, 1), (0, 0, 0)) := by decide +kernel
theorem xr_128_5 : X_row 128 5 = some (5, (.getfield 72, 3), (10, 8, 64)) := by decide +kernel
theorem xr_128_8 : X_row 128 8 = some (8, (.getfield 201, 3), (9, 2, 45)) := by decide +kernel
theorem xr_128_11 : X_row 128 11 = some (11, (.ireturn, 1), (0, 0, 0)) := by decide +kernel
theorem xr_128_12 : X_row 128 12 = some (12, (.iload_n 1, 1), (0, 0, 0)) := by decide +kernel
theorem xr_128_13 : X_row 128 13 = some (13, (.iconst 1, 1), (0, 0, 0)) := by decide +kernel
theorem xr_128_14 : X_row 128 14 = some (14, (.if_icmp .ne 13, 3), (0, 0, 0)) := by decide +kernel
theorem xr_128_17 : X_row 128 17 = some (17, (.aload_n 0, 1), (0, 0, 0)) := by decide +kernel
theorem xr_128_18 : X_row 128 18 = some (18, (.getfield 72, 3), (10, 8, 64)) := by decide +kernel
theorem xr_128_21 : X_row 128 21 = some (21, (.getfield 204, 3), (9, 3, 47)) := by decide +kernel
theorem xr_128_24 : X_row 128 24 = some (24, (.goto 4, 3), (0, 0, 0)) := by decide +kernel
theorem xr_128_27 : X_row 128 27 = some (27, (.iconst (-1), 1), (0, 0, 0)) := by decide +kernel
theorem xr_128_28 : X_row 128 28 = some (28, (.ireturn, 1), (0, 0, 0)) := by decide +kernel
theorem xr_129_0 : X_row 129 0 = some (0, (.iconst 0, 1), (0, 0, 0)) := by decide +kernel
theorem xr_129_1 : X_row 129 1 = some (1, (.istore_n 1, 1), (0, 0, 0)) := by decide +kernel
theorem xr_129_2 : X_row 129 2 = some (2, (.iload_n 1, 1), (0, 0, 0)) := by decide +kernel
theorem xr_129_3 : X_row 129 3 = some (3, (.aload_n 0, 1), (0, 0, 0)) := by decide +kernel
theorem xr_129_4 : X_row 129 4 = some (4, (.getfield 19, 3), (10, 1, 50)) := by decide +kernel
theorem xr_129_7 : X_row 129 7 = some (7, (.getfield 94, 3), (0, 2, 23)) := by decide +kernel
theorem xr_129_10 : X_row 129 10 = some (10, (.if_icmp .ge 47, 3), (0, 0, 0)) := by decide +kernel
theorem xr_129_13 : X_row 129 13 = some (13, (.iload_n 1, 1), (0, 0, 0)) := by decide +kernel
theorem xr_129_14 : X_row 129 14 = some (14, (.istore_n 2, 1), (0, 0, 0)) := by decide +kernel
theorem xr_129_15 : X_row 129 15 = some (15, (.iload_n 2, 1), (0, 0, 0)) := by decide +kernel
theorem xr_129_16 : X_row 129 16 = some (16, (.aload_n 0, 1), (0, 0, 0)) := by decide +kernel
theorem xr_129_17 : X_row 129 17 = some (17, (.getfield 19, 3), (10, 1, 50)) := by decide +kernel
theorem xr_129_20 : X_row 129 20 = some (20, (.getfield 94, 3), (0, 2, 23)) := by decide +kernel
theorem xr_129_23 : X_row 129 23 = some (23, (.if_icmp .ge 28, 3), (0, 0, 0)) := by decide +kernel
theorem xr_129_26 : X_row 129 26 = some (26, (.aload_n 0, 1), (0, 0, 0)) := by decide +kernel
theorem xr_129_27 : X_row 129 27 = some (27, (.getfield 19, 3), (10, 1, 50)) := by decide +kernel
theorem xr_129_30 : X_row 129 30 = some (30, (.iload_n 1, 1), (0, 0, 0)) := by decide +kernel
theorem xr_129_31 : X_row 129 31 = some (31, (.iload_n 2, 1), (0, 0, 0)) := by decide +kernel
theorem xr_129_32 : X_row 129 32 = some (32, (.invokevirtual 207, 3), (18, 50, 0)) := by decide +kernel
theorem xr_129_35 : X_row 129 35 = some (35, (.ifCond .eq 10, 3), (0, 0, 0)) := by decide +kernel
theorem xr_129_38 : X_row 129 38 = some (38, (.bipush 100, 2), (0, 0, 0)) := by decide +kernel
theorem xr_129_40 : X_row 129 40 = some (40, (.iload_n 1, 1), (0, 0, 0)) := by decide +kernel
theorem xr_129_41 : X_row 129 41 = some (41, (.imul, 1), (0, 0, 0)) := by decide +kernel
theorem xr_129_42 : X_row 129 42 = some (42, (.iload_n 2, 1), (0, 0, 0)) := by decide +kernel
theorem xr_129_43 : X_row 129 43 = some (43, (.iadd, 1), (0, 0, 0)) := by decide +kernel
theorem xr_129_44 : X_row 129 44 = some (44, (.ireturn, 1), (0, 0, 0)) := by decide +kernel
theorem xr_129_45 : X_row 129 45 = some (45, (.iinc 2 1, 3), (0, 0, 0)) := by decide +kernel
theorem xr_129_48 : X_row 129 48 = some (48, (.goto (-33), 3), (0, 0, 0)) := by decide +kernel
theorem xr_129_51 : X_row 129 51 = some (51, (.iinc 1 1, 3), (0, 0, 0)) := by decide +kernel
theorem xr_129_54 : X_row 129 54 = some (54, (.goto (-52), 3), (0, 0, 0)) := by decide +kernel
theorem xr_129_57 : X_row 129 57 = some (57, (.iconst (-1), 1), (0, 0, 0)) := by decide +kernel
theorem xr_129_58 : X_row 129 58 = some (58, (.ireturn, 1), (0, 0, 0)) := by decide +kernel
theorem xn_113 : X_nL 113 = 6 := by decide +kernel
theorem xf_113 : X_na 113 = 5 ∧ X_ci 113 = 10 ∧ X_rt 113 = (some .int) := by decide +kernel
theorem xn_114 : X_nL 114 = 2 := by decide +kernel
theorem xf_114 : X_na 114 = 1 ∧ X_ci 114 = 10 ∧ X_rt 114 = (some .int) := by decide +kernel
theorem xn_116 : X_nL 116 = 2 := by decide +kernel
theorem xf_116 : X_na 116 = 1 ∧ X_ci 116 = 10 ∧ X_rt 116 = (some .int) := by decide +kernel
theorem xn_117 : X_nL 117 = 2 := by decide +kernel
theorem xf_117 : X_na 117 = 1 ∧ X_ci 117 = 10 ∧ X_rt 117 = (some .int) := by decide +kernel
theorem xn_118 : X_nL 118 = 4 := by decide +kernel
theorem xf_118 : X_na 118 = 2 ∧ X_ci 118 = 10 ∧ X_rt 118 = (some .int) := by decide +kernel
theorem xn_119 : X_nL 119 = 3 := by decide +kernel
theorem xf_119 : X_na 119 = 2 ∧ X_ci 119 = 10 ∧ X_rt 119 = (some .int) := by decide +kernel
theorem xn_120 : X_nL 120 = 3 := by decide +kernel
theorem xf_120 : X_na 120 = 2 ∧ X_ci 120 = 10 ∧ X_rt 120 = (some .int) := by decide +kernel
theorem xn_125 : X_nL 125 = 3 := by decide +kernel
theorem xf_125 : X_na 125 = 2 ∧ X_ci 125 = 10 ∧ X_rt 125 = (some .int) := by decide +kernel
theorem xn_128 : X_nL 128 = 2 := by decide +kernel
theorem xf_128 : X_na 128 = 1 ∧ X_ci 128 = 10 ∧ X_rt 128 = (some .int) := by decide +kernel
theorem xn_129 : X_nL 129 = 3 := by decide +kernel
theorem xf_129 : X_na 129 = 0 ∧ X_ci 129 = 10 ∧ X_rt 129 = (some .int) := by decide +kernel
theorem c_feed (sc : X_Sc) (S : X_S) (tb : Int → Int) (len : Int) (B2 : Nat) (B : Nat) (a : Int) (b : Int) (c : Int) (d : Int) (e : Int) (hO1 : S.1 1 = .inr (10, [.ref 2, .ref B, .ref B2, .ref 496, .ref 501, .ref 504, .ref 511, .ref 517, .ref 527])) (hO2 : S.1 2 = .inr (7, [.ref 3, .int (iI len)])) (hA3 : S.1 3 = .inl (.byte, 2000, .inl fun k : Nat => iI (tb (k : Int)))) (hl : 0 ≤ len ∧ len ≤ 2000) : X_T sc 113 (0, [(0, .ref 1), (1, .int (iI a)), (2, .int (iI b)), (3, .int (iI c)), (4, .int (iI d)), (5, .int (iI e))], [], S) (fun v S' => (v = some (.int (iI (-1))) ∧ 2000 < len + 20 ∧ S' = S) ∨ (v = some (.int (iI (len + 20))) ∧ len + 20 ≤ 2000 ∧ S'.1 2 = .inr (7, [.ref 3, .int (iI (len + 20))]) ∧ S'.1 3 = .inl (.byte, 2000, .inl fun k : Nat => iI ((X_fd5 tb len a b c d e) (k : Int))) ∧ (X_Fr (fun q => q = 3 ∨ q = 2) S S'))) := by
  refine X_QI (fun Q hQ => ?_)
  refine T_p xr_113_0 xn_113 (pc' := 1) (ls' := [(0, .ref 1), (1, .int (iI a)), (2, .int (iI b)), (3, .int (iI c)), (4, .int (iI d)), (5, .int (iI e))]) (st' := [.ref 1]) rfl ?_
  refine T_get xr_113_1 hO1 rfl (v := .ref 2) rfl (pc' := 4) rfl ?_
  refine T_get xr_113_4 hO2 rfl (v := .int (iI len)) rfl (pc' := 7) rfl ?_
  refine T_p xr_113_7 xn_113 (pc' := 9) (ls' := [(0, .ref 1), (1, .int (iI a)), (2, .int (iI b)), (3, .int (iI c)), (4, .int (iI d)), (5, .int (iI e))]) (st' := [.int (iI 20), .int (iI len)]) rfl ?_
  refine T_ziadd xr_113_9 (z := len + 20) rfl (pc' := 10) rfl ?_
  refine T_p xr_113_10 xn_113 (pc' := 13) (ls' := [(0, .ref 1), (1, .int (iI a)), (2, .int (iI b)), (3, .int (iI c)), (4, .int (iI d)), (5, .int (iI e))]) (st' := [.int (iI 2000), .int (iI (len + 20))]) rfl ?_
  refine T_zicmp_le xr_113_13 (t := 18) (pc' := 16) rfl rfl (fun c2251 => ?_) (fun c2251 => ?_)
  · skip
    have c2251 : (len + 20) ≤ 2000 := c2251
    refine T_p xr_113_18 xn_113 (pc' := 19) (ls' := [(0, .ref 1), (1, .int (iI a)), (2, .int (iI b)), (3, .int (iI c)), (4, .int (iI d)), (5, .int (iI e))]) (st' := [.ref 1]) rfl ?_
    refine T_get xr_113_19 hO1 rfl (v := .ref 2) rfl (pc' := 22) rfl ?_
    refine T_p xr_113_22 xn_113 (pc' := 23) (ls' := [(0, .ref 1), (1, .int (iI a)), (2, .int (iI b)), (3, .int (iI c)), (4, .int (iI d)), (5, .int (iI e))]) (st' := [.int (iI a), .ref 2]) rfl ?_
    refine T_cv (S := S) (q := 2) xr_113_23 xf_92.1 xf_92.2.1 xn_92 (as := [.int (iI a)]) (r := []) rfl hO2 (Nat.le_of_ble_eq_true rfl) (Nat.le_of_ble_eq_true rfl) (pc' := 26) rfl (ls' := [(0, .ref 2), (1, .int (iI a))]) rfl ?_
    refine T_mono (c_append sc S len a tb hO2 hA3 (by omega)) (fun v2252 S2253 h2254 => ?_)
    obtain ⟨hv2255, h2256, h2257, hf2258⟩ := h2254
    rw [hv2255]
    have h2259 : S2253.1 2 = .inr (7, [.ref 3, .int (iI (len + 4))]) := by rw [h2256, show len + 4 = len + 4 by omega]
    show X_T sc 113 (26, [(0, .ref 1), (1, .int (iI a)), (2, .int (iI b)), (3, .int (iI c)), (4, .int (iI d)), (5, .int (iI e))], [], S2253) _
    refine T_p xr_113_26 xn_113 (pc' := 27) (ls' := [(0, .ref 1), (1, .int (iI a)), (2, .int (iI b)), (3, .int (iI c)), (4, .int (iI d)), (5, .int (iI e))]) (st' := [.ref 1]) rfl ?_
    have h2260 := (hf2258.1 1 (by first | decide | omega)).trans (hO1)
    refine T_get xr_113_27 h2260 rfl (v := .ref 2) rfl (pc' := 30) rfl ?_
    refine T_p xr_113_30 xn_113 (pc' := 31) (ls' := [(0, .ref 1), (1, .int (iI a)), (2, .int (iI b)), (3, .int (iI c)), (4, .int (iI d)), (5, .int (iI e))]) (st' := [.int (iI b), .ref 2]) rfl ?_
    refine T_cv (S := S2253) (q := 2) xr_113_31 xf_92.1 xf_92.2.1 xn_92 (as := [.int (iI b)]) (r := []) rfl h2259 (Nat.le_of_ble_eq_true rfl) (Nat.le_of_ble_eq_true rfl) (pc' := 34) rfl (ls' := [(0, .ref 2), (1, .int (iI b))]) rfl ?_
    refine T_mono (c_append sc S2253 (len + 4) b (X_ap4 tb len a) h2259 h2257 (by omega)) (fun v2261 S2262 h2263 => ?_)
    obtain ⟨hv2264, h2265, h2266, hf2267⟩ := h2263
    rw [hv2264]
    have h2268 : S2262.1 2 = .inr (7, [.ref 3, .int (iI (len + 8))]) := by rw [h2265, show len + 4 + 4 = len + 8 by omega]
    show X_T sc 113 (34, [(0, .ref 1), (1, .int (iI a)), (2, .int (iI b)), (3, .int (iI c)), (4, .int (iI d)), (5, .int (iI e))], [], S2262) _
    refine T_p xr_113_34 xn_113 (pc' := 35) (ls' := [(0, .ref 1), (1, .int (iI a)), (2, .int (iI b)), (3, .int (iI c)), (4, .int (iI d)), (5, .int (iI e))]) (st' := [.ref 1]) rfl ?_
    have h2269 := (hf2267.1 1 (by first | decide | omega)).trans (h2260)
    refine T_get xr_113_35 h2269 rfl (v := .ref 2) rfl (pc' := 38) rfl ?_
    refine T_p xr_113_38 xn_113 (pc' := 39) (ls' := [(0, .ref 1), (1, .int (iI a)), (2, .int (iI b)), (3, .int (iI c)), (4, .int (iI d)), (5, .int (iI e))]) (st' := [.int (iI c), .ref 2]) rfl ?_
    refine T_cv (S := S2262) (q := 2) xr_113_39 xf_92.1 xf_92.2.1 xn_92 (as := [.int (iI c)]) (r := []) rfl h2268 (Nat.le_of_ble_eq_true rfl) (Nat.le_of_ble_eq_true rfl) (pc' := 42) rfl (ls' := [(0, .ref 2), (1, .int (iI c))]) rfl ?_
    refine T_mono (c_append sc S2262 (len + 8) c (X_ap4 (X_ap4 tb len a) (len + 4) b) h2268 h2266 (by omega)) (fun v2270 S2271 h2272 => ?_)
    obtain ⟨hv2273, h2274, h2275, hf2276⟩ := h2272
    rw [hv2273]
    have h2277 : S2271.1 2 = .inr (7, [.ref 3, .int (iI (len + 12))]) := by rw [h2274, show len + 8 + 4 = len + 12 by omega]
    show X_T sc 113 (42, [(0, .ref 1), (1, .int (iI a)), (2, .int (iI b)), (3, .int (iI c)), (4, .int (iI d)), (5, .int (iI e))], [], S2271) _
    refine T_p xr_113_42 xn_113 (pc' := 43) (ls' := [(0, .ref 1), (1, .int (iI a)), (2, .int (iI b)), (3, .int (iI c)), (4, .int (iI d)), (5, .int (iI e))]) (st' := [.ref 1]) rfl ?_
    have h2278 := (hf2276.1 1 (by first | decide | omega)).trans (h2269)
    refine T_get xr_113_43 h2278 rfl (v := .ref 2) rfl (pc' := 46) rfl ?_
    refine T_p xr_113_46 xn_113 (pc' := 48) (ls' := [(0, .ref 1), (1, .int (iI a)), (2, .int (iI b)), (3, .int (iI c)), (4, .int (iI d)), (5, .int (iI e))]) (st' := [.int (iI d), .ref 2]) rfl ?_
    refine T_cv (S := S2271) (q := 2) xr_113_48 xf_92.1 xf_92.2.1 xn_92 (as := [.int (iI d)]) (r := []) rfl h2277 (Nat.le_of_ble_eq_true rfl) (Nat.le_of_ble_eq_true rfl) (pc' := 51) rfl (ls' := [(0, .ref 2), (1, .int (iI d))]) rfl ?_
    refine T_mono (c_append sc S2271 (len + 12) d (X_ap4 (X_ap4 (X_ap4 tb len a) (len + 4) b) (len + 8) c) h2277 h2275 (by omega)) (fun v2279 S2280 h2281 => ?_)
    obtain ⟨hv2282, h2283, h2284, hf2285⟩ := h2281
    rw [hv2282]
    have h2286 : S2280.1 2 = .inr (7, [.ref 3, .int (iI (len + 16))]) := by rw [h2283, show len + 12 + 4 = len + 16 by omega]
    show X_T sc 113 (51, [(0, .ref 1), (1, .int (iI a)), (2, .int (iI b)), (3, .int (iI c)), (4, .int (iI d)), (5, .int (iI e))], [], S2280) _
    refine T_p xr_113_51 xn_113 (pc' := 52) (ls' := [(0, .ref 1), (1, .int (iI a)), (2, .int (iI b)), (3, .int (iI c)), (4, .int (iI d)), (5, .int (iI e))]) (st' := [.ref 1]) rfl ?_
    have h2287 := (hf2285.1 1 (by first | decide | omega)).trans (h2278)
    refine T_get xr_113_52 h2287 rfl (v := .ref 2) rfl (pc' := 55) rfl ?_
    refine T_p xr_113_55 xn_113 (pc' := 57) (ls' := [(0, .ref 1), (1, .int (iI a)), (2, .int (iI b)), (3, .int (iI c)), (4, .int (iI d)), (5, .int (iI e))]) (st' := [.int (iI e), .ref 2]) rfl ?_
    refine T_cv (S := S2280) (q := 2) xr_113_57 xf_92.1 xf_92.2.1 xn_92 (as := [.int (iI e)]) (r := []) rfl h2286 (Nat.le_of_ble_eq_true rfl) (Nat.le_of_ble_eq_true rfl) (pc' := 60) rfl (ls' := [(0, .ref 2), (1, .int (iI e))]) rfl ?_
    refine T_mono (c_append sc S2280 (len + 16) e (X_ap4 (X_ap4 (X_ap4 (X_ap4 tb len a) (len + 4) b) (len + 8) c) (len + 12) d) h2286 h2284 (by omega)) (fun v2288 S2289 h2290 => ?_)
    obtain ⟨hv2291, h2292, h2293, hf2294⟩ := h2290
    rw [hv2291]
    have h2295 : S2289.1 2 = .inr (7, [.ref 3, .int (iI (len + 20))]) := by rw [h2292, show len + 16 + 4 = len + 20 by omega]
    show X_T sc 113 (60, [(0, .ref 1), (1, .int (iI a)), (2, .int (iI b)), (3, .int (iI c)), (4, .int (iI d)), (5, .int (iI e))], [], S2289) _
    refine T_p xr_113_60 xn_113 (pc' := 61) (ls' := [(0, .ref 1), (1, .int (iI a)), (2, .int (iI b)), (3, .int (iI c)), (4, .int (iI d)), (5, .int (iI e))]) (st' := [.ref 1]) rfl ?_
    have h2296 := (hf2294.1 1 (by first | decide | omega)).trans (h2287)
    refine T_get xr_113_61 h2296 rfl (v := .ref 2) rfl (pc' := 64) rfl ?_
    refine T_get xr_113_64 h2295 rfl (v := .int (iI (len + 20))) rfl (pc' := 67) rfl ?_
    refine T_iret xr_113_67 xf_113.2.2 rfl ?_
    refine hQ _ _ ?_
    exact Or.inr ⟨rfl, (by omega), h2295, h2293, (((((X_Fr.rf).tr (X_Fr.mono ⟨hf2258.1, hf2258.2⟩ (fun q hq => (by omega)))).tr (X_Fr.mono ⟨hf2267.1, hf2267.2⟩ (fun q hq => (by omega)))).tr (X_Fr.mono ⟨hf2276.1, hf2276.2⟩ (fun q hq => (by omega)))).tr (X_Fr.mono ⟨hf2285.1, hf2285.2⟩ (fun q hq => (by omega)))).tr (X_Fr.mono ⟨hf2294.1, hf2294.2⟩ (fun q hq => (by omega)))⟩
  · skip
    have c2251 : ¬ ((len + 20) ≤ 2000) := c2251
    refine T_p xr_113_16 xn_113 (pc' := 17) (ls' := [(0, .ref 1), (1, .int (iI a)), (2, .int (iI b)), (3, .int (iI c)), (4, .int (iI d)), (5, .int (iI e))]) (st' := [.int (iI (-1))]) rfl ?_
    refine T_iret xr_113_17 xf_113.2.2 rfl ?_
    refine hQ _ _ ?_
    exact Or.inl ⟨rfl, (by omega), rfl⟩
theorem c_end (sc : X_Sc) (S : X_S) (len : Int) (B2 : Nat) (B : Nat) (n : Int) (hO1 : S.1 1 = .inr (10, [.ref 2, .ref B, .ref B2, .ref 496, .ref 501, .ref 504, .ref 511, .ref 517, .ref 527])) (hO2 : S.1 2 = .inr (7, [.ref 3, .int (iI len)])) (hl : 0 ≤ len ∧ len ≤ 2000) (hn : -2147483648 ≤ n ∧ n ≤ 2147483647) : X_T sc 114 (0, [(0, .ref 1), (1, .int (iI n))], [], S) (fun v S' => (v = some (.int (iI (-1))) ∧ (n < 0 ∨ len < n) ∧ S' = S) ∨ (v = some (.int (iI n)) ∧ (0 ≤ n ∧ n ≤ len) ∧ S'.1 2 = .inr (7, [.ref 3, .int (iI n)]) ∧ X_Fr (fun q => q = 2) S S')) := by
  refine X_QI (fun Q hQ => ?_)
  refine T_p xr_114_0 xn_114 (pc' := 1) (ls' := [(0, .ref 1), (1, .int (iI n))]) (st' := [.int (iI n)]) rfl ?_
  refine T_zif_lt xr_114_1 (t := 15) (pc' := 4) rfl rfl (fun c2297 => ?_) (fun c2297 => ?_)
  · skip
    have c2297 : n < 0 := c2297
    refine T_p xr_114_15 xn_114 (pc' := 16) (ls' := [(0, .ref 1), (1, .int (iI n))]) (st' := [.int (iI (-1))]) rfl ?_
    refine T_iret xr_114_16 xf_114.2.2 rfl ?_
    refine hQ _ _ ?_
    exact Or.inl ⟨rfl, (by omega), rfl⟩
  · skip
    have c2297 : ¬ (n < 0) := c2297
    refine T_p xr_114_4 xn_114 (pc' := 5) (ls' := [(0, .ref 1), (1, .int (iI n))]) (st' := [.int (iI n)]) rfl ?_
    refine T_p xr_114_5 xn_114 (pc' := 6) (ls' := [(0, .ref 1), (1, .int (iI n))]) (st' := [.ref 1, .int (iI n)]) rfl ?_
    refine T_get xr_114_6 hO1 rfl (v := .ref 2) rfl (pc' := 9) rfl ?_
    refine T_get xr_114_9 hO2 rfl (v := .int (iI len)) rfl (pc' := 12) rfl ?_
    refine T_zicmp_le xr_114_12 (t := 17) (pc' := 15) rfl rfl (fun c2298 => ?_) (fun c2298 => ?_)
    · skip
      have c2298 : n ≤ len := c2298
      refine T_p xr_114_17 xn_114 (pc' := 18) (ls' := [(0, .ref 1), (1, .int (iI n))]) (st' := [.ref 1]) rfl ?_
      refine T_get xr_114_18 hO1 rfl (v := .ref 2) rfl (pc' := 21) rfl ?_
      refine T_p xr_114_21 xn_114 (pc' := 22) (ls' := [(0, .ref 1), (1, .int (iI n))]) (st' := [.int (iI n), .ref 2]) rfl ?_
      refine T_put xr_114_22 hO2 rfl (Nat.le_of_ble_eq_true rfl) rfl (fs' := [.ref 3, .int (iI n)]) rfl (pc' := 25) rfl (fun S2299 h2300 n2301 e2302 => ?_)
      refine T_p xr_114_25 xn_114 (pc' := 26) (ls' := [(0, .ref 1), (1, .int (iI n))]) (st' := [.int (iI n)]) rfl ?_
      refine T_iret xr_114_26 xf_114.2.2 rfl ?_
      refine hQ _ _ ?_
      exact Or.inr ⟨rfl, (by omega), h2300, (X_Fr.rf).tr (X_Fr.of n2301 e2302 (by first | decide | exact ⟨Nat.le_add_right _ _, Nat.add_le_add_left (by decide) _⟩ | omega))⟩
    · skip
      have c2298 : ¬ (n ≤ len) := c2298
      refine T_p xr_114_15 xn_114 (pc' := 16) (ls' := [(0, .ref 1), (1, .int (iI n))]) (st' := [.int (iI (-1))]) rfl ?_
      refine T_iret xr_114_16 xf_114.2.2 rfl ?_
      refine hQ _ _ ?_
      exact Or.inl ⟨rfl, (by omega), rfl⟩
theorem c_fault (sc : X_Sc) (S : X_S) (B2 : Nat) (B : Nat) (B3 : Nat) (fl : Int) (fp : Int) (w : Int) (hO1 : S.1 1 = .inr (10, [.ref 2, .ref B, .ref B2, .ref 496, .ref 501, .ref 504, .ref 511, .ref 517, .ref 527])) (hO496 : S.1 496 = .inr (4, [.ref 497, .ref B3, .int (iI fl), .int (iI fp)])) (hw : -2147483648 ≤ w ∧ w ≤ 2147483647) : X_T sc 116 (0, [(0, .ref 1), (1, .int (iI w))], [], S) (fun v S' => ∃ (r : Int), v = some (.int (iI r)) ∧ S' = S) := by
  refine X_QI (fun Q hQ => ?_)
  refine T_p xr_116_0 xn_116 (pc' := 1) (ls' := [(0, .ref 1), (1, .int (iI w))]) (st' := [.int (iI w)]) rfl ?_
  refine T_zif_ne xr_116_1 (t := 12) (pc' := 4) rfl rfl (fun c2303 => ?_) (fun c2303 => ?_)
  · skip
    have c2303 : ¬ w = 0 := c2303
    refine T_p xr_116_12 xn_116 (pc' := 13) (ls' := [(0, .ref 1), (1, .int (iI w))]) (st' := [.int (iI w)]) rfl ?_
    refine T_p xr_116_13 xn_116 (pc' := 14) (ls' := [(0, .ref 1), (1, .int (iI w))]) (st' := [.int (iI 1), .int (iI w)]) rfl ?_
    refine T_zicmp_ne xr_116_14 (t := 27) (pc' := 17) rfl rfl (fun c2304 => ?_) (fun c2304 => ?_)
    · skip
      have c2304 : ¬ w = 1 := c2304
      refine T_p xr_116_27 xn_116 (pc' := 28) (ls' := [(0, .ref 1), (1, .int (iI w))]) (st' := [.int (iI (-1))]) rfl ?_
      refine T_iret xr_116_28 xf_116.2.2 rfl ?_
      refine hQ _ _ ?_
      exact ⟨(-1), rfl, rfl⟩
    · skip
      have c2304 : ¬ (¬ w = 1) := c2304
      refine T_p xr_116_17 xn_116 (pc' := 18) (ls' := [(0, .ref 1), (1, .int (iI w))]) (st' := [.ref 1]) rfl ?_
      refine T_get xr_116_18 hO1 rfl (v := .ref 496) rfl (pc' := 21) rfl ?_
      refine T_get xr_116_21 hO496 rfl (v := .int (iI fp)) rfl (pc' := 24) rfl ?_
      refine T_p xr_116_24 xn_116 (pc' := 28) (ls' := [(0, .ref 1), (1, .int (iI w))]) (st' := [.int (iI fp)]) rfl ?_
      refine T_iret xr_116_28 xf_116.2.2 rfl ?_
      refine hQ _ _ ?_
      exact ⟨fp, rfl, rfl⟩
  · skip
    have c2303 : ¬ (¬ w = 0) := c2303
    refine T_p xr_116_4 xn_116 (pc' := 5) (ls' := [(0, .ref 1), (1, .int (iI w))]) (st' := [.ref 1]) rfl ?_
    refine T_get xr_116_5 hO1 rfl (v := .ref 496) rfl (pc' := 8) rfl ?_
    refine T_get xr_116_8 hO496 rfl (v := .int (iI fl)) rfl (pc' := 11) rfl ?_
    refine T_iret xr_116_11 xf_116.2.2 rfl ?_
    refine hQ _ _ ?_
    exact ⟨fl, rfl, rfl⟩
theorem c_about (sc : X_Sc) (S : X_S) (B : Nat) (rc : Int) (rn : Int → Int64) (kn : Int → Int64) (G : X_G) (B2 : Nat) (tn : Int) (nc : Int) (len : Int) (w : Int) (hO1 : S.1 1 = .inr (10, [.ref 2, .ref B, .ref B2, .ref 496, .ref 501, .ref 504, .ref 511, .ref 517, .ref 527])) (hO2 : S.1 2 = .inr (7, [.ref 3, .int (iI len)])) (hO501 : S.1 501 = .inr (6, [.int (iI tn), .ref 502, .ref 503])) (hO504 : S.1 504 = .inr (5, [.int (iI nc), .ref 505, .ref 506, .ref 507, .ref 508, .ref 509, .ref 510])) (hB : B = 4 ∨ B = 250) (hb : C_bk S B rc (gk G) (gw G) rn (gl G) kn (ga G)) (hs : C_ws S B (gD G) (gW G)) (hw : -2147483648 ≤ w ∧ w ≤ 2147483647) : X_T sc 117 (0, [(0, .ref 1), (1, .int (iI w))], [], S) (fun v S' => v = some (.int (iI (X_qAb rc (gk G) (gw G) tn nc len w))) ∧ S' = S) := by
  obtain ⟨hb0, hb1, hb2, hb3, hb4, ⟨f, hb5, hf⟩, ⟨hrc, hrcb⟩, ⟨hkc, hkcb⟩, ⟨hwc, hwcb⟩⟩ := id hb
  refine X_QI (fun Q hQ => ?_)
  refine T_p xr_117_0 xn_117 (pc' := 1) (ls' := [(0, .ref 1), (1, .int (iI w))]) (st' := [.int (iI w)]) rfl ?_
  rcases (show w = 0 ∨ w = 1 ∨ w = 2 ∨ w = 3 ∨ w = 4 ∨ w = 5 ∨ (w < 0 ∨ 5 < w) by omega) with cs2305 | cs2305 | cs2305 | cs2305 | cs2305 | cs2305 | cs2305
  · skip
    refine T_tsk xr_117_1 cs2305 (by decide) (by decide) (off := 39) rfl (t := 40) rfl ?_
    refine T_p xr_117_40 xn_117 (pc' := 41) (ls' := [(0, .ref 1), (1, .int (iI w))]) (st' := [.ref 1]) rfl ?_
    refine T_get xr_117_41 hO1 rfl (v := .ref B) rfl (pc' := 44) rfl ?_
    refine T_get xr_117_44 hb0 rfl (v := .int (iI rc)) rfl (pc' := 47) rfl ?_
    refine T_iret xr_117_47 xf_117.2.2 rfl ?_
    refine hQ _ _ ?_
    exact ⟨(by rw [show X_qAb rc (gk G) (gw G) tn nc len w = rc from by unfold X_qAb; (repeat (first | rw [if_pos (by omega)] | rw [if_neg (by omega)]))]), rfl⟩
  · skip
    refine T_tsk xr_117_1 cs2305 (by decide) (by decide) (off := 47) rfl (t := 48) rfl ?_
    refine T_p xr_117_48 xn_117 (pc' := 49) (ls' := [(0, .ref 1), (1, .int (iI w))]) (st' := [.ref 1]) rfl ?_
    refine T_get xr_117_49 hO1 rfl (v := .ref B) rfl (pc' := 52) rfl ?_
    refine T_get xr_117_52 hb0 rfl (v := .int (iI (gk G))) rfl (pc' := 55) rfl ?_
    refine T_iret xr_117_55 xf_117.2.2 rfl ?_
    refine hQ _ _ ?_
    exact ⟨(by rw [show X_qAb rc (gk G) (gw G) tn nc len w = gk G from by unfold X_qAb; (repeat (first | rw [if_pos (by omega)] | rw [if_neg (by omega)]))]), rfl⟩
  · skip
    refine T_tsk xr_117_1 cs2305 (by decide) (by decide) (off := 55) rfl (t := 56) rfl ?_
    refine T_p xr_117_56 xn_117 (pc' := 57) (ls' := [(0, .ref 1), (1, .int (iI w))]) (st' := [.ref 1]) rfl ?_
    refine T_get xr_117_57 hO1 rfl (v := .ref B) rfl (pc' := 60) rfl ?_
    refine T_get xr_117_60 hb0 rfl (v := .int (iI (gw G))) rfl (pc' := 63) rfl ?_
    refine T_iret xr_117_63 xf_117.2.2 rfl ?_
    refine hQ _ _ ?_
    exact ⟨(by rw [show X_qAb rc (gk G) (gw G) tn nc len w = gw G from by unfold X_qAb; (repeat (first | rw [if_pos (by omega)] | rw [if_neg (by omega)]))]), rfl⟩
  · skip
    refine T_tsk xr_117_1 cs2305 (by decide) (by decide) (off := 63) rfl (t := 64) rfl ?_
    refine T_p xr_117_64 xn_117 (pc' := 65) (ls' := [(0, .ref 1), (1, .int (iI w))]) (st' := [.ref 1]) rfl ?_
    refine T_get xr_117_65 hO1 rfl (v := .ref 501) rfl (pc' := 68) rfl ?_
    refine T_get xr_117_68 hO501 rfl (v := .int (iI tn)) rfl (pc' := 71) rfl ?_
    refine T_iret xr_117_71 xf_117.2.2 rfl ?_
    refine hQ _ _ ?_
    exact ⟨(by rw [show X_qAb rc (gk G) (gw G) tn nc len w = tn from by unfold X_qAb; (repeat (first | rw [if_pos (by omega)] | rw [if_neg (by omega)]))]), rfl⟩
  · skip
    refine T_tsk xr_117_1 cs2305 (by decide) (by decide) (off := 71) rfl (t := 72) rfl ?_
    refine T_p xr_117_72 xn_117 (pc' := 73) (ls' := [(0, .ref 1), (1, .int (iI w))]) (st' := [.ref 1]) rfl ?_
    refine T_get xr_117_73 hO1 rfl (v := .ref 504) rfl (pc' := 76) rfl ?_
    refine T_get xr_117_76 hO504 rfl (v := .int (iI nc)) rfl (pc' := 79) rfl ?_
    refine T_iret xr_117_79 xf_117.2.2 rfl ?_
    refine hQ _ _ ?_
    exact ⟨(by rw [show X_qAb rc (gk G) (gw G) tn nc len w = nc from by unfold X_qAb; (repeat (first | rw [if_pos (by omega)] | rw [if_neg (by omega)]))]), rfl⟩
  · skip
    refine T_tsk xr_117_1 cs2305 (by decide) (by decide) (off := 79) rfl (t := 80) rfl ?_
    refine T_p xr_117_80 xn_117 (pc' := 81) (ls' := [(0, .ref 1), (1, .int (iI w))]) (st' := [.ref 1]) rfl ?_
    refine T_get xr_117_81 hO1 rfl (v := .ref 2) rfl (pc' := 84) rfl ?_
    refine T_get xr_117_84 hO2 rfl (v := .int (iI len)) rfl (pc' := 87) rfl ?_
    refine T_iret xr_117_87 xf_117.2.2 rfl ?_
    refine hQ _ _ ?_
    exact ⟨(by rw [show X_qAb rc (gk G) (gw G) tn nc len w = len from by unfold X_qAb; (repeat (first | rw [if_pos (by omega)] | rw [if_neg (by omega)]))]), rfl⟩
  · skip
    refine T_tsd xr_117_1 cs2305 (by omega) (t := 88) rfl ?_
    refine T_p xr_117_88 xn_117 (pc' := 89) (ls' := [(0, .ref 1), (1, .int (iI w))]) (st' := [.int (iI (-1))]) rfl ?_
    refine T_iret xr_117_89 xf_117.2.2 rfl ?_
    refine hQ _ _ ?_
    exact ⟨(by rw [show X_qAb rc (gk G) (gw G) tn nc len w = (-1) from by unfold X_qAb; (repeat (first | rw [if_pos (by omega)] | rw [if_neg (by omega)]))]), rfl⟩
theorem c_word (sc : X_Sc) (S : X_S) (B : Nat) (rc : Int) (rn : Int → Int64) (kn : Int → Int64) (G : X_G) (B2 : Nat) (w : Int) (wh : Int) (hO1 : S.1 1 = .inr (10, [.ref 2, .ref B, .ref B2, .ref 496, .ref 501, .ref 504, .ref 511, .ref 517, .ref 527])) (hB : B = 4 ∨ B = 250) (hb : C_bk S B rc (gk G) (gw G) rn (gl G) kn (ga G)) (hs : C_ws S B (gD G) (gW G)) (hw : -2147483648 ≤ w ∧ w ≤ 2147483647) (hwh : -2147483648 ≤ wh ∧ wh ≤ 2147483647) : X_T sc 118 (0, [(0, .ref 1), (1, .int (iI w)), (2, .int (iI wh))], [], S) (fun v S' => v = some (.int (iI (X_qWd G w wh))) ∧ S' = S) := by
  obtain ⟨hb0, hb1, hb2, hb3, hb4, ⟨f, hb5, hf⟩, ⟨hrc, hrcb⟩, ⟨hkc, hkcb⟩, ⟨hwc, hwcb⟩⟩ := id hb
  refine X_QI (fun Q hQ => ?_)
  refine T_p xr_118_0 xn_118 (pc' := 1) (ls' := [(0, .ref 1), (1, .int (iI w)), (2, .int (iI wh))]) (st' := [.ref 1]) rfl ?_
  refine T_get xr_118_1 hO1 rfl (v := .ref B) rfl (pc' := 4) rfl ?_
  refine T_p xr_118_4 xn_118 (pc' := 5) (ls' := [(0, .ref 1), (1, .int (iI w)), (2, .int (iI wh))]) (st' := [.int (iI w), .ref B]) rfl ?_
  refine T_cv (S := S) (q := B) xr_118_5 xf_4.1 xf_4.2.1 xn_4 (as := [.int (iI w)]) (r := []) rfl hb0 (Nat.le_of_ble_eq_true rfl) (Nat.le_of_ble_eq_true rfl) (pc' := 8) rfl (ls' := [(0, .ref B), (1, .int (iI w))]) rfl ?_
  refine T_mono (c_hasWord sc S B rc (gk G) (gw G) rn (gl G) kn (ga G) w ⟨hb0, hb1, hb2, hb3, hb4, ⟨f, hb5, hf⟩, ⟨by omega, by omega⟩, ⟨by omega, by omega⟩, ⟨by omega, by omega⟩⟩ (by omega)) (fun v2307 S2308 h2306 => ?_)
  obtain ⟨h2309, h2310⟩ := h2306
  rw [h2309, h2310]
  show X_T sc 118 (8, [(0, .ref 1), (1, .int (iI w)), (2, .int (iI wh))], [.int (iI (bI (0 ≤ w ∧ w < (gw G))))], S) _
  refine T_bif_ne xr_118_8 (t := 13) (pc' := 11) rfl rfl (fun c2311 => ?_) (fun c2311 => ?_)
  · skip
    have c2311 : (0 ≤ w ∧ w < (gw G)) := c2311
    refine T_p xr_118_13 xn_118 (pc' := 14) (ls' := [(0, .ref 1), (1, .int (iI w)), (2, .int (iI wh))]) (st' := [.ref 1]) rfl ?_
    refine T_get xr_118_14 hO1 rfl (v := .ref B) rfl (pc' := 17) rfl ?_
    refine T_get xr_118_17 hb0 rfl (v := .ref (B + 5)) rfl (pc' := 20) rfl ?_
    refine T_p xr_118_20 xn_118 (pc' := 21) (ls' := [(0, .ref 1), (1, .int (iI w)), (2, .int (iI wh))]) (st' := [.int (iI w), .ref (B + 5)]) rfl ?_
    have hwaw := hs w (by omega) (by omega)
    obtain ⟨aw, haaw⟩ : ∃ z : Nat, z = B + 6 + 8 * (w : Int).toNat := ⟨_, rfl⟩
    rw [← haaw] at hwaw
    obtain ⟨⟨_, _⟩, ⟨_, _⟩, ⟨_, _⟩, ⟨_, _⟩, ⟨_, _⟩, ⟨_, _⟩, ⟨_, _⟩, ⟨_, _⟩⟩ := id hwaw.2
    refine T_zaald xr_118_21 hb5 (w := aw) (by rw [haaw]; exact hf _ (by omega)) (pc' := 22) rfl ?_
    refine T_p xr_118_22 xn_118 (pc' := 23) (ls' := [(3, .ref aw), (0, .ref 1), (1, .int (iI w)), (2, .int (iI wh))]) (st' := []) rfl ?_
    refine T_p xr_118_23 xn_118 (pc' := 24) (ls' := [(3, .ref aw), (0, .ref 1), (1, .int (iI w)), (2, .int (iI wh))]) (st' := [.int (iI wh)]) rfl ?_
    rcases (show wh = 0 ∨ wh = 1 ∨ wh = 2 ∨ wh = 3 ∨ wh = 4 ∨ wh = 5 ∨ wh = 6 ∨ (wh < 0 ∨ 6 < wh) by omega) with cs2315 | cs2315 | cs2315 | cs2315 | cs2315 | cs2315 | cs2315 | cs2315
    · skip
      refine T_tsk xr_118_24 cs2315 (by decide) (by decide) (off := 44) rfl (t := 68) rfl ?_
      refine T_p xr_118_68 xn_118 (pc' := 69) (ls' := [(3, .ref aw), (0, .ref 1), (1, .int (iI w)), (2, .int (iI wh))]) (st' := [.ref aw]) rfl ?_
      refine T_get xr_118_69 hwaw.1.1 rfl (v := .int (iI ((gD G) w 0 0))) rfl (pc' := 72) rfl ?_
      refine T_iret xr_118_72 xf_118.2.2 rfl ?_
      refine hQ _ _ ?_
      exact ⟨(by rw [show X_qWd G w wh = (gD G) w 0 0 from by unfold X_qWd; (repeat (first | rw [if_pos (by omega)] | rw [if_neg (by omega)]))]), rfl⟩
    · skip
      refine T_tsk xr_118_24 cs2315 (by decide) (by decide) (off := 49) rfl (t := 73) rfl ?_
      refine T_p xr_118_73 xn_118 (pc' := 74) (ls' := [(3, .ref aw), (0, .ref 1), (1, .int (iI w)), (2, .int (iI wh))]) (st' := [.ref aw]) rfl ?_
      refine T_get xr_118_74 hwaw.1.1 rfl (v := .int (iI ((gD G) w 1 0))) rfl (pc' := 77) rfl ?_
      refine T_iret xr_118_77 xf_118.2.2 rfl ?_
      refine hQ _ _ ?_
      exact ⟨(by rw [show X_qWd G w wh = (gD G) w 1 0 from by unfold X_qWd; (repeat (first | rw [if_pos (by omega)] | rw [if_neg (by omega)]))]), rfl⟩
    · skip
      refine T_tsk xr_118_24 cs2315 (by decide) (by decide) (off := 54) rfl (t := 78) rfl ?_
      refine T_p xr_118_78 xn_118 (pc' := 79) (ls' := [(3, .ref aw), (0, .ref 1), (1, .int (iI w)), (2, .int (iI wh))]) (st' := [.ref aw]) rfl ?_
      refine T_get xr_118_79 hwaw.1.1 rfl (v := .int (iI ((gD G) w 2 0))) rfl (pc' := 82) rfl ?_
      refine T_iret xr_118_82 xf_118.2.2 rfl ?_
      refine hQ _ _ ?_
      exact ⟨(by rw [show X_qWd G w wh = (gD G) w 2 0 from by unfold X_qWd; (repeat (first | rw [if_pos (by omega)] | rw [if_neg (by omega)]))]), rfl⟩
    · skip
      refine T_tsk xr_118_24 cs2315 (by decide) (by decide) (off := 59) rfl (t := 83) rfl ?_
      refine T_p xr_118_83 xn_118 (pc' := 84) (ls' := [(3, .ref aw), (0, .ref 1), (1, .int (iI w)), (2, .int (iI wh))]) (st' := [.ref aw]) rfl ?_
      refine T_get xr_118_84 hwaw.1.1 rfl (v := .int (iI ((gD G) w 3 0))) rfl (pc' := 87) rfl ?_
      refine T_iret xr_118_87 xf_118.2.2 rfl ?_
      refine hQ _ _ ?_
      exact ⟨(by rw [show X_qWd G w wh = (gD G) w 3 0 from by unfold X_qWd; (repeat (first | rw [if_pos (by omega)] | rw [if_neg (by omega)]))]), rfl⟩
    · skip
      refine T_tsk xr_118_24 cs2315 (by decide) (by decide) (off := 64) rfl (t := 88) rfl ?_
      refine T_p xr_118_88 xn_118 (pc' := 89) (ls' := [(3, .ref aw), (0, .ref 1), (1, .int (iI w)), (2, .int (iI wh))]) (st' := [.ref aw]) rfl ?_
      refine T_get xr_118_89 hwaw.1.1 rfl (v := .int (iI ((gD G) w 4 0))) rfl (pc' := 92) rfl ?_
      refine T_iret xr_118_92 xf_118.2.2 rfl ?_
      refine hQ _ _ ?_
      exact ⟨(by rw [show X_qWd G w wh = (gD G) w 4 0 from by unfold X_qWd; (repeat (first | rw [if_pos (by omega)] | rw [if_neg (by omega)]))]), rfl⟩
    · skip
      refine T_tsk xr_118_24 cs2315 (by decide) (by decide) (off := 69) rfl (t := 93) rfl ?_
      refine T_p xr_118_93 xn_118 (pc' := 94) (ls' := [(3, .ref aw), (0, .ref 1), (1, .int (iI w)), (2, .int (iI wh))]) (st' := [.ref aw]) rfl ?_
      refine T_cv (S := S) (q := aw) xr_118_94 xf_101.1 xf_101.2.1 xn_101 (as := []) (r := []) rfl hwaw.1.1 (Nat.le_of_ble_eq_true rfl) (Nat.le_of_ble_eq_true rfl) (pc' := 97) rfl (ls' := [(0, .ref aw)]) rfl ?_
      refine T_mono (c_ends sc S aw ((gD G) w) ((gW G) w) ⟨hwaw.1.1, hwaw.1.2.1, hwaw.1.2.2.1, hwaw.1.2.2.2.1, hwaw.1.2.2.2.2.1, hwaw.1.2.2.2.2.2.1, hwaw.1.2.2.2.2.2.2.1, hwaw.1.2.2.2.2.2.2.2⟩ hwaw.2) (fun v2317 S2318 h2316 => ?_)
      obtain ⟨h2319, h2320⟩ := h2316
      rw [h2319, h2320]
      show X_T sc 118 (97, [(3, .ref aw), (0, .ref 1), (1, .int (iI w)), (2, .int (iI wh))], [.int (iI (X_en ((gD G) w) ((gW G) w)))], S) _
      refine T_iret xr_118_97 xf_118.2.2 rfl ?_
      refine hQ _ _ ?_
      exact ⟨(by rw [show X_qWd G w wh = X_en ((gD G) w) ((gW G) w) from by unfold X_qWd; (repeat (first | rw [if_pos (by omega)] | rw [if_neg (by omega)]))]), rfl⟩
    · skip
      refine T_tsk xr_118_24 cs2315 (by decide) (by decide) (off := 74) rfl (t := 98) rfl ?_
      refine T_p xr_118_98 xn_118 (pc' := 99) (ls' := [(3, .ref aw), (0, .ref 1), (1, .int (iI w)), (2, .int (iI wh))]) (st' := [.ref aw]) rfl ?_
      refine T_get xr_118_99 hwaw.1.1 rfl (v := .int (iI ((gD G) w 5 0))) rfl (pc' := 102) rfl ?_
      refine T_iret xr_118_102 xf_118.2.2 rfl ?_
      refine hQ _ _ ?_
      exact ⟨(by rw [show X_qWd G w wh = (gD G) w 5 0 from by unfold X_qWd; (repeat (first | rw [if_pos (by omega)] | rw [if_neg (by omega)]))]), rfl⟩
    · skip
      refine T_tsd xr_118_24 cs2315 (by omega) (t := 103) rfl ?_
      refine T_p xr_118_103 xn_118 (pc' := 104) (ls' := [(3, .ref aw), (0, .ref 1), (1, .int (iI w)), (2, .int (iI wh))]) (st' := [.int (iI (-1))]) rfl ?_
      refine T_iret xr_118_104 xf_118.2.2 rfl ?_
      refine hQ _ _ ?_
      exact ⟨(by rw [show X_qWd G w wh = (-1) from by unfold X_qWd; (repeat (first | rw [if_pos (by omega)] | rw [if_neg (by omega)]))]), rfl⟩
  · skip
    have c2311 : ¬ (0 ≤ w ∧ w < (gw G)) := c2311
    refine T_p xr_118_11 xn_118 (pc' := 12) (ls' := [(0, .ref 1), (1, .int (iI w)), (2, .int (iI wh))]) (st' := [.int (iI (-1))]) rfl ?_
    refine T_iret xr_118_12 xf_118.2.2 rfl ?_
    refine hQ _ _ ?_
    exact ⟨(by rw [show X_qWd G w wh = (-1) from by unfold X_qWd; (repeat (first | rw [if_pos (by omega)] | rw [if_neg (by omega)]))]), rfl⟩
theorem c_tighter (sc : X_Sc) (S : X_S) (B : Nat) (rc : Int) (rn : Int → Int64) (kn : Int → Int64) (G : X_G) (B2 : Nat) (a : Int) (b : Int) (hO1 : S.1 1 = .inr (10, [.ref 2, .ref B, .ref B2, .ref 496, .ref 501, .ref 504, .ref 511, .ref 517, .ref 527])) (hB : B = 4 ∨ B = 250) (hb : C_bk S B rc (gk G) (gw G) rn (gl G) kn (ga G)) (hs : C_ws S B (gD G) (gW G)) (ha : -2147483648 ≤ a ∧ a ≤ 2147483647) (hb_ : -2147483648 ≤ b ∧ b ≤ 2147483647) : X_T sc 119 (0, [(0, .ref 1), (1, .int (iI a)), (2, .int (iI b))], [], S) (fun v S' => v = some (.int (iI (X_qTi G rc a b))) ∧ S' = S) := by
  obtain ⟨hb0, hb1, hb2, hb3, hb4, ⟨f, hb5, hf⟩, ⟨hrc, hrcb⟩, ⟨hkc, hkcb⟩, ⟨hwc, hwcb⟩⟩ := id hb
  refine X_QI (fun Q hQ => ?_)
  refine T_p xr_119_0 xn_119 (pc' := 1) (ls' := [(0, .ref 1), (1, .int (iI a)), (2, .int (iI b))]) (st' := [.ref 1]) rfl ?_
  refine T_get xr_119_1 hO1 rfl (v := .ref B) rfl (pc' := 4) rfl ?_
  refine T_p xr_119_4 xn_119 (pc' := 5) (ls' := [(0, .ref 1), (1, .int (iI a)), (2, .int (iI b))]) (st' := [.int (iI a), .ref B]) rfl ?_
  refine T_cv (S := S) (q := B) xr_119_5 xf_2.1 xf_2.2.1 xn_2 (as := [.int (iI a)]) (r := []) rfl hb0 (Nat.le_of_ble_eq_true rfl) (Nat.le_of_ble_eq_true rfl) (pc' := 8) rfl (ls' := [(0, .ref B), (1, .int (iI a))]) rfl ?_
  refine T_mono (c_hasRank sc S B rc (gk G) (gw G) rn (gl G) kn (ga G) a ⟨hb0, hb1, hb2, hb3, hb4, ⟨f, hb5, hf⟩, ⟨by omega, by omega⟩, ⟨by omega, by omega⟩, ⟨by omega, by omega⟩⟩ (by omega)) (fun v2322 S2323 h2321 => ?_)
  obtain ⟨h2324, h2325⟩ := h2321
  rw [h2324, h2325]
  show X_T sc 119 (8, [(0, .ref 1), (1, .int (iI a)), (2, .int (iI b))], [.int (iI (bI (0 ≤ a ∧ a < rc)))], S) _
  refine T_bif_eq xr_119_8 (t := 22) (pc' := 11) rfl rfl (fun c2326 => ?_) (fun c2326 => ?_)
  · skip
    have c2326 : ¬ (0 ≤ a ∧ a < rc) := c2326
    refine T_p xr_119_22 xn_119 (pc' := 23) (ls' := [(0, .ref 1), (1, .int (iI a)), (2, .int (iI b))]) (st' := [.int (iI (-1))]) rfl ?_
    refine T_iret xr_119_23 xf_119.2.2 rfl ?_
    refine hQ _ _ ?_
    exact ⟨(by rw [show X_qTi G rc a b = -1 from by unfold X_qTi; rw [if_neg (by omega)]]), rfl⟩
  · skip
    have c2326 : (0 ≤ a ∧ a < rc) := c2326
    refine T_p xr_119_11 xn_119 (pc' := 12) (ls' := [(0, .ref 1), (1, .int (iI a)), (2, .int (iI b))]) (st' := [.ref 1]) rfl ?_
    refine T_get xr_119_12 hO1 rfl (v := .ref B) rfl (pc' := 15) rfl ?_
    refine T_p xr_119_15 xn_119 (pc' := 16) (ls' := [(0, .ref 1), (1, .int (iI a)), (2, .int (iI b))]) (st' := [.int (iI b), .ref B]) rfl ?_
    refine T_cv (S := S) (q := B) xr_119_16 xf_2.1 xf_2.2.1 xn_2 (as := [.int (iI b)]) (r := []) rfl hb0 (Nat.le_of_ble_eq_true rfl) (Nat.le_of_ble_eq_true rfl) (pc' := 19) rfl (ls' := [(0, .ref B), (1, .int (iI b))]) rfl ?_
    refine T_mono (c_hasRank sc S B rc (gk G) (gw G) rn (gl G) kn (ga G) b ⟨hb0, hb1, hb2, hb3, hb4, ⟨f, hb5, hf⟩, ⟨by omega, by omega⟩, ⟨by omega, by omega⟩, ⟨by omega, by omega⟩⟩ (by omega)) (fun v2328 S2329 h2327 => ?_)
    obtain ⟨h2330, h2331⟩ := h2327
    rw [h2330, h2331]
    show X_T sc 119 (19, [(0, .ref 1), (1, .int (iI a)), (2, .int (iI b))], [.int (iI (bI (0 ≤ b ∧ b < rc)))], S) _
    refine T_bif_ne xr_119_19 (t := 24) (pc' := 22) rfl rfl (fun c2332 => ?_) (fun c2332 => ?_)
    · skip
      have c2332 : (0 ≤ b ∧ b < rc) := c2332
      refine T_p xr_119_24 xn_119 (pc' := 25) (ls' := [(0, .ref 1), (1, .int (iI a)), (2, .int (iI b))]) (st' := [.ref 1]) rfl ?_
      refine T_get xr_119_25 hO1 rfl (v := .ref B) rfl (pc' := 28) rfl ?_
      refine T_p xr_119_28 xn_119 (pc' := 29) (ls' := [(0, .ref 1), (1, .int (iI a)), (2, .int (iI b))]) (st' := [.int (iI a), .ref B]) rfl ?_
      refine T_p xr_119_29 xn_119 (pc' := 30) (ls' := [(0, .ref 1), (1, .int (iI a)), (2, .int (iI b))]) (st' := [.int (iI b), .int (iI a), .ref B]) rfl ?_
      refine T_cv (S := S) (q := B) xr_119_30 xf_11.1 xf_11.2.1 xn_11 (as := [.int (iI a), .int (iI b)]) (r := []) rfl hb0 (Nat.le_of_ble_eq_true rfl) (Nat.le_of_ble_eq_true rfl) (pc' := 33) rfl (ls' := [(0, .ref B), (1, .int (iI a)), (2, .int (iI b))]) rfl ?_
      refine T_mono (c_isTighter sc S B rc (gk G) (gw G) rn (gl G) kn (ga G) a b ⟨hb0, hb1, hb2, hb3, hb4, ⟨f, hb5, hf⟩, ⟨by omega, by omega⟩, ⟨by omega, by omega⟩, ⟨by omega, by omega⟩⟩ (by omega)) (fun v2334 S2335 h2333 => ?_)
      obtain ⟨h2336, h2337⟩ := h2333
      rw [h2336, h2337]
      show X_T sc 119 (33, [(0, .ref 1), (1, .int (iI a)), (2, .int (iI b))], [.int (iI (bI (X_bt ((gl G) a) b)))], S) _
      refine T_bif_eq xr_119_33 (t := 40) (pc' := 36) rfl rfl (fun c2338 => ?_) (fun c2338 => ?_)
      · skip
        have c2338 : ¬ (X_bt ((gl G) a) b) := c2338
        refine T_p xr_119_40 xn_119 (pc' := 41) (ls' := [(0, .ref 1), (1, .int (iI a)), (2, .int (iI b))]) (st' := [.int (iI 0)]) rfl ?_
        refine T_iret xr_119_41 xf_119.2.2 rfl ?_
        refine hQ _ _ ?_
        exact ⟨(by rw [show X_qTi G rc a b = 0 from by unfold X_qTi; rw [if_pos (by omega), bI_f (by assumption)]]), rfl⟩
      · skip
        have c2338 : (X_bt ((gl G) a) b) := c2338
        refine T_p xr_119_36 xn_119 (pc' := 37) (ls' := [(0, .ref 1), (1, .int (iI a)), (2, .int (iI b))]) (st' := [.int (iI 1)]) rfl ?_
        refine T_p xr_119_37 xn_119 (pc' := 41) (ls' := [(0, .ref 1), (1, .int (iI a)), (2, .int (iI b))]) (st' := [.int (iI 1)]) rfl ?_
        refine T_iret xr_119_41 xf_119.2.2 rfl ?_
        refine hQ _ _ ?_
        exact ⟨(by rw [show X_qTi G rc a b = 1 from by unfold X_qTi; rw [if_pos (by omega), bI_t (by assumption)]]), rfl⟩
    · skip
      have c2332 : ¬ (0 ≤ b ∧ b < rc) := c2332
      refine T_p xr_119_22 xn_119 (pc' := 23) (ls' := [(0, .ref 1), (1, .int (iI a)), (2, .int (iI b))]) (st' := [.int (iI (-1))]) rfl ?_
      refine T_iret xr_119_23 xf_119.2.2 rfl ?_
      refine hQ _ _ ?_
      exact ⟨(by rw [show X_qTi G rc a b = -1 from by unfold X_qTi; rw [if_neg (by omega)]]), rfl⟩
theorem c_under (sc : X_Sc) (S : X_S) (B : Nat) (rc : Int) (rn : Int → Int64) (kn : Int → Int64) (G : X_G) (B2 : Nat) (a : Int) (b : Int) (hO1 : S.1 1 = .inr (10, [.ref 2, .ref B, .ref B2, .ref 496, .ref 501, .ref 504, .ref 511, .ref 517, .ref 527])) (hB : B = 4 ∨ B = 250) (hb : C_bk S B rc (gk G) (gw G) rn (gl G) kn (ga G)) (hs : C_ws S B (gD G) (gW G)) (ha : -2147483648 ≤ a ∧ a ≤ 2147483647) (hb_ : -2147483648 ≤ b ∧ b ≤ 2147483647) : X_T sc 120 (0, [(0, .ref 1), (1, .int (iI a)), (2, .int (iI b))], [], S) (fun v S' => v = some (.int (iI (X_qUn G a b))) ∧ S' = S) := by
  obtain ⟨hb0, hb1, hb2, hb3, hb4, ⟨f, hb5, hf⟩, ⟨hrc, hrcb⟩, ⟨hkc, hkcb⟩, ⟨hwc, hwcb⟩⟩ := id hb
  refine X_QI (fun Q hQ => ?_)
  refine T_p xr_120_0 xn_120 (pc' := 1) (ls' := [(0, .ref 1), (1, .int (iI a)), (2, .int (iI b))]) (st' := [.ref 1]) rfl ?_
  refine T_get xr_120_1 hO1 rfl (v := .ref B) rfl (pc' := 4) rfl ?_
  refine T_p xr_120_4 xn_120 (pc' := 5) (ls' := [(0, .ref 1), (1, .int (iI a)), (2, .int (iI b))]) (st' := [.int (iI a), .ref B]) rfl ?_
  refine T_cv (S := S) (q := B) xr_120_5 xf_3.1 xf_3.2.1 xn_3 (as := [.int (iI a)]) (r := []) rfl hb0 (Nat.le_of_ble_eq_true rfl) (Nat.le_of_ble_eq_true rfl) (pc' := 8) rfl (ls' := [(0, .ref B), (1, .int (iI a))]) rfl ?_
  refine T_mono (c_hasKind sc S B rc (gk G) (gw G) rn (gl G) kn (ga G) a ⟨hb0, hb1, hb2, hb3, hb4, ⟨f, hb5, hf⟩, ⟨by omega, by omega⟩, ⟨by omega, by omega⟩, ⟨by omega, by omega⟩⟩ (by omega)) (fun v2340 S2341 h2339 => ?_)
  obtain ⟨h2342, h2343⟩ := h2339
  rw [h2342, h2343]
  show X_T sc 120 (8, [(0, .ref 1), (1, .int (iI a)), (2, .int (iI b))], [.int (iI (bI (0 ≤ a ∧ a < (gk G))))], S) _
  refine T_bif_eq xr_120_8 (t := 22) (pc' := 11) rfl rfl (fun c2344 => ?_) (fun c2344 => ?_)
  · skip
    have c2344 : ¬ (0 ≤ a ∧ a < (gk G)) := c2344
    refine T_p xr_120_22 xn_120 (pc' := 23) (ls' := [(0, .ref 1), (1, .int (iI a)), (2, .int (iI b))]) (st' := [.int (iI (-1))]) rfl ?_
    refine T_iret xr_120_23 xf_120.2.2 rfl ?_
    refine hQ _ _ ?_
    exact ⟨(by rw [show X_qUn G a b = -1 from by unfold X_qUn; rw [if_neg (by omega)]]), rfl⟩
  · skip
    have c2344 : (0 ≤ a ∧ a < (gk G)) := c2344
    refine T_p xr_120_11 xn_120 (pc' := 12) (ls' := [(0, .ref 1), (1, .int (iI a)), (2, .int (iI b))]) (st' := [.ref 1]) rfl ?_
    refine T_get xr_120_12 hO1 rfl (v := .ref B) rfl (pc' := 15) rfl ?_
    refine T_p xr_120_15 xn_120 (pc' := 16) (ls' := [(0, .ref 1), (1, .int (iI a)), (2, .int (iI b))]) (st' := [.int (iI b), .ref B]) rfl ?_
    refine T_cv (S := S) (q := B) xr_120_16 xf_3.1 xf_3.2.1 xn_3 (as := [.int (iI b)]) (r := []) rfl hb0 (Nat.le_of_ble_eq_true rfl) (Nat.le_of_ble_eq_true rfl) (pc' := 19) rfl (ls' := [(0, .ref B), (1, .int (iI b))]) rfl ?_
    refine T_mono (c_hasKind sc S B rc (gk G) (gw G) rn (gl G) kn (ga G) b ⟨hb0, hb1, hb2, hb3, hb4, ⟨f, hb5, hf⟩, ⟨by omega, by omega⟩, ⟨by omega, by omega⟩, ⟨by omega, by omega⟩⟩ (by omega)) (fun v2346 S2347 h2345 => ?_)
    obtain ⟨h2348, h2349⟩ := h2345
    rw [h2348, h2349]
    show X_T sc 120 (19, [(0, .ref 1), (1, .int (iI a)), (2, .int (iI b))], [.int (iI (bI (0 ≤ b ∧ b < (gk G))))], S) _
    refine T_bif_ne xr_120_19 (t := 24) (pc' := 22) rfl rfl (fun c2350 => ?_) (fun c2350 => ?_)
    · skip
      have c2350 : (0 ≤ b ∧ b < (gk G)) := c2350
      refine T_p xr_120_24 xn_120 (pc' := 25) (ls' := [(0, .ref 1), (1, .int (iI a)), (2, .int (iI b))]) (st' := [.ref 1]) rfl ?_
      refine T_get xr_120_25 hO1 rfl (v := .ref B) rfl (pc' := 28) rfl ?_
      refine T_p xr_120_28 xn_120 (pc' := 29) (ls' := [(0, .ref 1), (1, .int (iI a)), (2, .int (iI b))]) (st' := [.int (iI a), .ref B]) rfl ?_
      refine T_p xr_120_29 xn_120 (pc' := 30) (ls' := [(0, .ref 1), (1, .int (iI a)), (2, .int (iI b))]) (st' := [.int (iI b), .int (iI a), .ref B]) rfl ?_
      refine T_cv (S := S) (q := B) xr_120_30 xf_12.1 xf_12.2.1 xn_12 (as := [.int (iI a), .int (iI b)]) (r := []) rfl hb0 (Nat.le_of_ble_eq_true rfl) (Nat.le_of_ble_eq_true rfl) (pc' := 33) rfl (ls' := [(0, .ref B), (1, .int (iI a)), (2, .int (iI b))]) rfl ?_
      refine T_mono (c_isUnder sc S B rc (gk G) (gw G) rn (gl G) kn (ga G) a b ⟨hb0, hb1, hb2, hb3, hb4, ⟨f, hb5, hf⟩, ⟨by omega, by omega⟩, ⟨by omega, by omega⟩, ⟨by omega, by omega⟩⟩ (by omega)) (fun v2352 S2353 h2351 => ?_)
      obtain ⟨h2354, h2355⟩ := h2351
      rw [h2354, h2355]
      show X_T sc 120 (33, [(0, .ref 1), (1, .int (iI a)), (2, .int (iI b))], [.int (iI (bI (X_bt ((ga G) a) b)))], S) _
      refine T_bif_eq xr_120_33 (t := 40) (pc' := 36) rfl rfl (fun c2356 => ?_) (fun c2356 => ?_)
      · skip
        have c2356 : ¬ (X_bt ((ga G) a) b) := c2356
        refine T_p xr_120_40 xn_120 (pc' := 41) (ls' := [(0, .ref 1), (1, .int (iI a)), (2, .int (iI b))]) (st' := [.int (iI 0)]) rfl ?_
        refine T_iret xr_120_41 xf_120.2.2 rfl ?_
        refine hQ _ _ ?_
        exact ⟨(by rw [show X_qUn G a b = 0 from by unfold X_qUn; rw [if_pos (by omega), bI_f (by assumption)]]), rfl⟩
      · skip
        have c2356 : (X_bt ((ga G) a) b) := c2356
        refine T_p xr_120_36 xn_120 (pc' := 37) (ls' := [(0, .ref 1), (1, .int (iI a)), (2, .int (iI b))]) (st' := [.int (iI 1)]) rfl ?_
        refine T_p xr_120_37 xn_120 (pc' := 41) (ls' := [(0, .ref 1), (1, .int (iI a)), (2, .int (iI b))]) (st' := [.int (iI 1)]) rfl ?_
        refine T_iret xr_120_41 xf_120.2.2 rfl ?_
        refine hQ _ _ ?_
        exact ⟨(by rw [show X_qUn G a b = 1 from by unfold X_qUn; rw [if_pos (by omega), bI_t (by assumption)]]), rfl⟩
    · skip
      have c2350 : ¬ (0 ≤ b ∧ b < (gk G)) := c2350
      refine T_p xr_120_22 xn_120 (pc' := 23) (ls' := [(0, .ref 1), (1, .int (iI a)), (2, .int (iI b))]) (st' := [.int (iI (-1))]) rfl ?_
      refine T_iret xr_120_23 xf_120.2.2 rfl ?_
      refine hQ _ _ ?_
      exact ⟨(by rw [show X_qUn G a b = -1 from by unfold X_qUn; rw [if_neg (by omega)]]), rfl⟩
theorem c_node (sc : X_Sc) (S : X_S) (nW : Int → Int) (nF : Int → Int) (nL : Int → Int) (nP : Int → Int) (nH : Int → Int) (B2 : Nat) (B : Nat) (nc : Int) (N : Int → Int → Int) (n : Int) (wh : Int) (hO1 : S.1 1 = .inr (10, [.ref 2, .ref B, .ref B2, .ref 496, .ref 501, .ref 504, .ref 511, .ref 517, .ref 527])) (hO504 : S.1 504 = .inr (5, [.int (iI nc), .ref 505, .ref 506, .ref 507, .ref 508, .ref 509, .ref 510])) (hA505 : S.1 505 = .inl (.int, 30, .inl fun k : Nat => iI (nW (k : Int)))) (hA506 : S.1 506 = .inl (.int, 30, .inl fun k : Nat => iI (nF (k : Int)))) (hA507 : S.1 507 = .inl (.int, 30, .inl fun k : Nat => iI (nL (k : Int)))) (hA508 : S.1 508 = .inl (.int, 30, .inl fun k : Nat => iI (nP (k : Int)))) (hA509 : S.1 509 = .inl (.int, 30, .inl fun k : Nat => iI (nH (k : Int)))) (hn : -2147483648 ≤ n ∧ n ≤ 2147483647) (hwh : -2147483648 ≤ wh ∧ wh ≤ 2147483647) (hnc : 0 ≤ nc ∧ nc ≤ 30) (hnd : F_nd nc N nW nF nL nP nH) : X_T sc 125 (0, [(0, .ref 1), (1, .int (iI n)), (2, .int (iI wh))], [], S) (fun v S' => v = some (.int (iI (X_qNd nc N n wh))) ∧ S' = S) := by
  refine X_QI (fun Q hQ => ?_)
  refine T_p xr_125_0 xn_125 (pc' := 1) (ls' := [(0, .ref 1), (1, .int (iI n)), (2, .int (iI wh))]) (st' := [.int (iI n)]) rfl ?_
  refine T_zif_lt xr_125_1 (t := 15) (pc' := 4) rfl rfl (fun c2357 => ?_) (fun c2357 => ?_)
  · skip
    have c2357 : n < 0 := c2357
    refine T_p xr_125_15 xn_125 (pc' := 16) (ls' := [(0, .ref 1), (1, .int (iI n)), (2, .int (iI wh))]) (st' := [.int (iI (-1))]) rfl ?_
    refine T_iret xr_125_16 xf_125.2.2 rfl ?_
    refine hQ _ _ ?_
    exact ⟨(by rw [show X_qNd nc N n wh = (-1) from by unfold X_qNd; (repeat (first | rw [if_pos (by omega)] | rw [if_neg (by omega)]))]), rfl⟩
  · skip
    have c2357 : ¬ (n < 0) := c2357
    refine T_p xr_125_4 xn_125 (pc' := 5) (ls' := [(0, .ref 1), (1, .int (iI n)), (2, .int (iI wh))]) (st' := [.int (iI n)]) rfl ?_
    refine T_p xr_125_5 xn_125 (pc' := 6) (ls' := [(0, .ref 1), (1, .int (iI n)), (2, .int (iI wh))]) (st' := [.ref 1, .int (iI n)]) rfl ?_
    refine T_get xr_125_6 hO1 rfl (v := .ref 504) rfl (pc' := 9) rfl ?_
    refine T_get xr_125_9 hO504 rfl (v := .int (iI nc)) rfl (pc' := 12) rfl ?_
    refine T_zicmp_lt xr_125_12 (t := 17) (pc' := 15) rfl rfl (fun c2358 => ?_) (fun c2358 => ?_)
    · skip
      have c2358 : n < nc := c2358
      refine T_p xr_125_17 xn_125 (pc' := 18) (ls' := [(0, .ref 1), (1, .int (iI n)), (2, .int (iI wh))]) (st' := [.int (iI wh)]) rfl ?_
      rcases (show wh = 0 ∨ wh = 1 ∨ wh = 2 ∨ wh = 3 ∨ wh = 4 ∨ (wh < 0 ∨ 4 < wh) by omega) with cs2359 | cs2359 | cs2359 | cs2359 | cs2359 | cs2359
      · skip
        refine T_tsk xr_125_18 cs2359 (by decide) (by decide) (off := 34) rfl (t := 52) rfl ?_
        refine T_p xr_125_52 xn_125 (pc' := 53) (ls' := [(0, .ref 1), (1, .int (iI n)), (2, .int (iI wh))]) (st' := [.ref 1]) rfl ?_
        refine T_get xr_125_53 hO1 rfl (v := .ref 504) rfl (pc' := 56) rfl ?_
        refine T_get xr_125_56 hO504 rfl (v := .ref 505) rfl (pc' := 59) rfl ?_
        refine T_p xr_125_59 xn_125 (pc' := 60) (ls' := [(0, .ref 1), (1, .int (iI n)), (2, .int (iI wh))]) (st' := [.int (iI n), .ref 505]) rfl ?_
        refine T_ziald xr_125_60 hA505 (pc' := 61) rfl ?_
        refine T_iret xr_125_61 xf_125.2.2 rfl ?_
        refine hQ _ _ ?_
        exact ⟨(by rw [show X_qNd nc N n wh = N 0 n from by unfold X_qNd; (repeat (first | rw [if_pos (by omega)] | rw [if_neg (by omega)]))]; rw [(hnd n (by omega) (by omega)).1]), rfl⟩
      · skip
        refine T_tsk xr_125_18 cs2359 (by decide) (by decide) (off := 44) rfl (t := 62) rfl ?_
        refine T_p xr_125_62 xn_125 (pc' := 63) (ls' := [(0, .ref 1), (1, .int (iI n)), (2, .int (iI wh))]) (st' := [.ref 1]) rfl ?_
        refine T_get xr_125_63 hO1 rfl (v := .ref 504) rfl (pc' := 66) rfl ?_
        refine T_get xr_125_66 hO504 rfl (v := .ref 506) rfl (pc' := 69) rfl ?_
        refine T_p xr_125_69 xn_125 (pc' := 70) (ls' := [(0, .ref 1), (1, .int (iI n)), (2, .int (iI wh))]) (st' := [.int (iI n), .ref 506]) rfl ?_
        refine T_ziald xr_125_70 hA506 (pc' := 71) rfl ?_
        refine T_iret xr_125_71 xf_125.2.2 rfl ?_
        refine hQ _ _ ?_
        exact ⟨(by rw [show X_qNd nc N n wh = N 1 n from by unfold X_qNd; (repeat (first | rw [if_pos (by omega)] | rw [if_neg (by omega)]))]; rw [(hnd n (by omega) (by omega)).2.1]), rfl⟩
      · skip
        refine T_tsk xr_125_18 cs2359 (by decide) (by decide) (off := 54) rfl (t := 72) rfl ?_
        refine T_p xr_125_72 xn_125 (pc' := 73) (ls' := [(0, .ref 1), (1, .int (iI n)), (2, .int (iI wh))]) (st' := [.ref 1]) rfl ?_
        refine T_get xr_125_73 hO1 rfl (v := .ref 504) rfl (pc' := 76) rfl ?_
        refine T_get xr_125_76 hO504 rfl (v := .ref 507) rfl (pc' := 79) rfl ?_
        refine T_p xr_125_79 xn_125 (pc' := 80) (ls' := [(0, .ref 1), (1, .int (iI n)), (2, .int (iI wh))]) (st' := [.int (iI n), .ref 507]) rfl ?_
        refine T_ziald xr_125_80 hA507 (pc' := 81) rfl ?_
        refine T_iret xr_125_81 xf_125.2.2 rfl ?_
        refine hQ _ _ ?_
        exact ⟨(by rw [show X_qNd nc N n wh = N 2 n from by unfold X_qNd; (repeat (first | rw [if_pos (by omega)] | rw [if_neg (by omega)]))]; rw [(hnd n (by omega) (by omega)).2.2.1]), rfl⟩
      · skip
        refine T_tsk xr_125_18 cs2359 (by decide) (by decide) (off := 64) rfl (t := 82) rfl ?_
        refine T_p xr_125_82 xn_125 (pc' := 83) (ls' := [(0, .ref 1), (1, .int (iI n)), (2, .int (iI wh))]) (st' := [.ref 1]) rfl ?_
        refine T_get xr_125_83 hO1 rfl (v := .ref 504) rfl (pc' := 86) rfl ?_
        refine T_get xr_125_86 hO504 rfl (v := .ref 508) rfl (pc' := 89) rfl ?_
        refine T_p xr_125_89 xn_125 (pc' := 90) (ls' := [(0, .ref 1), (1, .int (iI n)), (2, .int (iI wh))]) (st' := [.int (iI n), .ref 508]) rfl ?_
        refine T_ziald xr_125_90 hA508 (pc' := 91) rfl ?_
        refine T_iret xr_125_91 xf_125.2.2 rfl ?_
        refine hQ _ _ ?_
        exact ⟨(by rw [show X_qNd nc N n wh = N 3 n from by unfold X_qNd; (repeat (first | rw [if_pos (by omega)] | rw [if_neg (by omega)]))]; rw [(hnd n (by omega) (by omega)).2.2.2.1]), rfl⟩
      · skip
        refine T_tsk xr_125_18 cs2359 (by decide) (by decide) (off := 74) rfl (t := 92) rfl ?_
        refine T_p xr_125_92 xn_125 (pc' := 93) (ls' := [(0, .ref 1), (1, .int (iI n)), (2, .int (iI wh))]) (st' := [.ref 1]) rfl ?_
        refine T_get xr_125_93 hO1 rfl (v := .ref 504) rfl (pc' := 96) rfl ?_
        refine T_get xr_125_96 hO504 rfl (v := .ref 509) rfl (pc' := 99) rfl ?_
        refine T_p xr_125_99 xn_125 (pc' := 100) (ls' := [(0, .ref 1), (1, .int (iI n)), (2, .int (iI wh))]) (st' := [.int (iI n), .ref 509]) rfl ?_
        refine T_ziald xr_125_100 hA509 (pc' := 101) rfl ?_
        refine T_iret xr_125_101 xf_125.2.2 rfl ?_
        refine hQ _ _ ?_
        exact ⟨(by rw [show X_qNd nc N n wh = N 4 n from by unfold X_qNd; (repeat (first | rw [if_pos (by omega)] | rw [if_neg (by omega)]))]; rw [(hnd n (by omega) (by omega)).2.2.2.2]), rfl⟩
      · skip
        refine T_tsd xr_125_18 cs2359 (by omega) (t := 102) rfl ?_
        refine T_p xr_125_102 xn_125 (pc' := 103) (ls' := [(0, .ref 1), (1, .int (iI n)), (2, .int (iI wh))]) (st' := [.int (iI (-1))]) rfl ?_
        refine T_iret xr_125_103 xf_125.2.2 rfl ?_
        refine hQ _ _ ?_
        exact ⟨(by rw [show X_qNd nc N n wh = (-1) from by unfold X_qNd; (repeat (first | rw [if_pos (by omega)] | rw [if_neg (by omega)]))]), rfl⟩
    · skip
      have c2358 : ¬ (n < nc) := c2358
      refine T_p xr_125_15 xn_125 (pc' := 16) (ls' := [(0, .ref 1), (1, .int (iI n)), (2, .int (iI wh))]) (st' := [.int (iI (-1))]) rfl ?_
      refine T_iret xr_125_16 xf_125.2.2 rfl ?_
      refine hQ _ _ ?_
      exact ⟨(by rw [show X_qNd nc N n wh = (-1) from by unfold X_qNd; (repeat (first | rw [if_pos (by omega)] | rw [if_neg (by omega)]))]), rfl⟩
theorem c_worked (sc : X_Sc) (S : X_S) (B2 : Nat) (B : Nat) (rs : Int) (re : Int) (hgt : Int) (w : Int) (hO1 : S.1 1 = .inr (10, [.ref 2, .ref B, .ref B2, .ref 496, .ref 501, .ref 504, .ref 511, .ref 517, .ref 527])) (hO527 : S.1 527 = .inr (9, [.ref 501, .ref 504, .int (iI rs), .int (iI re), .ref 528, .ref 529, .int (iI hgt)])) (hw : -2147483648 ≤ w ∧ w ≤ 2147483647) : X_T sc 128 (0, [(0, .ref 1), (1, .int (iI w))], [], S) (fun v S' => v = some (.int (iI (if w = 0 then rs else if w = 1 then re else -1))) ∧ S' = S) := by
  refine X_QI (fun Q hQ => ?_)
  refine T_p xr_128_0 xn_128 (pc' := 1) (ls' := [(0, .ref 1), (1, .int (iI w))]) (st' := [.int (iI w)]) rfl ?_
  refine T_zif_ne xr_128_1 (t := 12) (pc' := 4) rfl rfl (fun c2360 => ?_) (fun c2360 => ?_)
  · skip
    have c2360 : ¬ w = 0 := c2360
    refine T_p xr_128_12 xn_128 (pc' := 13) (ls' := [(0, .ref 1), (1, .int (iI w))]) (st' := [.int (iI w)]) rfl ?_
    refine T_p xr_128_13 xn_128 (pc' := 14) (ls' := [(0, .ref 1), (1, .int (iI w))]) (st' := [.int (iI 1), .int (iI w)]) rfl ?_
    refine T_zicmp_ne xr_128_14 (t := 27) (pc' := 17) rfl rfl (fun c2361 => ?_) (fun c2361 => ?_)
    · skip
      have c2361 : ¬ w = 1 := c2361
      refine T_p xr_128_27 xn_128 (pc' := 28) (ls' := [(0, .ref 1), (1, .int (iI w))]) (st' := [.int (iI (-1))]) rfl ?_
      refine T_iret xr_128_28 xf_128.2.2 rfl ?_
      refine hQ _ _ ?_
      exact ⟨(by (repeat (first | rw [if_pos (by omega)] | rw [if_neg (by omega)]))), rfl⟩
    · skip
      have c2361 : ¬ (¬ w = 1) := c2361
      refine T_p xr_128_17 xn_128 (pc' := 18) (ls' := [(0, .ref 1), (1, .int (iI w))]) (st' := [.ref 1]) rfl ?_
      refine T_get xr_128_18 hO1 rfl (v := .ref 527) rfl (pc' := 21) rfl ?_
      refine T_get xr_128_21 hO527 rfl (v := .int (iI re)) rfl (pc' := 24) rfl ?_
      refine T_p xr_128_24 xn_128 (pc' := 28) (ls' := [(0, .ref 1), (1, .int (iI w))]) (st' := [.int (iI re)]) rfl ?_
      refine T_iret xr_128_28 xf_128.2.2 rfl ?_
      refine hQ _ _ ?_
      exact ⟨(by (repeat (first | rw [if_pos (by omega)] | rw [if_neg (by omega)]))), rfl⟩
  · skip
    have c2360 : ¬ (¬ w = 0) := c2360
    refine T_p xr_128_4 xn_128 (pc' := 5) (ls' := [(0, .ref 1), (1, .int (iI w))]) (st' := [.ref 1]) rfl ?_
    refine T_get xr_128_5 hO1 rfl (v := .ref 527) rfl (pc' := 8) rfl ?_
    refine T_get xr_128_8 hO527 rfl (v := .int (iI rs)) rfl (pc' := 11) rfl ?_
    refine T_iret xr_128_11 xf_128.2.2 rfl ?_
    refine hQ _ _ ?_
    exact ⟨(by (repeat (first | rw [if_pos (by omega)] | rw [if_neg (by omega)]))), rfl⟩
theorem c_sure (sc : X_Sc) (S : X_S) (B : Nat) (rc : Int) (rn : Int → Int64) (kn : Int → Int64) (G : X_G) (B2 : Nat) (hO1 : S.1 1 = .inr (10, [.ref 2, .ref B, .ref B2, .ref 496, .ref 501, .ref 504, .ref 511, .ref 517, .ref 527])) (hB : B = 4 ∨ B = 250) (hb : C_bk S B rc (gk G) (gw G) rn (gl G) kn (ga G)) (hs : C_ws S B (gD G) (gW G)) : X_T sc 129 (0, [(0, .ref 1)], [], S) (fun v S' => ∃ (r : Int), v = some (.int (iI r)) ∧ X_qSu G r ∧ S' = S) := by
  obtain ⟨hb0, hb1, hb2, hb3, hb4, ⟨f, hb5, hf⟩, ⟨hrc, hrcb⟩, ⟨hkc, hkcb⟩, ⟨hwc, hwcb⟩⟩ := id hb
  refine X_QI (fun Q hQ => ?_)
  refine T_p xr_129_0 xn_129 (pc' := 1) (ls' := [(0, .ref 1)]) (st' := [.int (iI 0)]) rfl ?_
  refine T_p xr_129_1 xn_129 (pc' := 2) (ls' := [(1, .int (iI 0)), (0, .ref 1)]) (st' := []) rfl ?_
  have L2362 : ∀ (m2364 : Nat) (a : Int) (ha : 0 ≤ a ∧ a ≤ gw G) (hno : ∀ a1 b1, 0 ≤ a1 → a1 ≤ b1 → b1 < gw G → a1 < a → ¬ X_ag (gl G) (gD G) (gW G) a1 b1) (hm2365 : gw G - a < m2364), X_T sc 129 (2, [(1, .int (iI a)), (0, .ref 1)], [], S) Q := by
    intro m2364
    induction m2364 with
    | zero =>
      intro a ha hno hm2365
      exact (show False by omega).elim
    | succ m2364 ih2363 =>
      intro a ha hno hm2365
      refine T_p xr_129_2 xn_129 (pc' := 3) (ls' := [(1, .int (iI a)), (0, .ref 1)]) (st' := [.int (iI a)]) rfl ?_
      refine T_p xr_129_3 xn_129 (pc' := 4) (ls' := [(1, .int (iI a)), (0, .ref 1)]) (st' := [.ref 1, .int (iI a)]) rfl ?_
      refine T_get xr_129_4 hO1 rfl (v := .ref B) rfl (pc' := 7) rfl ?_
      refine T_get xr_129_7 hb0 rfl (v := .int (iI (gw G))) rfl (pc' := 10) rfl ?_
      refine T_zicmp_ge xr_129_10 (t := 57) (pc' := 13) rfl rfl (fun c2367 => ?_) (fun c2367 => ?_)
      · skip
        have c2367 : (gw G) ≤ a := c2367
        refine T_p xr_129_57 xn_129 (pc' := 58) (ls' := [(1, .int (iI a)), (0, .ref 1)]) (st' := [.int (iI (-1))]) rfl ?_
        refine T_iret xr_129_58 xf_129.2.2 rfl ?_
        refine hQ _ _ ?_
        exact ⟨(-1), rfl, (Or.inl ⟨rfl, fun a1 b1 h1 h2 h3 => hno a1 b1 h1 h2 h3 (by omega)⟩), rfl⟩
      · skip
        have c2367 : ¬ ((gw G) ≤ a) := c2367
        refine T_p xr_129_13 xn_129 (pc' := 14) (ls' := [(1, .int (iI a)), (0, .ref 1)]) (st' := [.int (iI a)]) rfl ?_
        refine T_p xr_129_14 xn_129 (pc' := 15) (ls' := [(2, .int (iI a)), (1, .int (iI a)), (0, .ref 1)]) (st' := []) rfl ?_
        have L2368 : ∀ (m2370 : Nat) (b : Int) (hb2_ : a ≤ b ∧ b ≤ gw G) (hno2 : ∀ a1 b1, 0 ≤ a1 → a1 ≤ b1 → b1 < gw G → (a1 < a ∨ (a1 = a ∧ b1 < b)) → ¬ X_ag (gl G) (gD G) (gW G) a1 b1) (hm2371 : gw G - b < m2370), X_T sc 129 (15, [(2, .int (iI b)), (1, .int (iI a)), (0, .ref 1)], [], S) Q := by
          intro m2370
          induction m2370 with
          | zero =>
            intro b hb2_ hno2 hm2371
            exact (show False by omega).elim
          | succ m2370 ih2369 =>
            intro b hb2_ hno2 hm2371
            refine T_p xr_129_15 xn_129 (pc' := 16) (ls' := [(2, .int (iI b)), (1, .int (iI a)), (0, .ref 1)]) (st' := [.int (iI b)]) rfl ?_
            refine T_p xr_129_16 xn_129 (pc' := 17) (ls' := [(2, .int (iI b)), (1, .int (iI a)), (0, .ref 1)]) (st' := [.ref 1, .int (iI b)]) rfl ?_
            refine T_get xr_129_17 hO1 rfl (v := .ref B) rfl (pc' := 20) rfl ?_
            refine T_get xr_129_20 hb0 rfl (v := .int (iI (gw G))) rfl (pc' := 23) rfl ?_
            refine T_zicmp_ge xr_129_23 (t := 51) (pc' := 26) rfl rfl (fun c2373 => ?_) (fun c2373 => ?_)
            · skip
              have c2373 : (gw G) ≤ b := c2373
              refine T_ziinc xr_129_51 xn_129 (a := a) (z := a + 1) rfl (Nat.le_of_ble_eq_true rfl) (by omega) (ls' := [(1, .int (iI (a + 1))), (2, .int (iI b)), (0, .ref 1)]) rfl (pc' := 54) rfl ?_
              refine T_p xr_129_54 xn_129 (pc' := 2) (ls' := [(1, .int (iI (a + 1))), (2, .int (iI b)), (0, .ref 1)]) (st' := []) rfl ?_
              refine T_sub (ls := [(1, .int (iI (a + 1))), (0, .ref 1)]) ⟨rfl, rfl, trivial⟩ rfl rfl ?_
              exact ih2363 (a + 1)  (by omega) (fun a1 b1 h1 h2 h3 h4 => hno2 a1 b1 h1 h2 h3 (by omega)) (by omega)
            · skip
              have c2373 : ¬ ((gw G) ≤ b) := c2373
              refine T_p xr_129_26 xn_129 (pc' := 27) (ls' := [(2, .int (iI b)), (1, .int (iI a)), (0, .ref 1)]) (st' := [.ref 1]) rfl ?_
              refine T_get xr_129_27 hO1 rfl (v := .ref B) rfl (pc' := 30) rfl ?_
              refine T_p xr_129_30 xn_129 (pc' := 31) (ls' := [(2, .int (iI b)), (1, .int (iI a)), (0, .ref 1)]) (st' := [.int (iI a), .ref B]) rfl ?_
              refine T_p xr_129_31 xn_129 (pc' := 32) (ls' := [(2, .int (iI b)), (1, .int (iI a)), (0, .ref 1)]) (st' := [.int (iI b), .int (iI a), .ref B]) rfl ?_
              refine T_cv (S := S) (q := B) xr_129_32 xf_18.1 xf_18.2.1 xn_18 (as := [.int (iI a), .int (iI b)]) (r := []) rfl hb0 (Nat.le_of_ble_eq_true rfl) (Nat.le_of_ble_eq_true rfl) (pc' := 35) rfl (ls' := [(0, .ref B), (1, .int (iI a)), (2, .int (iI b))]) rfl ?_
              refine T_mono (c_isAgainst sc S B rc (gk G) (gw G) rn (gl G) kn (ga G) (gD G) (gW G) a b ⟨hb0, hb1, hb2, hb3, hb4, ⟨f, hb5, hf⟩, ⟨by omega, by omega⟩, ⟨by omega, by omega⟩, ⟨by omega, by omega⟩⟩ hs (by omega) (by omega)) (fun v2375 S2376 h2374 => ?_)
              obtain ⟨h2377, h2378⟩ := h2374
              rw [h2377, h2378]
              show X_T sc 129 (35, [(2, .int (iI b)), (1, .int (iI a)), (0, .ref 1)], [.int (iI (bI (X_ag (gl G) (gD G) (gW G) a b)))], S) _
              refine T_bif_eq xr_129_35 (t := 45) (pc' := 38) rfl rfl (fun c2379 => ?_) (fun c2379 => ?_)
              · skip
                have c2379 : ¬ (X_ag (gl G) (gD G) (gW G) a b) := c2379
                refine T_ziinc xr_129_45 xn_129 (a := b) (z := b + 1) rfl (Nat.le_of_ble_eq_true rfl) (by omega) (ls' := [(2, .int (iI (b + 1))), (1, .int (iI a)), (0, .ref 1)]) rfl (pc' := 48) rfl ?_
                refine T_p xr_129_48 xn_129 (pc' := 15) (ls' := [(2, .int (iI (b + 1))), (1, .int (iI a)), (0, .ref 1)]) (st' := []) rfl ?_
                exact ih2369 (b + 1)  (by omega) (fun a1 b1 h1 h2 h3 h4 => by
                      by_cases hh : a1 = a ∧ b1 = b
                      · obtain ⟨e1, e2⟩ := hh
                        subst e1; subst e2; assumption
                      · exact hno2 a1 b1 h1 h2 h3 (by omega)) (by omega)
              · skip
                have c2379 : (X_ag (gl G) (gD G) (gW G) a b) := c2379
                refine T_p xr_129_38 xn_129 (pc' := 40) (ls' := [(2, .int (iI b)), (1, .int (iI a)), (0, .ref 1)]) (st' := [.int (iI 100)]) rfl ?_
                refine T_p xr_129_40 xn_129 (pc' := 41) (ls' := [(2, .int (iI b)), (1, .int (iI a)), (0, .ref 1)]) (st' := [.int (iI a), .int (iI 100)]) rfl ?_
                refine T_zimul xr_129_41 (z := 100 * a) rfl (pc' := 42) rfl ?_
                refine T_p xr_129_42 xn_129 (pc' := 43) (ls' := [(2, .int (iI b)), (1, .int (iI a)), (0, .ref 1)]) (st' := [.int (iI b), .int (iI (100 * a))]) rfl ?_
                refine T_ziadd xr_129_43 (z := (100 * a) + b) rfl (pc' := 44) rfl ?_
                refine T_iret xr_129_44 xf_129.2.2 rfl ?_
                refine hQ _ _ ?_
                exact ⟨(100 * a) + b, rfl, (Or.inr ⟨a, b, rfl, by omega, by assumption, fun a1 b1 h1 h2 h3 h4 => hno2 a1 b1 h1 h2 h3 (by omega)⟩), rfl⟩
        exact L2368 ((gw G) + 1).toNat a  (by omega) (fun a1 b1 h1 h2 h3 h4 => hno a1 b1 h1 h2 h3 (by omega)) (by omega)
  exact L2362 ((gw G) + 1).toNat 0  (by omega) (fun a1 b1 h1 h2 h3 h4 => absurd h4 (by omega)) (by omega)
end
section
theorem xr_23_0 : X_row 23 0 = some (0, (.aload_n 0, 1), (0, 0, 0)) := by decide +kernel
theorem xr_23_1 : X_row 23 1 = some (1, (.getfield 22, 3), (1, 5, 32)) := by decide +kernel
theorem xr_23_4 : X_row 23 4 = some (4, (.iload_n 1, 1), (0, 0, 0)) := by decide +kernel
theorem xr_23_5 : X_row 23 5 = some (5, (.iload_n 2, 1), (0, 0, 0)) := by decide +kernel
theorem xr_23_6 : X_row 23 6 = some (6, (.invokestatic 40, 3), (24, 2, 0)) := by decide +kernel
theorem xr_23_9 : X_row 23 9 = some (9, (.laload, 1), (0, 0, 0)) := by decide +kernel
theorem xr_23_10 : X_row 23 10 = some (10, (.lreturn, 1), (0, 0, 0)) := by decide +kernel
theorem xr_122_0 : X_row 122 0 = some (0, (.iload_n 1, 1), (0, 0, 0)) := by decide +kernel
theorem xr_122_1 : X_row 122 1 = some (1, (.ifCond .lt 19, 3), (0, 0, 0)) := by decide +kernel
theorem xr_122_4 : X_row 122 4 = some (4, (.iload_n 2, 1), (0, 0, 0)) := by decide +kernel
theorem xr_122_5 : X_row 122 5 = some (5, (.aload_n 0, 1), (0, 0, 0)) := by decide +kernel
theorem xr_122_6 : X_row 122 6 = some (6, (.getfield 38, 3), (10, 4, 56)) := by decide +kernel
theorem xr_122_9 : X_row 122 9 = some (9, (.getfield 88, 3), (6, 0, 31)) := by decide +kernel
theorem xr_122_12 : X_row 122 12 = some (12, (.if_icmp .gt 8, 3), (0, 0, 0)) := by decide +kernel
theorem xr_122_15 : X_row 122 15 = some (15, (.iload_n 1, 1), (0, 0, 0)) := by decide +kernel
theorem xr_122_16 : X_row 122 16 = some (16, (.iload_n 2, 1), (0, 0, 0)) := by decide +kernel
theorem xr_122_17 : X_row 122 17 = some (17, (.if_icmp .lt 5, 3), (0, 0, 0)) := by decide +kernel
theorem xr_122_20 : X_row 122 20 = some (20, (.lconst 0, 1), (0, 0, 0)) := by decide +kernel
theorem xr_122_21 : X_row 122 21 = some (21, (.lreturn, 1), (0, 0, 0)) := by decide +kernel
theorem xr_122_22 : X_row 122 22 = some (22, (.aload_n 0, 1), (0, 0, 0)) := by decide +kernel
theorem xr_122_23 : X_row 122 23 = some (23, (.getfield 54, 3), (10, 6, 60)) := by decide +kernel
theorem xr_122_26 : X_row 122 26 = some (26, (.invokevirtual 159, 3), (31, 42, 0)) := by decide +kernel
theorem xr_122_29 : X_row 122 29 = some (29, (.aload_n 0, 1), (0, 0, 0)) := by decide +kernel
theorem xr_122_30 : X_row 122 30 = some (30, (.getfield 54, 3), (10, 6, 60)) := by decide +kernel
theorem xr_122_33 : X_row 122 33 = some (33, (.iload_n 1, 1), (0, 0, 0)) := by decide +kernel
theorem xr_122_34 : X_row 122 34 = some (34, (.iload_n 2, 1), (0, 0, 0)) := by decide +kernel
theorem xr_122_35 : X_row 122 35 = some (35, (.invokevirtual 162, 3), (23, 44, 0)) := by decide +kernel
theorem xr_122_38 : X_row 122 38 = some (38, (.lreturn, 1), (0, 0, 0)) := by decide +kernel
theorem xr_123_0 : X_row 123 0 = some (0, (.aload_n 0, 1), (0, 0, 0)) := by decide +kernel
theorem xr_123_1 : X_row 123 1 = some (1, (.getfield 54, 3), (10, 6, 60)) := by decide +kernel
theorem xr_123_4 : X_row 123 4 = some (4, (.invokevirtual 159, 3), (31, 42, 0)) := by decide +kernel
theorem xr_123_7 : X_row 123 7 = some (7, (.iconst 1, 1), (0, 0, 0)) := by decide +kernel
theorem xr_123_8 : X_row 123 8 = some (8, (.istore_n 1, 1), (0, 0, 0)) := by decide +kernel
theorem xr_123_9 : X_row 123 9 = some (9, (.iload_n 1, 1), (0, 0, 0)) := by decide +kernel
theorem xr_123_10 : X_row 123 10 = some (10, (.aload_n 0, 1), (0, 0, 0)) := by decide +kernel
theorem xr_123_11 : X_row 123 11 = some (11, (.getfield 38, 3), (10, 4, 56)) := by decide +kernel
theorem xr_123_14 : X_row 123 14 = some (14, (.getfield 88, 3), (6, 0, 31)) := by decide +kernel
theorem xr_123_17 : X_row 123 17 = some (17, (.if_icmp .gt 63, 3), (0, 0, 0)) := by decide +kernel
theorem xr_123_20 : X_row 123 20 = some (20, (.iconst 0, 1), (0, 0, 0)) := by decide +kernel
theorem xr_123_21 : X_row 123 21 = some (21, (.istore_n 2, 1), (0, 0, 0)) := by decide +kernel
theorem xr_123_22 : X_row 123 22 = some (22, (.iload_n 2, 1), (0, 0, 0)) := by decide +kernel
theorem xr_123_23 : X_row 123 23 = some (23, (.iload_n 1, 1), (0, 0, 0)) := by decide +kernel
theorem xr_123_24 : X_row 123 24 = some (24, (.iadd, 1), (0, 0, 0)) := by decide +kernel
theorem xr_123_25 : X_row 123 25 = some (25, (.aload_n 0, 1), (0, 0, 0)) := by decide +kernel
theorem xr_123_26 : X_row 123 26 = some (26, (.getfield 38, 3), (10, 4, 56)) := by decide +kernel
theorem xr_123_29 : X_row 123 29 = some (29, (.getfield 88, 3), (6, 0, 31)) := by decide +kernel
theorem xr_123_32 : X_row 123 32 = some (32, (.if_icmp .gt 42, 3), (0, 0, 0)) := by decide +kernel
theorem xr_123_35 : X_row 123 35 = some (35, (.aload_n 0, 1), (0, 0, 0)) := by decide +kernel
theorem xr_123_36 : X_row 123 36 = some (36, (.getfield 54, 3), (10, 6, 60)) := by decide +kernel
theorem xr_123_39 : X_row 123 39 = some (39, (.iload_n 2, 1), (0, 0, 0)) := by decide +kernel
theorem xr_123_40 : X_row 123 40 = some (40, (.iload_n 2, 1), (0, 0, 0)) := by decide +kernel
theorem xr_123_41 : X_row 123 41 = some (41, (.iload_n 1, 1), (0, 0, 0)) := by decide +kernel
theorem xr_123_42 : X_row 123 42 = some (42, (.iadd, 1), (0, 0, 0)) := by decide +kernel
theorem xr_123_43 : X_row 123 43 = some (43, (.invokevirtual 162, 3), (23, 44, 0)) := by decide +kernel
theorem xr_123_46 : X_row 123 46 = some (46, (.lstore_n 3, 1), (0, 0, 0)) := by decide +kernel
theorem xr_123_47 : X_row 123 47 = some (47, (.lload_n 3, 1), (0, 0, 0)) := by decide +kernel
theorem xr_123_48 : X_row 123 48 = some (48, (.lconst 1, 1), (0, 0, 0)) := by decide +kernel
theorem xr_123_49 : X_row 123 49 = some (49, (.lcmp, 1), (0, 0, 0)) := by decide +kernel
theorem xr_123_50 : X_row 123 50 = some (50, (.ifCond .gt 11, 3), (0, 0, 0)) := by decide +kernel
theorem xr_123_53 : X_row 123 53 = some (53, (.lload_n 3, 1), (0, 0, 0)) := by decide +kernel
theorem xr_123_54 : X_row 123 54 = some (54, (.ldc2_w 166, 3), (18446744073709551614, 863, 0)) := by decide +kernel
theorem xr_123_57 : X_row 123 57 = some (57, (.lcmp, 1), (0, 0, 0)) := by decide +kernel
theorem xr_123_58 : X_row 123 58 = some (58, (.ifCond .ne 10, 3), (0, 0, 0)) := by decide +kernel
theorem xr_123_61 : X_row 123 61 = some (61, (.bipush 100, 2), (0, 0, 0)) := by decide +kernel
theorem xr_123_63 : X_row 123 63 = some (63, (.iload_n 2, 1), (0, 0, 0)) := by decide +kernel
theorem xr_123_64 : X_row 123 64 = some (64, (.imul, 1), (0, 0, 0)) := by decide +kernel
theorem xr_123_65 : X_row 123 65 = some (65, (.iload_n 1, 1), (0, 0, 0)) := by decide +kernel
theorem xr_123_66 : X_row 123 66 = some (66, (.iadd, 1), (0, 0, 0)) := by decide +kernel
theorem xr_123_67 : X_row 123 67 = some (67, (.ireturn, 1), (0, 0, 0)) := by decide +kernel
theorem xr_123_68 : X_row 123 68 = some (68, (.iinc 2 1, 3), (0, 0, 0)) := by decide +kernel
theorem xr_123_71 : X_row 123 71 = some (71, (.goto (-49), 3), (0, 0, 0)) := by decide +kernel
theorem xr_123_74 : X_row 123 74 = some (74, (.iinc 1 1, 3), (0, 0, 0)) := by decide +kernel
theorem xr_123_77 : X_row 123 77 = some (77, (.goto (-68), 3), (0, 0, 0)) := by decide +kernel
theorem xr_123_80 : X_row 123 80 = some (80, (.iconst (-1), 1), (0, 0, 0)) := by decide +kernel
theorem xr_123_81 : X_row 123 81 = some (81, (.ireturn, 1), (0, 0, 0)) := by decide +kernel
theorem xr_124_0 : X_row 124 0 = some (0, (.lload_n 1, 1), (0, 0, 0)) := by decide +kernel
theorem xr_124_1 : X_row 124 1 = some (1, (.lconst 0, 1), (0, 0, 0)) := by decide +kernel
theorem xr_124_2 : X_row 124 2 = some (2, (.lcmp, 1), (0, 0, 0)) := by decide +kernel
theorem xr_124_3 : X_row 124 3 = some (3, (.ifCond .lt 13, 3), (0, 0, 0)) := by decide +kernel
theorem xr_124_6 : X_row 124 6 = some (6, (.aload_n 0, 1), (0, 0, 0)) := by decide +kernel
theorem xr_124_7 : X_row 124 7 = some (7, (.getfield 38, 3), (10, 4, 56)) := by decide +kernel
theorem xr_124_10 : X_row 124 10 = some (10, (.getfield 88, 3), (6, 0, 31)) := by decide +kernel
theorem xr_124_13 : X_row 124 13 = some (13, (.ifCond .ne 5, 3), (0, 0, 0)) := by decide +kernel
theorem xr_124_16 : X_row 124 16 = some (16, (.iconst (-1), 1), (0, 0, 0)) := by decide +kernel
theorem xr_124_17 : X_row 124 17 = some (17, (.ireturn, 1), (0, 0, 0)) := by decide +kernel
theorem xr_124_18 : X_row 124 18 = some (18, (.aload_n 0, 1), (0, 0, 0)) := by decide +kernel
theorem xr_124_19 : X_row 124 19 = some (19, (.getfield 54, 3), (10, 6, 60)) := by decide +kernel
theorem xr_124_22 : X_row 124 22 = some (22, (.invokevirtual 159, 3), (31, 42, 0)) := by decide +kernel
theorem xr_124_25 : X_row 124 25 = some (25, (.aload_n 0, 1), (0, 0, 0)) := by decide +kernel
theorem xr_124_26 : X_row 124 26 = some (26, (.getfield 54, 3), (10, 6, 60)) := by decide +kernel
theorem xr_124_29 : X_row 124 29 = some (29, (.iconst 0, 1), (0, 0, 0)) := by decide +kernel
theorem xr_124_30 : X_row 124 30 = some (30, (.aload_n 0, 1), (0, 0, 0)) := by decide +kernel
theorem xr_124_31 : X_row 124 31 = some (31, (.getfield 38, 3), (10, 4, 56)) := by decide +kernel
theorem xr_124_34 : X_row 124 34 = some (34, (.getfield 88, 3), (6, 0, 31)) := by decide +kernel
theorem xr_124_37 : X_row 124 37 = some (37, (.invokevirtual 162, 3), (23, 44, 0)) := by decide +kernel
theorem xr_124_40 : X_row 124 40 = some (40, (.lstore_n 3, 1), (0, 0, 0)) := by decide +kernel
theorem xr_124_41 : X_row 124 41 = some (41, (.lload_n 3, 1), (0, 0, 0)) := by decide +kernel
theorem xr_124_42 : X_row 124 42 = some (42, (.ldc2_w 166, 3), (18446744073709551614, 863, 0)) := by decide +kernel
theorem xr_124_45 : X_row 124 45 = some (45, (.lcmp, 1), (0, 0, 0)) := by decide +kernel
theorem xr_124_46 : X_row 124 46 = some (46, (.ifCond .eq 11, 3), (0, 0, 0)) := by decide +kernel
theorem xr_124_49 : X_row 124 49 = some (49, (.lload_n 1, 1), (0, 0, 0)) := by decide +kernel
theorem xr_124_50 : X_row 124 50 = some (50, (.lload_n 3, 1), (0, 0, 0)) := by decide +kernel
theorem xr_124_51 : X_row 124 51 = some (51, (.lcmp, 1), (0, 0, 0)) := by decide +kernel
theorem xr_124_52 : X_row 124 52 = some (52, (.ifCond .lt 5, 3), (0, 0, 0)) := by decide +kernel
theorem xr_124_55 : X_row 124 55 = some (55, (.iconst (-1), 1), (0, 0, 0)) := by decide +kernel
theorem xr_124_56 : X_row 124 56 = some (56, (.ireturn, 1), (0, 0, 0)) := by decide +kernel
theorem xr_124_57 : X_row 124 57 = some (57, (.aload_n 0, 1), (0, 0, 0)) := by decide +kernel
theorem xr_124_58 : X_row 124 58 = some (58, (.getfield 63, 3), (10, 7, 62)) := by decide +kernel
theorem xr_124_61 : X_row 124 61 = some (61, (.lload_n 1, 1), (0, 0, 0)) := by decide +kernel
theorem xr_124_62 : X_row 124 62 = some (62, (.invokevirtual 168, 3), (40, 46, 0)) := by decide +kernel
theorem xr_124_65 : X_row 124 65 = some (65, (.aload_n 0, 1), (0, 0, 0)) := by decide +kernel
theorem xr_124_66 : X_row 124 66 = some (66, (.getfield 72, 3), (10, 8, 64)) := by decide +kernel
theorem xr_124_69 : X_row 124 69 = some (69, (.invokevirtual 172, 3), (105, 26, 0)) := by decide +kernel
theorem xr_124_72 : X_row 124 72 = some (72, (.aload_n 0, 1), (0, 0, 0)) := by decide +kernel
theorem xr_124_73 : X_row 124 73 = some (73, (.getfield 45, 3), (10, 5, 58)) := by decide +kernel
theorem xr_124_76 : X_row 124 76 = some (76, (.getfield 109, 3), (5, 0, 33)) := by decide +kernel
theorem xr_124_79 : X_row 124 79 = some (79, (.ireturn, 1), (0, 0, 0)) := by decide +kernel
theorem xr_127_0 : X_row 127 0 = some (0, (.aload_n 0, 1), (0, 0, 0)) := by decide +kernel
theorem xr_127_1 : X_row 127 1 = some (1, (.getfield 45, 3), (10, 5, 58)) := by decide +kernel
theorem xr_127_4 : X_row 127 4 = some (4, (.getfield 109, 3), (5, 0, 33)) := by decide +kernel
theorem xr_127_7 : X_row 127 7 = some (7, (.ifCond .ne 7, 3), (0, 0, 0)) := by decide +kernel
theorem xr_127_10 : X_row 127 10 = some (10, (.iconst (-1), 1), (0, 0, 0)) := by decide +kernel
theorem xr_127_11 : X_row 127 11 = some (11, (.goto 14, 3), (0, 0, 0)) := by decide +kernel
theorem xr_127_14 : X_row 127 14 = some (14, (.aload_n 0, 1), (0, 0, 0)) := by decide +kernel
theorem xr_127_15 : X_row 127 15 = some (15, (.getfield 72, 3), (10, 8, 64)) := by decide +kernel
theorem xr_127_18 : X_row 127 18 = some (18, (.aload_n 0, 1), (0, 0, 0)) := by decide +kernel
theorem xr_127_19 : X_row 127 19 = some (19, (.getfield 19, 3), (10, 1, 50)) := by decide +kernel
theorem xr_127_22 : X_row 127 22 = some (22, (.invokevirtual 197, 3), (106, 48, 0)) := by decide +kernel
theorem xr_127_25 : X_row 127 25 = some (25, (.ireturn, 1), (0, 0, 0)) := by decide +kernel
theorem xn_23 : X_nL 23 = 3 := by decide +kernel
theorem xf_23 : X_na 23 = 2 ∧ X_ci 23 = 1 ∧ X_rt 23 = (some .long) := by decide +kernel
theorem xn_122 : X_nL 122 = 3 := by decide +kernel
theorem xf_122 : X_na 122 = 2 ∧ X_ci 122 = 10 ∧ X_rt 122 = (some .long) := by decide +kernel
theorem xn_123 : X_nL 123 = 5 := by decide +kernel
theorem xf_123 : X_na 123 = 0 ∧ X_ci 123 = 10 ∧ X_rt 123 = (some .int) := by decide +kernel
theorem xn_124 : X_nL 124 = 5 := by decide +kernel
theorem xf_124 : X_na 124 = 1 ∧ X_ci 124 = 10 ∧ X_rt 124 = (some .int) := by decide +kernel
theorem xn_127 : X_nL 127 = 1 := by decide +kernel
theorem xf_127 : X_na 127 = 0 ∧ X_ci 127 = 10 ∧ X_rt 127 = (some .int) := by decide +kernel
theorem c_count (sc : X_Sc) (S : X_S) (oK : Int → Int64) (oW : Int → Int64) (oA : Int → Int64) (oH : Int → Int64) (tl : Int → Int64) (B : Nat) (rc : Int) (rn : Int → Int64) (kn : Int → Int64) (G : X_G) (B2 : Nat) (tn : Int) (fl : Int) (i : Int) (j : Int) (hO1 : S.1 1 = .inr (10, [.ref 2, .ref B, .ref B2, .ref 496, .ref 501, .ref 504, .ref 511, .ref 517, .ref 527])) (hO501 : S.1 501 = .inr (6, [.int (iI tn), .ref 502, .ref 503])) (hO511 : S.1 511 = .inr (1, [.ref B, .ref 501, .int (iI fl), .ref 512, .ref 513, .ref 514, .ref 515, .ref 516])) (hA512 : S.1 512 = .inl (.long, 5115, .inr (.inl fun k : Nat => oK (k : Int)))) (hA513 : S.1 513 = .inl (.long, 13950, .inr (.inl fun k : Nat => oW (k : Int)))) (hA514 : S.1 514 = .inl (.long, 465, .inr (.inl fun k : Nat => oA (k : Int)))) (hA515 : S.1 515 = .inl (.long, 55800, .inr (.inl fun k : Nat => oH (k : Int)))) (hA516 : S.1 516 = .inl (.long, 7200, .inr (.inl fun k : Nat => tl (k : Int)))) (hB : B = 4 ∨ B = 250) (hb : C_bk S B rc (gk G) (gw G) rn (gl G) kn (ga G)) (hs : C_ws S B (gD G) (gW G)) (hG : X_Gok G) (hA502 : S.1 502 = .inl (.long, 30, .inr (.inl fun k : Nat => (gt G) (k : Int)))) (htn : 0 ≤ tn ∧ tn ≤ 30) (hfl : 0 ≤ fl ∧ fl ≤ 1) (hC : fl = 1 → X_cht G (-2) tn oK oW oA oH) (hi : -2147483648 ≤ i ∧ i ≤ 2147483647) (hj : -2147483648 ≤ j ∧ j ≤ 2147483647) : X_T sc 122 (0, [(0, .ref 1), (1, .int (iI i)), (2, .int (iI j))], [], S) (fun v S' => ∃ (oK1 : Int → Int64) (oW1 : Int → Int64) (oA1 : Int → Int64) (oH1 : Int → Int64) (tl1 : Int → Int64) (fl1 : Int), v = some (.long (X_qCt G tn i j)) ∧ (0 ≤ fl1 ∧ fl1 ≤ 1) ∧ (fl1 = 1 → X_cht G (-2) tn oK1 oW1 oA1 oH1) ∧ S'.1 511 = .inr (1, [.ref B, .ref 501, .int (iI fl1), .ref 512, .ref 513, .ref 514, .ref 515, .ref 516]) ∧ S'.1 512 = .inl (.long, 5115, .inr (.inl fun k : Nat => oK1 (k : Int))) ∧ S'.1 513 = .inl (.long, 13950, .inr (.inl fun k : Nat => oW1 (k : Int))) ∧ S'.1 514 = .inl (.long, 465, .inr (.inl fun k : Nat => oA1 (k : Int))) ∧ S'.1 515 = .inl (.long, 55800, .inr (.inl fun k : Nat => oH1 (k : Int))) ∧ S'.1 516 = .inl (.long, 7200, .inr (.inl fun k : Nat => tl1 (k : Int))) ∧ (X_Fr (fun q => 511 ≤ q ∧ q ≤ 516) S S')) := by
  obtain ⟨hb0, hb1, hb2, hb3, hb4, ⟨f, hb5, hf⟩, ⟨hrc, hrcb⟩, ⟨hkc, hkcb⟩, ⟨hwc, hwcb⟩⟩ := id hb
  refine X_QI (fun Q hQ => ?_)
  refine T_p xr_122_0 xn_122 (pc' := 1) (ls' := [(0, .ref 1), (1, .int (iI i)), (2, .int (iI j))]) (st' := [.int (iI i)]) rfl ?_
  refine T_zif_lt xr_122_1 (t := 20) (pc' := 4) rfl rfl (fun c2380 => ?_) (fun c2380 => ?_)
  · skip
    have c2380 : i < 0 := c2380
    refine T_p xr_122_20 xn_122 (pc' := 21) (ls' := [(0, .ref 1), (1, .int (iI i)), (2, .int (iI j))]) (st' := [.long (iL 0)]) rfl ?_
    refine T_lret xr_122_21 xf_122.2.2 rfl ?_
    refine hQ _ _ ?_
    exact ⟨oK, oW, oA, oH, tl, fl, (by rw [show X_qCt G tn i j = iL 0 from by unfold X_qCt; rw [if_neg (by omega)]]), hfl, hC, hO511, hA512, hA513, hA514, hA515, hA516, X_Fr.rf⟩
  · skip
    have c2380 : ¬ (i < 0) := c2380
    refine T_p xr_122_4 xn_122 (pc' := 5) (ls' := [(0, .ref 1), (1, .int (iI i)), (2, .int (iI j))]) (st' := [.int (iI j)]) rfl ?_
    refine T_p xr_122_5 xn_122 (pc' := 6) (ls' := [(0, .ref 1), (1, .int (iI i)), (2, .int (iI j))]) (st' := [.ref 1, .int (iI j)]) rfl ?_
    refine T_get xr_122_6 hO1 rfl (v := .ref 501) rfl (pc' := 9) rfl ?_
    refine T_get xr_122_9 hO501 rfl (v := .int (iI tn)) rfl (pc' := 12) rfl ?_
    refine T_zicmp_gt xr_122_12 (t := 20) (pc' := 15) rfl rfl (fun c2381 => ?_) (fun c2381 => ?_)
    · skip
      have c2381 : tn < j := c2381
      refine T_p xr_122_20 xn_122 (pc' := 21) (ls' := [(0, .ref 1), (1, .int (iI i)), (2, .int (iI j))]) (st' := [.long (iL 0)]) rfl ?_
      refine T_lret xr_122_21 xf_122.2.2 rfl ?_
      refine hQ _ _ ?_
      exact ⟨oK, oW, oA, oH, tl, fl, (by rw [show X_qCt G tn i j = iL 0 from by unfold X_qCt; rw [if_neg (by omega)]]), hfl, hC, hO511, hA512, hA513, hA514, hA515, hA516, X_Fr.rf⟩
    · skip
      have c2381 : ¬ (tn < j) := c2381
      refine T_p xr_122_15 xn_122 (pc' := 16) (ls' := [(0, .ref 1), (1, .int (iI i)), (2, .int (iI j))]) (st' := [.int (iI i)]) rfl ?_
      refine T_p xr_122_16 xn_122 (pc' := 17) (ls' := [(0, .ref 1), (1, .int (iI i)), (2, .int (iI j))]) (st' := [.int (iI j), .int (iI i)]) rfl ?_
      refine T_zicmp_lt xr_122_17 (t := 22) (pc' := 20) rfl rfl (fun c2382 => ?_) (fun c2382 => ?_)
      · skip
        have c2382 : i < j := c2382
        refine T_p xr_122_22 xn_122 (pc' := 23) (ls' := [(0, .ref 1), (1, .int (iI i)), (2, .int (iI j))]) (st' := [.ref 1]) rfl ?_
        refine T_get xr_122_23 hO1 rfl (v := .ref 511) rfl (pc' := 26) rfl ?_
        refine T_cv (S := S) (q := 511) xr_122_26 xf_31.1 xf_31.2.1 xn_31 (as := []) (r := []) rfl hO511 (Nat.le_of_ble_eq_true rfl) (Nat.le_of_ble_eq_true rfl) (pc' := 29) rfl (ls' := [(0, .ref 511)]) rfl ?_
        refine T_mono (c_fill sc S oK oW oA oH tl B rc rn kn G tn fl hO501 hO511 hA512 hA513 hA514 hA515 hA516 hB ⟨hb0, hb1, hb2, hb3, hb4, ⟨f, hb5, hf⟩, ⟨by omega, by omega⟩, ⟨by omega, by omega⟩, ⟨by omega, by omega⟩⟩ hs hG hA502 (by omega) (by omega) hC) (fun v2383 S2384 h2385 => ?_)
        rcases h2385 with ⟨oK2386, oW2387, oA2388, oH2389, tl2390, hv2391, hp2392, ho2393, ha2394, ha2395, ha2396, ha2397, ha2398, hf2399⟩
        rw [hv2391]
        show X_T sc 122 (29, [(0, .ref 1), (1, .int (iI i)), (2, .int (iI j))], [], S2384) _
        refine T_p xr_122_29 xn_122 (pc' := 30) (ls' := [(0, .ref 1), (1, .int (iI i)), (2, .int (iI j))]) (st' := [.ref 1]) rfl ?_
        have h2400 := (hf2399.1 1 (by first | decide | omega)).trans (hO1)
        refine T_get xr_122_30 h2400 rfl (v := .ref 511) rfl (pc' := 33) rfl ?_
        refine T_p xr_122_33 xn_122 (pc' := 34) (ls' := [(0, .ref 1), (1, .int (iI i)), (2, .int (iI j))]) (st' := [.int (iI i), .ref 511]) rfl ?_
        refine T_p xr_122_34 xn_122 (pc' := 35) (ls' := [(0, .ref 1), (1, .int (iI i)), (2, .int (iI j))]) (st' := [.int (iI j), .int (iI i), .ref 511]) rfl ?_
        refine T_cv (S := S2384) (q := 511) xr_122_35 xf_23.1 xf_23.2.1 xn_23 (as := [.int (iI i), .int (iI j)]) (r := []) rfl ho2393 (Nat.le_of_ble_eq_true rfl) (Nat.le_of_ble_eq_true rfl) (pc' := 38) rfl (ls' := [(0, .ref 511), (1, .int (iI i)), (2, .int (iI j))]) rfl ?_
        refine T_p xr_23_0 xn_23 (pc' := 1) (ls' := [(0, .ref 511), (1, .int (iI i)), (2, .int (iI j))]) (st' := [.ref 511]) rfl ?_
        refine T_get xr_23_1 ho2393 rfl (v := .ref 514) rfl (pc' := 4) rfl ?_
        refine T_p xr_23_4 xn_23 (pc' := 5) (ls' := [(0, .ref 511), (1, .int (iI i)), (2, .int (iI j))]) (st' := [.int (iI i), .ref 514]) rfl ?_
        refine T_p xr_23_5 xn_23 (pc' := 6) (ls' := [(0, .ref 511), (1, .int (iI i)), (2, .int (iI j))]) (st' := [.int (iI j), .int (iI i), .ref 514]) rfl ?_
        refine T_cs xr_23_6 (by decide) xf_24.1 xn_24 (as := [.int (iI i), .int (iI j)]) (r := [.ref 514]) rfl (Nat.le_of_ble_eq_true rfl) (Nat.le_of_ble_eq_true rfl) (pc' := 9) rfl (ls' := [(0, .int (iI i)), (1, .int (iI j))]) rfl ?_
        refine T_mono (c_rowOf sc S2384 i j (by omega)) (fun v2401 S2402 h2403 => ?_)
        rcases h2403 with ⟨hv2404, hf2405⟩
        rw [hv2404]
        rw [hf2405]
        have hr2406 := X_ro_r (i := i) (j := j) (by omega) (by omega) (by omega)
        show X_T sc 23 (9, [(0, .ref 511), (1, .int (iI i)), (2, .int (iI j))], [.int (iI (X_ro i j)), .ref 514], S2384) _
        refine T_zlald xr_23_9 ha2396 (pc' := 10) rfl ?_
        refine T_le (y := (X_st (-2) (X_all G i j))) ((hp2392 i j (by omega) (by omega) (by omega)).2.2.1) ?_
        refine T_lret xr_23_10 xf_23.2.2 rfl ?_
        show X_T sc 122 (38, [(0, .ref 1), (1, .int (iI i)), (2, .int (iI j))], [.long (X_st (-2) (X_all G i j))], S2384) _
        refine T_lret xr_122_38 xf_122.2.2 rfl ?_
        refine hQ _ _ ?_
        exact ⟨oK2386, oW2387, oA2388, oH2389, tl2390, 1, (by rw [show X_qCt G tn i j = X_st (-2) (X_all G i j) from by unfold X_qCt; rw [if_pos (by omega)]]), (by omega), (fun _ => hp2392), ho2393, ha2394, ha2395, ha2396, ha2397, ha2398, (X_Fr.rf).tr (X_Fr.mono ⟨hf2399.1, hf2399.2⟩ (fun q hq => (by omega)))⟩
      · skip
        have c2382 : ¬ (i < j) := c2382
        refine T_p xr_122_20 xn_122 (pc' := 21) (ls' := [(0, .ref 1), (1, .int (iI i)), (2, .int (iI j))]) (st' := [.long (iL 0)]) rfl ?_
        refine T_lret xr_122_21 xf_122.2.2 rfl ?_
        refine hQ _ _ ?_
        exact ⟨oK, oW, oA, oH, tl, fl, (by rw [show X_qCt G tn i j = iL 0 from by unfold X_qCt; rw [if_neg (by omega)]]), hfl, hC, hO511, hA512, hA513, hA514, hA515, hA516, X_Fr.rf⟩
theorem c_quarrel (sc : X_Sc) (S : X_S) (oK : Int → Int64) (oW : Int → Int64) (oA : Int → Int64) (oH : Int → Int64) (tl : Int → Int64) (B : Nat) (rc : Int) (rn : Int → Int64) (kn : Int → Int64) (G : X_G) (B2 : Nat) (tn : Int) (fl : Int) (hO1 : S.1 1 = .inr (10, [.ref 2, .ref B, .ref B2, .ref 496, .ref 501, .ref 504, .ref 511, .ref 517, .ref 527])) (hO501 : S.1 501 = .inr (6, [.int (iI tn), .ref 502, .ref 503])) (hO511 : S.1 511 = .inr (1, [.ref B, .ref 501, .int (iI fl), .ref 512, .ref 513, .ref 514, .ref 515, .ref 516])) (hA512 : S.1 512 = .inl (.long, 5115, .inr (.inl fun k : Nat => oK (k : Int)))) (hA513 : S.1 513 = .inl (.long, 13950, .inr (.inl fun k : Nat => oW (k : Int)))) (hA514 : S.1 514 = .inl (.long, 465, .inr (.inl fun k : Nat => oA (k : Int)))) (hA515 : S.1 515 = .inl (.long, 55800, .inr (.inl fun k : Nat => oH (k : Int)))) (hA516 : S.1 516 = .inl (.long, 7200, .inr (.inl fun k : Nat => tl (k : Int)))) (hB : B = 4 ∨ B = 250) (hb : C_bk S B rc (gk G) (gw G) rn (gl G) kn (ga G)) (hs : C_ws S B (gD G) (gW G)) (hG : X_Gok G) (hA502 : S.1 502 = .inl (.long, 30, .inr (.inl fun k : Nat => (gt G) (k : Int)))) (htn : 0 ≤ tn ∧ tn ≤ 30) (hfl : 0 ≤ fl ∧ fl ≤ 1) (hC : fl = 1 → X_cht G (-2) tn oK oW oA oH) : X_T sc 123 (0, [(0, .ref 1)], [], S) (fun v S' => ∃ (oK1 : Int → Int64) (oW1 : Int → Int64) (oA1 : Int → Int64) (oH1 : Int → Int64) (tl1 : Int → Int64) (fl1 : Int) (r : Int), v = some (.int (iI r)) ∧ (0 ≤ fl1 ∧ fl1 ≤ 1) ∧ (fl1 = 1 → X_cht G (-2) tn oK1 oW1 oA1 oH1) ∧ X_qQu G tn r ∧ S'.1 511 = .inr (1, [.ref B, .ref 501, .int (iI fl1), .ref 512, .ref 513, .ref 514, .ref 515, .ref 516]) ∧ S'.1 512 = .inl (.long, 5115, .inr (.inl fun k : Nat => oK1 (k : Int))) ∧ S'.1 513 = .inl (.long, 13950, .inr (.inl fun k : Nat => oW1 (k : Int))) ∧ S'.1 514 = .inl (.long, 465, .inr (.inl fun k : Nat => oA1 (k : Int))) ∧ S'.1 515 = .inl (.long, 55800, .inr (.inl fun k : Nat => oH1 (k : Int))) ∧ S'.1 516 = .inl (.long, 7200, .inr (.inl fun k : Nat => tl1 (k : Int))) ∧ (X_Fr (fun q => 511 ≤ q ∧ q ≤ 516) S S')) := by
  obtain ⟨hb0, hb1, hb2, hb3, hb4, ⟨f, hb5, hf⟩, ⟨hrc, hrcb⟩, ⟨hkc, hkcb⟩, ⟨hwc, hwcb⟩⟩ := id hb
  refine X_QI (fun Q hQ => ?_)
  refine T_p xr_123_0 xn_123 (pc' := 1) (ls' := [(0, .ref 1)]) (st' := [.ref 1]) rfl ?_
  refine T_get xr_123_1 hO1 rfl (v := .ref 511) rfl (pc' := 4) rfl ?_
  refine T_cv (S := S) (q := 511) xr_123_4 xf_31.1 xf_31.2.1 xn_31 (as := []) (r := []) rfl hO511 (Nat.le_of_ble_eq_true rfl) (Nat.le_of_ble_eq_true rfl) (pc' := 7) rfl (ls' := [(0, .ref 511)]) rfl ?_
  refine T_mono (c_fill sc S oK oW oA oH tl B rc rn kn G tn fl hO501 hO511 hA512 hA513 hA514 hA515 hA516 hB ⟨hb0, hb1, hb2, hb3, hb4, ⟨f, hb5, hf⟩, ⟨by omega, by omega⟩, ⟨by omega, by omega⟩, ⟨by omega, by omega⟩⟩ hs hG hA502 (by omega) (by omega) hC) (fun v2407 S2408 h2409 => ?_)
  rcases h2409 with ⟨oK2410, oW2411, oA2412, oH2413, tl2414, hv2415, hp2416, ho2417, ha2418, ha2419, ha2420, ha2421, ha2422, hf2423⟩
  rw [hv2415]
  show X_T sc 123 (7, [(0, .ref 1)], [], S2408) _
  refine T_p xr_123_7 xn_123 (pc' := 8) (ls' := [(0, .ref 1)]) (st' := [.int (iI 1)]) rfl ?_
  refine T_p xr_123_8 xn_123 (pc' := 9) (ls' := [(1, .int (iI 1)), (0, .ref 1)]) (st' := []) rfl ?_
  have L2424 : ∀ (m2426 : Nat) (n : Int) (hn : 1 ≤ n ∧ n ≤ tn + 1) (hno : ∀ n1 i1, 1 ≤ n1 → 0 ≤ i1 → i1 + n1 ≤ tn → n1 < n → ¬ 1 < X_all G i1 (i1 + n1)) (hm2427 : tn + 1 - n < m2426), X_T sc 123 (9, [(1, .int (iI n)), (0, .ref 1)], [], S2408) Q := by
    intro m2426
    induction m2426 with
    | zero =>
      intro n hn hno hm2427
      exact (show False by omega).elim
    | succ m2426 ih2425 =>
      intro n hn hno hm2427
      refine T_p xr_123_9 xn_123 (pc' := 10) (ls' := [(1, .int (iI n)), (0, .ref 1)]) (st' := [.int (iI n)]) rfl ?_
      refine T_p xr_123_10 xn_123 (pc' := 11) (ls' := [(1, .int (iI n)), (0, .ref 1)]) (st' := [.ref 1, .int (iI n)]) rfl ?_
      have h2429 := (hf2423.1 1 (by first | decide | omega)).trans (hO1)
      refine T_get xr_123_11 h2429 rfl (v := .ref 501) rfl (pc' := 14) rfl ?_
      have h2430 := (hf2423.1 501 (by first | decide | omega)).trans (hO501)
      refine T_get xr_123_14 h2430 rfl (v := .int (iI tn)) rfl (pc' := 17) rfl ?_
      refine T_zicmp_gt xr_123_17 (t := 80) (pc' := 20) rfl rfl (fun c2431 => ?_) (fun c2431 => ?_)
      · skip
        have c2431 : tn < n := c2431
        refine T_p xr_123_80 xn_123 (pc' := 81) (ls' := [(1, .int (iI n)), (0, .ref 1)]) (st' := [.int (iI (-1))]) rfl ?_
        refine T_iret xr_123_81 xf_123.2.2 rfl ?_
        refine hQ _ _ ?_
        exact ⟨oK2410, oW2411, oA2412, oH2413, tl2414, 1, (-1), rfl, (by omega), (fun _ => hp2416), (Or.inl ⟨rfl, fun n1 i1 h1 h2 h3 => hno n1 i1 h1 h2 h3 (by omega)⟩), ho2417, ha2418, ha2419, ha2420, ha2421, ha2422, (X_Fr.rf).tr (X_Fr.mono ⟨hf2423.1, hf2423.2⟩ (fun q hq => (by omega)))⟩
      · skip
        have c2431 : ¬ (tn < n) := c2431
        refine T_p xr_123_20 xn_123 (pc' := 21) (ls' := [(1, .int (iI n)), (0, .ref 1)]) (st' := [.int (iI 0)]) rfl ?_
        refine T_p xr_123_21 xn_123 (pc' := 22) (ls' := [(2, .int (iI 0)), (1, .int (iI n)), (0, .ref 1)]) (st' := []) rfl ?_
        have L2432 : ∀ (m2434 : Nat) (i : Int) (hi : 0 ≤ i ∧ i + n ≤ tn + 1) (hno2 : ∀ n1 i1, 1 ≤ n1 → 0 ≤ i1 → i1 + n1 ≤ tn → (n1 < n ∨ (n1 = n ∧ i1 < i)) → ¬ 1 < X_all G i1 (i1 + n1)) (hm2435 : tn + 1 - i < m2434), X_T sc 123 (22, [(2, .int (iI i)), (1, .int (iI n)), (0, .ref 1)], [], S2408) Q := by
          intro m2434
          induction m2434 with
          | zero =>
            intro i hi hno2 hm2435
            exact (show False by omega).elim
          | succ m2434 ih2433 =>
            intro i hi hno2 hm2435
            refine T_p xr_123_22 xn_123 (pc' := 23) (ls' := [(2, .int (iI i)), (1, .int (iI n)), (0, .ref 1)]) (st' := [.int (iI i)]) rfl ?_
            refine T_p xr_123_23 xn_123 (pc' := 24) (ls' := [(2, .int (iI i)), (1, .int (iI n)), (0, .ref 1)]) (st' := [.int (iI n), .int (iI i)]) rfl ?_
            refine T_ziadd xr_123_24 (z := i + n) rfl (pc' := 25) rfl ?_
            refine T_p xr_123_25 xn_123 (pc' := 26) (ls' := [(2, .int (iI i)), (1, .int (iI n)), (0, .ref 1)]) (st' := [.ref 1, .int (iI (i + n))]) rfl ?_
            refine T_get xr_123_26 h2429 rfl (v := .ref 501) rfl (pc' := 29) rfl ?_
            refine T_get xr_123_29 h2430 rfl (v := .int (iI tn)) rfl (pc' := 32) rfl ?_
            refine T_zicmp_gt xr_123_32 (t := 74) (pc' := 35) rfl rfl (fun c2437 => ?_) (fun c2437 => ?_)
            · skip
              have c2437 : tn < (i + n) := c2437
              refine T_ziinc xr_123_74 xn_123 (a := n) (z := n + 1) rfl (Nat.le_of_ble_eq_true rfl) (by omega) (ls' := [(1, .int (iI (n + 1))), (2, .int (iI i)), (0, .ref 1)]) rfl (pc' := 77) rfl ?_
              refine T_p xr_123_77 xn_123 (pc' := 9) (ls' := [(1, .int (iI (n + 1))), (2, .int (iI i)), (0, .ref 1)]) (st' := []) rfl ?_
              refine T_sub (ls := [(1, .int (iI (n + 1))), (0, .ref 1)]) ⟨rfl, rfl, trivial⟩ rfl rfl ?_
              exact ih2425 (n + 1)  (by omega) (fun n1 i1 h1 h2 h3 h4 => hno2 n1 i1 h1 h2 h3 (by omega)) (by omega)
            · skip
              have c2437 : ¬ (tn < (i + n)) := c2437
              refine T_p xr_123_35 xn_123 (pc' := 36) (ls' := [(2, .int (iI i)), (1, .int (iI n)), (0, .ref 1)]) (st' := [.ref 1]) rfl ?_
              refine T_get xr_123_36 h2429 rfl (v := .ref 511) rfl (pc' := 39) rfl ?_
              refine T_p xr_123_39 xn_123 (pc' := 40) (ls' := [(2, .int (iI i)), (1, .int (iI n)), (0, .ref 1)]) (st' := [.int (iI i), .ref 511]) rfl ?_
              refine T_p xr_123_40 xn_123 (pc' := 41) (ls' := [(2, .int (iI i)), (1, .int (iI n)), (0, .ref 1)]) (st' := [.int (iI i), .int (iI i), .ref 511]) rfl ?_
              refine T_p xr_123_41 xn_123 (pc' := 42) (ls' := [(2, .int (iI i)), (1, .int (iI n)), (0, .ref 1)]) (st' := [.int (iI n), .int (iI i), .int (iI i), .ref 511]) rfl ?_
              refine T_ziadd xr_123_42 (z := i + n) rfl (pc' := 43) rfl ?_
              refine T_cv (S := S2408) (q := 511) xr_123_43 xf_23.1 xf_23.2.1 xn_23 (as := [.int (iI i), .int (iI (i + n))]) (r := []) rfl ho2417 (Nat.le_of_ble_eq_true rfl) (Nat.le_of_ble_eq_true rfl) (pc' := 46) rfl (ls' := [(0, .ref 511), (1, .int (iI i)), (2, .int (iI (i + n)))]) rfl ?_
              refine T_p xr_23_0 xn_23 (pc' := 1) (ls' := [(0, .ref 511), (1, .int (iI i)), (2, .int (iI (i + n)))]) (st' := [.ref 511]) rfl ?_
              refine T_get xr_23_1 ho2417 rfl (v := .ref 514) rfl (pc' := 4) rfl ?_
              refine T_p xr_23_4 xn_23 (pc' := 5) (ls' := [(0, .ref 511), (1, .int (iI i)), (2, .int (iI (i + n)))]) (st' := [.int (iI i), .ref 514]) rfl ?_
              refine T_p xr_23_5 xn_23 (pc' := 6) (ls' := [(0, .ref 511), (1, .int (iI i)), (2, .int (iI (i + n)))]) (st' := [.int (iI (i + n)), .int (iI i), .ref 514]) rfl ?_
              refine T_cs xr_23_6 (by decide) xf_24.1 xn_24 (as := [.int (iI i), .int (iI (i + n))]) (r := [.ref 514]) rfl (Nat.le_of_ble_eq_true rfl) (Nat.le_of_ble_eq_true rfl) (pc' := 9) rfl (ls' := [(0, .int (iI i)), (1, .int (iI (i + n)))]) rfl ?_
              refine T_mono (c_rowOf sc S2408 i (i + n) (by omega)) (fun v2438 S2439 h2440 => ?_)
              rcases h2440 with ⟨hv2441, hf2442⟩
              rw [hv2441]
              rw [hf2442]
              have hr2443 := X_ro_r (i := i) (j := (i + n)) (by omega) (by omega) (by omega)
              show X_T sc 23 (9, [(0, .ref 511), (1, .int (iI i)), (2, .int (iI (i + n)))], [.int (iI (X_ro i (i + n))), .ref 514], S2408) _
              refine T_zlald xr_23_9 ha2420 (pc' := 10) rfl ?_
              refine T_le (y := (X_st (-2) (X_all G i (i + n)))) ((hp2416 i (i + n) (by omega) (by omega) (by omega)).2.2.1) ?_
              refine T_lret xr_23_10 xf_23.2.2 rfl ?_
              show X_T sc 123 (46, [(2, .int (iI i)), (1, .int (iI n)), (0, .ref 1)], [.long (X_st (-2) (X_all G i (i + n)))], S2408) _
              refine T_p xr_123_46 xn_123 (pc' := 47) (ls' := [(3, .long (X_st (-2) (X_all G i (i + n)))), (2, .int (iI i)), (1, .int (iI n)), (0, .ref 1)]) (st' := []) rfl ?_
              refine T_p xr_123_47 xn_123 (pc' := 48) (ls' := [(3, .long (X_st (-2) (X_all G i (i + n)))), (2, .int (iI i)), (1, .int (iI n)), (0, .ref 1)]) (st' := [.long (X_st (-2) (X_all G i (i + n)))]) rfl ?_
              refine T_p xr_123_48 xn_123 (pc' := 49) (ls' := [(3, .long (X_st (-2) (X_all G i (i + n)))), (2, .int (iI i)), (1, .int (iI n)), (0, .ref 1)]) (st' := [.long (iL 1), .long (X_st (-2) (X_all G i (i + n)))]) rfl ?_
              refine T_lc_gt xr_123_49 xr_123_50 (t := 61) (pc' := 53) rfl rfl (fun c2444 => ?_) (fun c2444 => ?_)
              · skip
                have c2444 : (iL 1) < (X_st (-2) (X_all G i (i + n))) := c2444
                refine T_p xr_123_61 xn_123 (pc' := 63) (ls' := [(3, .long (X_st (-2) (X_all G i (i + n)))), (2, .int (iI i)), (1, .int (iI n)), (0, .ref 1)]) (st' := [.int (iI 100)]) rfl ?_
                refine T_p xr_123_63 xn_123 (pc' := 64) (ls' := [(3, .long (X_st (-2) (X_all G i (i + n)))), (2, .int (iI i)), (1, .int (iI n)), (0, .ref 1)]) (st' := [.int (iI i), .int (iI 100)]) rfl ?_
                refine T_zimul xr_123_64 (z := 100 * i) rfl (pc' := 65) rfl ?_
                refine T_p xr_123_65 xn_123 (pc' := 66) (ls' := [(3, .long (X_st (-2) (X_all G i (i + n)))), (2, .int (iI i)), (1, .int (iI n)), (0, .ref 1)]) (st' := [.int (iI n), .int (iI (100 * i))]) rfl ?_
                refine T_ziadd xr_123_66 (z := (100 * i) + n) rfl (pc' := 67) rfl ?_
                refine T_iret xr_123_67 xf_123.2.2 rfl ?_
                refine hQ _ _ ?_
                exact ⟨oK2410, oW2411, oA2412, oH2413, tl2414, 1, (100 * i) + n, rfl, (by omega), (fun _ => hp2416), (Or.inr ⟨n, i, by omega, by omega, (show 1 < X_all G i (i + n) from by
                      by_cases hm : X_all G i (i + n) ≤ 9223372036854775807
                      · have h1 : iL 1 < X_st (-2) (X_all G i (i + n)) := by first | assumption | exact absurd ((X_st_m (m := -2) (by omega)).mp (show X_st (-2) (X_all G i (i + n)) = iL (-2) by first | assumption | exact Classical.not_not.mp (by assumption))) (by omega)
                        rw [X_st_lo hm, iL_lt (by omega) (by omega) (by omega) (by omega)] at h1; omega
                      · omega), fun n1 i1 h1 h2 h3 h4 => hno2 n1 i1 h1 h2 h3 (by omega)⟩), ho2417, ha2418, ha2419, ha2420, ha2421, ha2422, (X_Fr.rf).tr (X_Fr.mono ⟨hf2423.1, hf2423.2⟩ (fun q hq => (by omega)))⟩
              · skip
                have c2444 : ¬ ((iL 1) < (X_st (-2) (X_all G i (i + n)))) := c2444
                refine T_p xr_123_53 xn_123 (pc' := 54) (ls' := [(3, .long (X_st (-2) (X_all G i (i + n)))), (2, .int (iI i)), (1, .int (iI n)), (0, .ref 1)]) (st' := [.long (X_st (-2) (X_all G i (i + n)))]) rfl ?_
                refine T_p xr_123_54 xn_123 (pc' := 57) (ls' := [(3, .long (X_st (-2) (X_all G i (i + n)))), (2, .int (iI i)), (1, .int (iI n)), (0, .ref 1)]) (st' := [.long (iL (-2)), .long (X_st (-2) (X_all G i (i + n)))]) rfl ?_
                refine T_lc_ne xr_123_57 xr_123_58 (t := 68) (pc' := 61) rfl rfl (fun c2445 => ?_) (fun c2445 => ?_)
                · skip
                  have c2445 : ¬ (X_st (-2) (X_all G i (i + n))) = (iL (-2)) := c2445
                  refine T_ziinc xr_123_68 xn_123 (a := i) (z := i + 1) rfl (Nat.le_of_ble_eq_true rfl) (by omega) (ls' := [(2, .int (iI (i + 1))), (3, .long (X_st (-2) (X_all G i (i + n)))), (1, .int (iI n)), (0, .ref 1)]) rfl (pc' := 71) rfl ?_
                  refine T_p xr_123_71 xn_123 (pc' := 22) (ls' := [(2, .int (iI (i + 1))), (3, .long (X_st (-2) (X_all G i (i + n)))), (1, .int (iI n)), (0, .ref 1)]) (st' := []) rfl ?_
                  refine T_sub (ls := [(2, .int (iI (i + 1))), (1, .int (iI n)), (0, .ref 1)]) ⟨rfl, rfl, rfl, trivial⟩ rfl rfl ?_
                  exact ih2433 (i + 1)  (by omega) (fun n1 i1 h1 h2 h3 h4 => by
                        by_cases hh : n1 = n ∧ i1 = i
                        · obtain ⟨e1, e2⟩ := hh
                          subst e1; subst e2; exact (show ¬ 1 < X_all G i1 (i1 + n1) from fun z => by
                        by_cases hm : X_all G i1 (i1 + n1) ≤ 9223372036854775807
                        · refine absurd (show iL 1 < X_st (-2) (X_all G i1 (i1 + n1)) from ?_) (by first | assumption | exact Int64.not_lt.mpr (by assumption))
                          rw [X_st_lo hm, iL_lt (by omega) (by omega) (by omega) (by omega)]; omega
                        · exact absurd (X_st_hi (m := -2) (a := X_all G i1 (i1 + n1)) (by omega)) (by assumption))
                        · exact hno2 n1 i1 h1 h2 h3 (by omega)) (by omega)
                · skip
                  have c2445 : ¬ (¬ (X_st (-2) (X_all G i (i + n))) = (iL (-2))) := c2445
                  refine T_p xr_123_61 xn_123 (pc' := 63) (ls' := [(3, .long (X_st (-2) (X_all G i (i + n)))), (2, .int (iI i)), (1, .int (iI n)), (0, .ref 1)]) (st' := [.int (iI 100)]) rfl ?_
                  refine T_p xr_123_63 xn_123 (pc' := 64) (ls' := [(3, .long (X_st (-2) (X_all G i (i + n)))), (2, .int (iI i)), (1, .int (iI n)), (0, .ref 1)]) (st' := [.int (iI i), .int (iI 100)]) rfl ?_
                  refine T_zimul xr_123_64 (z := 100 * i) rfl (pc' := 65) rfl ?_
                  refine T_p xr_123_65 xn_123 (pc' := 66) (ls' := [(3, .long (X_st (-2) (X_all G i (i + n)))), (2, .int (iI i)), (1, .int (iI n)), (0, .ref 1)]) (st' := [.int (iI n), .int (iI (100 * i))]) rfl ?_
                  refine T_ziadd xr_123_66 (z := (100 * i) + n) rfl (pc' := 67) rfl ?_
                  refine T_iret xr_123_67 xf_123.2.2 rfl ?_
                  refine hQ _ _ ?_
                  exact ⟨oK2410, oW2411, oA2412, oH2413, tl2414, 1, (100 * i) + n, rfl, (by omega), (fun _ => hp2416), (Or.inr ⟨n, i, by omega, by omega, (show 1 < X_all G i (i + n) from by
                        by_cases hm : X_all G i (i + n) ≤ 9223372036854775807
                        · have h1 : iL 1 < X_st (-2) (X_all G i (i + n)) := by first | assumption | exact absurd ((X_st_m (m := -2) (by omega)).mp (show X_st (-2) (X_all G i (i + n)) = iL (-2) by first | assumption | exact Classical.not_not.mp (by assumption))) (by omega)
                          rw [X_st_lo hm, iL_lt (by omega) (by omega) (by omega) (by omega)] at h1; omega
                        · omega), fun n1 i1 h1 h2 h3 h4 => hno2 n1 i1 h1 h2 h3 (by omega)⟩), ho2417, ha2418, ha2419, ha2420, ha2421, ha2422, (X_Fr.rf).tr (X_Fr.mono ⟨hf2423.1, hf2423.2⟩ (fun q hq => (by omega)))⟩
        exact L2432 ((tn + 1) + 1).toNat 0  (by omega) (fun n1 i1 h1 h2 h3 h4 => hno n1 i1 h1 h2 h3 (by omega)) (by omega)
  exact L2424 (tn + 1).toNat 1  (by omega) (fun n1 i1 h1 h2 h3 h4 => absurd h4 (by omega)) (by omega)
set_option maxHeartbeats 3000000 in
theorem c_read (sc : X_Sc) (S : X_S) (oK : Int → Int64) (oW : Int → Int64) (oA : Int → Int64) (oH : Int → Int64) (tl : Int → Int64) (nW : Int → Int) (nF : Int → Int) (nL : Int → Int) (nP : Int → Int) (nH : Int → Int) (nC : Int → Int) (fF : Int → Int) (fE : Int → Int) (fP : Int → Int) (fH : Int → Int) (fW : Int → Int) (fK : Int → Int) (fN : Int → Int64) (hF : Int → Int) (hE : Int → Int) (B : Nat) (rc : Int) (rn : Int → Int64) (kn : Int → Int64) (G : X_G) (B2 : Nat) (tn : Int) (fl : Int) (wt : Int) (nc : Int) (rs : Int) (re : Int) (hgt : Int) (kk : Int) (hO1 : S.1 1 = .inr (10, [.ref 2, .ref B, .ref B2, .ref 496, .ref 501, .ref 504, .ref 511, .ref 517, .ref 527])) (hO501 : S.1 501 = .inr (6, [.int (iI tn), .ref 502, .ref 503])) (hO511 : S.1 511 = .inr (1, [.ref B, .ref 501, .int (iI fl), .ref 512, .ref 513, .ref 514, .ref 515, .ref 516])) (hO517 : S.1 517 = .inr (2, [.ref 511, .ref 501, .ref 504, .int (iI wt), .ref 518, .ref 519, .ref 520, .ref 521, .ref 522, .ref 523, .ref 524, .ref 525, .ref 526])) (hO504 : S.1 504 = .inr (5, [.int (iI nc), .ref 505, .ref 506, .ref 507, .ref 508, .ref 509, .ref 510])) (hO527 : S.1 527 = .inr (9, [.ref 501, .ref 504, .int (iI rs), .int (iI re), .ref 528, .ref 529, .int (iI hgt)])) (hA512 : S.1 512 = .inl (.long, 5115, .inr (.inl fun k : Nat => oK (k : Int)))) (hA513 : S.1 513 = .inl (.long, 13950, .inr (.inl fun k : Nat => oW (k : Int)))) (hA514 : S.1 514 = .inl (.long, 465, .inr (.inl fun k : Nat => oA (k : Int)))) (hA515 : S.1 515 = .inl (.long, 55800, .inr (.inl fun k : Nat => oH (k : Int)))) (hA516 : S.1 516 = .inl (.long, 7200, .inr (.inl fun k : Nat => tl (k : Int)))) (hA505 : S.1 505 = .inl (.int, 30, .inl fun k : Nat => iI (nW (k : Int)))) (hA506 : S.1 506 = .inl (.int, 30, .inl fun k : Nat => iI (nF (k : Int)))) (hA507 : S.1 507 = .inl (.int, 30, .inl fun k : Nat => iI (nL (k : Int)))) (hA508 : S.1 508 = .inl (.int, 30, .inl fun k : Nat => iI (nP (k : Int)))) (hA509 : S.1 509 = .inl (.int, 30, .inl fun k : Nat => iI (nH (k : Int)))) (hA510 : S.1 510 = .inl (.int, 120, .inl fun k : Nat => iI (nC (k : Int)))) (hA518 : S.1 518 = .inl (.int, 30, .inl fun k : Nat => iI (fF (k : Int)))) (hA519 : S.1 519 = .inl (.int, 30, .inl fun k : Nat => iI (fE (k : Int)))) (hA520 : S.1 520 = .inl (.int, 30, .inl fun k : Nat => iI (fP (k : Int)))) (hA521 : S.1 521 = .inl (.int, 30, .inl fun k : Nat => iI (fH (k : Int)))) (hA522 : S.1 522 = .inl (.int, 30, .inl fun k : Nat => iI (fW (k : Int)))) (hA523 : S.1 523 = .inl (.int, 30, .inl fun k : Nat => iI (fK (k : Int)))) (hA524 : S.1 524 = .inl (.long, 30, .inr (.inl fun k : Nat => fN (k : Int)))) (hA525 : S.1 525 = .inl (.int, 4, .inl fun k : Nat => iI (hF (k : Int)))) (hA526 : S.1 526 = .inl (.int, 4, .inl fun k : Nat => iI (hE (k : Int)))) (hB : B = 4 ∨ B = 250) (hb : C_bk S B rc (gk G) (gw G) rn (gl G) kn (ga G)) (hs : C_ws S B (gD G) (gW G)) (hG : X_Gok G) (hA502 : S.1 502 = .inl (.long, 30, .inr (.inl fun k : Nat => (gt G) (k : Int)))) (htn : 0 ≤ tn ∧ tn ≤ 30) (hfl : 0 ≤ fl ∧ fl ≤ 1) (hC : fl = 1 → X_cht G (-2) tn oK oW oA oH) (hkr : -9223372036854775808 ≤ kk ∧ kk ≤ 9223372036854775807) : X_T sc 124 (0, [(0, .ref 1), (1, .long (iL kk))], [], S) (fun v S' => (∃ (oK1 : Int → Int64) (oW1 : Int → Int64) (oA1 : Int → Int64) (oH1 : Int → Int64) (tl1 : Int → Int64) (fl1 : Int), v = some (.int (iI (-1))) ∧ (0 ≤ fl1 ∧ fl1 ≤ 1) ∧ (fl1 = 1 → X_cht G (-2) tn oK1 oW1 oA1 oH1) ∧ ¬ X_qRk G tn kk ∧ S'.1 511 = .inr (1, [.ref B, .ref 501, .int (iI fl1), .ref 512, .ref 513, .ref 514, .ref 515, .ref 516]) ∧ S'.1 512 = .inl (.long, 5115, .inr (.inl fun k : Nat => oK1 (k : Int))) ∧ S'.1 513 = .inl (.long, 13950, .inr (.inl fun k : Nat => oW1 (k : Int))) ∧ S'.1 514 = .inl (.long, 465, .inr (.inl fun k : Nat => oA1 (k : Int))) ∧ S'.1 515 = .inl (.long, 55800, .inr (.inl fun k : Nat => oH1 (k : Int))) ∧ S'.1 516 = .inl (.long, 7200, .inr (.inl fun k : Nat => tl1 (k : Int))) ∧ (X_Fr (fun q => 511 ≤ q ∧ q ≤ 516) S S')) ∨ (∃ (oK1 : Int → Int64) (oW1 : Int → Int64) (oA1 : Int → Int64) (oH1 : Int → Int64) (tl1 : Int → Int64) (fl1 : Int) (r1 : Int) (nc1 : Int) (St1 : Int → X_It) (N1 : Int → Int → Int) (nW1 : Int → Int) (nF1 : Int → Int) (nL1 : Int → Int) (nP1 : Int → Int) (nH1 : Int → Int) (nC1 : Int → Int) (fF1 : Int → Int) (fE1 : Int → Int) (fP1 : Int → Int) (fH1 : Int → Int) (fW1 : Int → Int) (fK1 : Int → Int) (fN1 : Int → Int64) (hF1 : Int → Int) (hE1 : Int → Int), v = some (.int (iI nc1)) ∧ (0 ≤ fl1 ∧ fl1 ≤ 1) ∧ (fl1 = 1 → X_cht G (-2) tn oK1 oW1 oA1 oH1) ∧ X_qRk G tn kk ∧ X_rd G tn kk.toNat = (r1, St1, nc1, N1) ∧ F_nd nc1 N1 nW1 nF1 nL1 nP1 nH1 ∧ F_ch nc1 N1 nC1 ∧ S'.1 511 = .inr (1, [.ref B, .ref 501, .int (iI fl1), .ref 512, .ref 513, .ref 514, .ref 515, .ref 516]) ∧ S'.1 517 = .inr (2, [.ref 511, .ref 501, .ref 504, .int (iI r1), .ref 518, .ref 519, .ref 520, .ref 521, .ref 522, .ref 523, .ref 524, .ref 525, .ref 526]) ∧ S'.1 504 = .inr (5, [.int (iI nc1), .ref 505, .ref 506, .ref 507, .ref 508, .ref 509, .ref 510]) ∧ S'.1 527 = .inr (9, [.ref 501, .ref 504, .int (iI 0), .int (iI (-1)), .ref 528, .ref 529, .int (iI hgt)]) ∧ S'.1 512 = .inl (.long, 5115, .inr (.inl fun k : Nat => oK1 (k : Int))) ∧ S'.1 513 = .inl (.long, 13950, .inr (.inl fun k : Nat => oW1 (k : Int))) ∧ S'.1 514 = .inl (.long, 465, .inr (.inl fun k : Nat => oA1 (k : Int))) ∧ S'.1 515 = .inl (.long, 55800, .inr (.inl fun k : Nat => oH1 (k : Int))) ∧ S'.1 516 = .inl (.long, 7200, .inr (.inl fun k : Nat => tl1 (k : Int))) ∧ S'.1 505 = .inl (.int, 30, .inl fun k : Nat => iI (nW1 (k : Int))) ∧ S'.1 506 = .inl (.int, 30, .inl fun k : Nat => iI (nF1 (k : Int))) ∧ S'.1 507 = .inl (.int, 30, .inl fun k : Nat => iI (nL1 (k : Int))) ∧ S'.1 508 = .inl (.int, 30, .inl fun k : Nat => iI (nP1 (k : Int))) ∧ S'.1 509 = .inl (.int, 30, .inl fun k : Nat => iI (nH1 (k : Int))) ∧ S'.1 510 = .inl (.int, 120, .inl fun k : Nat => iI (nC1 (k : Int))) ∧ S'.1 518 = .inl (.int, 30, .inl fun k : Nat => iI (fF1 (k : Int))) ∧ S'.1 519 = .inl (.int, 30, .inl fun k : Nat => iI (fE1 (k : Int))) ∧ S'.1 520 = .inl (.int, 30, .inl fun k : Nat => iI (fP1 (k : Int))) ∧ S'.1 521 = .inl (.int, 30, .inl fun k : Nat => iI (fH1 (k : Int))) ∧ S'.1 522 = .inl (.int, 30, .inl fun k : Nat => iI (fW1 (k : Int))) ∧ S'.1 523 = .inl (.int, 30, .inl fun k : Nat => iI (fK1 (k : Int))) ∧ S'.1 524 = .inl (.long, 30, .inr (.inl fun k : Nat => fN1 (k : Int))) ∧ S'.1 525 = .inl (.int, 4, .inl fun k : Nat => iI (hF1 (k : Int))) ∧ S'.1 526 = .inl (.int, 4, .inl fun k : Nat => iI (hE1 (k : Int))) ∧ (X_Fr (fun q => 504 ≤ q ∧ q ≤ 527) S S'))) := by
  obtain ⟨hb0, hb1, hb2, hb3, hb4, ⟨f, hb5, hf⟩, ⟨hrc, hrcb⟩, ⟨hkc, hkcb⟩, ⟨hwc, hwcb⟩⟩ := id hb
  refine X_QI (fun Q hQ => ?_)
  refine T_p xr_124_0 xn_124 (pc' := 1) (ls' := [(0, .ref 1), (1, .long (iL kk))]) (st' := [.long (iL kk)]) rfl ?_
  refine T_p xr_124_1 xn_124 (pc' := 2) (ls' := [(0, .ref 1), (1, .long (iL kk))]) (st' := [.long (iL 0), .long (iL kk)]) rfl ?_
  refine T_lc_lt xr_124_2 xr_124_3 (t := 16) (pc' := 6) rfl rfl (fun c2446 => ?_) (fun c2446 => ?_)
  · skip
    have c2446 : (iL kk) < (iL 0) := c2446
    refine T_p xr_124_16 xn_124 (pc' := 17) (ls' := [(0, .ref 1), (1, .long (iL kk))]) (st' := [.int (iI (-1))]) rfl ?_
    refine T_iret xr_124_17 xf_124.2.2 rfl ?_
    refine hQ _ _ ?_
    exact Or.inl ⟨oK, oW, oA, oH, tl, fl, rfl, hfl, hC, (fun z => by
          by_cases ht : tn = 0
          · exact absurd z.2.1 (by omega)
          · by_cases h1 : iL kk < iL 0
            · rw [iL_lt (by omega) (by omega) (by omega) (by omega)] at h1
              have := z.1
              omega
            · first | exact absurd ht (by assumption) | exact absurd (by assumption) h1), hO511, hA512, hA513, hA514, hA515, hA516, X_Fr.rf⟩
  · skip
    have c2446 : ¬ ((iL kk) < (iL 0)) := c2446
    refine T_p xr_124_6 xn_124 (pc' := 7) (ls' := [(0, .ref 1), (1, .long (iL kk))]) (st' := [.ref 1]) rfl ?_
    refine T_get xr_124_7 hO1 rfl (v := .ref 501) rfl (pc' := 10) rfl ?_
    refine T_get xr_124_10 hO501 rfl (v := .int (iI tn)) rfl (pc' := 13) rfl ?_
    refine T_zif_ne xr_124_13 (t := 18) (pc' := 16) rfl rfl (fun c2447 => ?_) (fun c2447 => ?_)
    · skip
      have c2447 : ¬ tn = 0 := c2447
      refine T_p xr_124_18 xn_124 (pc' := 19) (ls' := [(0, .ref 1), (1, .long (iL kk))]) (st' := [.ref 1]) rfl ?_
      refine T_get xr_124_19 hO1 rfl (v := .ref 511) rfl (pc' := 22) rfl ?_
      refine T_cv (S := S) (q := 511) xr_124_22 xf_31.1 xf_31.2.1 xn_31 (as := []) (r := []) rfl hO511 (Nat.le_of_ble_eq_true rfl) (Nat.le_of_ble_eq_true rfl) (pc' := 25) rfl (ls' := [(0, .ref 511)]) rfl ?_
      refine T_mono (c_fill sc S oK oW oA oH tl B rc rn kn G tn fl hO501 hO511 hA512 hA513 hA514 hA515 hA516 hB ⟨hb0, hb1, hb2, hb3, hb4, ⟨f, hb5, hf⟩, ⟨by omega, by omega⟩, ⟨by omega, by omega⟩, ⟨by omega, by omega⟩⟩ hs hG hA502 (by omega) (by omega) hC) (fun v2448 S2449 h2450 => ?_)
      rcases h2450 with ⟨oK2451, oW2452, oA2453, oH2454, tl2455, hv2456, hp2457, ho2458, ha2459, ha2460, ha2461, ha2462, ha2463, hf2464⟩
      rw [hv2456]
      show X_T sc 124 (25, [(0, .ref 1), (1, .long (iL kk))], [], S2449) _
      refine T_p xr_124_25 xn_124 (pc' := 26) (ls' := [(0, .ref 1), (1, .long (iL kk))]) (st' := [.ref 1]) rfl ?_
      have h2465 := (hf2464.1 1 (by first | decide | omega)).trans (hO1)
      refine T_get xr_124_26 h2465 rfl (v := .ref 511) rfl (pc' := 29) rfl ?_
      refine T_p xr_124_29 xn_124 (pc' := 30) (ls' := [(0, .ref 1), (1, .long (iL kk))]) (st' := [.int (iI 0), .ref 511]) rfl ?_
      refine T_p xr_124_30 xn_124 (pc' := 31) (ls' := [(0, .ref 1), (1, .long (iL kk))]) (st' := [.ref 1, .int (iI 0), .ref 511]) rfl ?_
      refine T_get xr_124_31 h2465 rfl (v := .ref 501) rfl (pc' := 34) rfl ?_
      have h2466 := (hf2464.1 501 (by first | decide | omega)).trans (hO501)
      refine T_get xr_124_34 h2466 rfl (v := .int (iI tn)) rfl (pc' := 37) rfl ?_
      refine T_cv (S := S2449) (q := 511) xr_124_37 xf_23.1 xf_23.2.1 xn_23 (as := [.int (iI 0), .int (iI tn)]) (r := []) rfl ho2458 (Nat.le_of_ble_eq_true rfl) (Nat.le_of_ble_eq_true rfl) (pc' := 40) rfl (ls' := [(0, .ref 511), (1, .int (iI 0)), (2, .int (iI tn))]) rfl ?_
      refine T_p xr_23_0 xn_23 (pc' := 1) (ls' := [(0, .ref 511), (1, .int (iI 0)), (2, .int (iI tn))]) (st' := [.ref 511]) rfl ?_
      refine T_get xr_23_1 ho2458 rfl (v := .ref 514) rfl (pc' := 4) rfl ?_
      refine T_p xr_23_4 xn_23 (pc' := 5) (ls' := [(0, .ref 511), (1, .int (iI 0)), (2, .int (iI tn))]) (st' := [.int (iI 0), .ref 514]) rfl ?_
      refine T_p xr_23_5 xn_23 (pc' := 6) (ls' := [(0, .ref 511), (1, .int (iI 0)), (2, .int (iI tn))]) (st' := [.int (iI tn), .int (iI 0), .ref 514]) rfl ?_
      refine T_cs xr_23_6 (by decide) xf_24.1 xn_24 (as := [.int (iI 0), .int (iI tn)]) (r := [.ref 514]) rfl (Nat.le_of_ble_eq_true rfl) (Nat.le_of_ble_eq_true rfl) (pc' := 9) rfl (ls' := [(0, .int (iI 0)), (1, .int (iI tn))]) rfl ?_
      refine T_mono (c_rowOf sc S2449 0 tn (by omega)) (fun v2467 S2468 h2469 => ?_)
      rcases h2469 with ⟨hv2470, hf2471⟩
      rw [hv2470]
      rw [hf2471]
      have hr2472 := X_ro_r (i := 0) (j := tn) (by omega) (by omega) (by omega)
      show X_T sc 23 (9, [(0, .ref 511), (1, .int (iI 0)), (2, .int (iI tn))], [.int (iI (X_ro 0 tn)), .ref 514], S2449) _
      refine T_zlald xr_23_9 ha2461 (pc' := 10) rfl ?_
      refine T_le (y := (X_st (-2) (X_all G 0 tn))) ((hp2457 0 tn (by omega) (by omega) (by omega)).2.2.1) ?_
      refine T_lret xr_23_10 xf_23.2.2 rfl ?_
      show X_T sc 124 (40, [(0, .ref 1), (1, .long (iL kk))], [.long (X_st (-2) (X_all G 0 tn))], S2449) _
      refine T_p xr_124_40 xn_124 (pc' := 41) (ls' := [(3, .long (X_st (-2) (X_all G 0 tn))), (0, .ref 1), (1, .long (iL kk))]) (st' := []) rfl ?_
      refine T_p xr_124_41 xn_124 (pc' := 42) (ls' := [(3, .long (X_st (-2) (X_all G 0 tn))), (0, .ref 1), (1, .long (iL kk))]) (st' := [.long (X_st (-2) (X_all G 0 tn))]) rfl ?_
      refine T_p xr_124_42 xn_124 (pc' := 45) (ls' := [(3, .long (X_st (-2) (X_all G 0 tn))), (0, .ref 1), (1, .long (iL kk))]) (st' := [.long (iL (-2)), .long (X_st (-2) (X_all G 0 tn))]) rfl ?_
      refine T_lc_eq xr_124_45 xr_124_46 (t := 57) (pc' := 49) rfl rfl (fun c2473 => ?_) (fun c2473 => ?_)
      · skip
        have c2473 : (X_st (-2) (X_all G 0 tn)) = (iL (-2)) := c2473
        refine T_p xr_124_57 xn_124 (pc' := 58) (ls' := [(3, .long (X_st (-2) (X_all G 0 tn))), (0, .ref 1), (1, .long (iL kk))]) (st' := [.ref 1]) rfl ?_
        refine T_get xr_124_58 h2465 rfl (v := .ref 517) rfl (pc' := 61) rfl ?_
        have hkk : 0 ≤ kk ∧ (kk.toNat : Int) = kk := by
          have h1 : ¬ iL kk < iL 0 := by first | assumption | exact Int64.not_lt.mpr (by assumption)
          rw [iL_lt (by omega) (by omega) (by omega) (by omega)] at h1
          omega
        have hka : kk.toNat < X_all G 0 tn := by
          refine (X_st_lt (m := -2) (by omega) (by omega)).mp ?_
          rw [hkk.2]
          first
            | exact Or.inl (by first | assumption | exact Classical.not_not.mp (by assumption))
            | exact Or.inr (by first | assumption | exact Int64.not_le.mp (by assumption))
        have hcht := hp2457
        have hk := hka
        have hkm : kk.toNat ≤ 9223372036854775807 := by omega
        refine T_p xr_124_61 xn_124 (pc' := 62) (ls' := [(3, .long (X_st (-2) (X_all G 0 tn))), (0, .ref 1), (1, .long (iL kk))]) (st' := [.long (iL kk), .ref 517]) rfl ?_
        refine T_le (y := (iL (kk.toNat : Int))) (by rw [hkk.2]) ?_
        have h2474 := (hf2464.1 517 (by first | decide | omega)).trans (hO517)
        refine T_cv (S := S2449) (q := 517) xr_124_62 xf_40.1 xf_40.2.1 xn_40 (as := [.long (iL (kk.toNat : Int))]) (r := []) rfl h2474 (Nat.le_of_ble_eq_true rfl) (Nat.le_of_ble_eq_true rfl) (pc' := 65) rfl (ls' := [(0, .ref 517), (1, .long (iL (kk.toNat : Int)))]) rfl ?_
        have h2475 := (hf2464.1 505 (by first | decide | omega)).trans (hA505)
        have h2476 := (hf2464.1 506 (by first | decide | omega)).trans (hA506)
        have h2477 := (hf2464.1 507 (by first | decide | omega)).trans (hA507)
        have h2478 := (hf2464.1 508 (by first | decide | omega)).trans (hA508)
        have h2479 := (hf2464.1 509 (by first | decide | omega)).trans (hA509)
        have h2480 := (hf2464.1 510 (by first | decide | omega)).trans (hA510)
        have h2481 := (hf2464.1 518 (by first | decide | omega)).trans (hA518)
        have h2482 := (hf2464.1 519 (by first | decide | omega)).trans (hA519)
        have h2483 := (hf2464.1 520 (by first | decide | omega)).trans (hA520)
        have h2484 := (hf2464.1 521 (by first | decide | omega)).trans (hA521)
        have h2485 := (hf2464.1 522 (by first | decide | omega)).trans (hA522)
        have h2486 := (hf2464.1 523 (by first | decide | omega)).trans (hA523)
        have h2487 := (hf2464.1 524 (by first | decide | omega)).trans (hA524)
        have h2488 := (hf2464.1 525 (by first | decide | omega)).trans (hA525)
        have h2489 := (hf2464.1 526 (by first | decide | omega)).trans (hA526)
        have h2490 := (hf2464.1 504 (by first | decide | omega)).trans (hO504)
        have h2491 := (hf2464.1 B (by omega)).trans (hb0)
        have h2492 := (hf2464.1 (B + 1) (by omega)).trans (hb1)
        have h2493 := (hf2464.1 (B + 2) (by omega)).trans (hb2)
        have h2494 := (hf2464.1 (B + 3) (by omega)).trans (hb3)
        have h2495 := (hf2464.1 (B + 4) (by omega)).trans (hb4)
        have h2496 := (hf2464.1 (B + 5) (by omega)).trans (hb5)
        have hs2497 : C_ws S2449 B (gD G) (gW G) := C_ws.fr (P := fun q => 501 ≤ q ∧ q ≤ 529) hs ((X_Fr.rf).tr (X_Fr.mono ⟨hf2464.1, hf2464.2⟩ (fun q hq => (by omega)))) (fun k h1 h2 => by omega)
        have h2498 := (hf2464.1 502 (by first | decide | omega)).trans (hA502)
        refine T_mono (c_find sc S2449 oK2451 oW2452 oA2453 oH2454 tl2455 nW nF nL nP nH nC fF fE fP fH fW fK fN hF hE B rc rn kn G tn 1 wt nc kk.toNat h2466 ho2458 h2474 h2490 ha2459 ha2460 ha2461 ha2462 ha2463 h2475 h2476 h2477 h2478 h2479 h2480 h2481 h2482 h2483 h2484 h2485 h2486 h2487 h2488 h2489 hB ⟨h2491, h2492, h2493, h2494, h2495, ⟨f, h2496, hf⟩, ⟨by omega, by omega⟩, ⟨by omega, by omega⟩, ⟨by omega, by omega⟩⟩ hs2497 hG (by omega) h2498 hcht hk hkm) (fun v2499 S2500 h2501 => ?_)
        rcases h2501 with ⟨r2502, nc2503, St2504, N2505, nW2506, nF2507, nL2508, nP2509, nH2510, nC2511, fF2512, fE2513, fP2514, fH2515, fW2516, fK2517, fN2518, tl2519, hF2520, hE2521, hv2522, hp2523, hp2524, hp2525, hp2526, ho2527, ho2528, ha2529, ha2530, ha2531, ha2532, ha2533, ha2534, ha2535, ha2536, ha2537, ha2538, ha2539, ha2540, ha2541, ha2542, ha2543, ha2544, hf2545⟩
        rw [hv2522]
        show X_T sc 124 (65, [(3, .long (X_st (-2) (X_all G 0 tn))), (0, .ref 1), (1, .long (iL kk))], [], S2500) _
        refine T_p xr_124_65 xn_124 (pc' := 66) (ls' := [(3, .long (X_st (-2) (X_all G 0 tn))), (0, .ref 1), (1, .long (iL kk))]) (st' := [.ref 1]) rfl ?_
        have h2546 := (hf2545.1 1 (by first | decide | omega)).trans (h2465)
        refine T_get xr_124_66 h2546 rfl (v := .ref 527) rfl (pc' := 69) rfl ?_
        have h2547 := (hf2545.1 527 (by first | decide | omega)).trans ((hf2464.1 527 (by first | decide | omega)).trans (hO527))
        refine T_cv (S := S2500) (q := 527) xr_124_69 xf_105.1 xf_105.2.1 xn_105 (as := []) (r := []) rfl h2547 (Nat.le_of_ble_eq_true rfl) (Nat.le_of_ble_eq_true rfl) (pc' := 72) rfl (ls' := [(0, .ref 527)]) rfl ?_
        refine T_mono (c_forget sc S2500 rs re hgt h2547) (fun v2548 S2549 h2550 => ?_)
        rcases h2550 with ⟨hv2551, ho2552, hf2553⟩
        rw [hv2551]
        show X_T sc 124 (72, [(3, .long (X_st (-2) (X_all G 0 tn))), (0, .ref 1), (1, .long (iL kk))], [], S2549) _
        refine T_p xr_124_72 xn_124 (pc' := 73) (ls' := [(3, .long (X_st (-2) (X_all G 0 tn))), (0, .ref 1), (1, .long (iL kk))]) (st' := [.ref 1]) rfl ?_
        have h2554 := (hf2553.1 1 (by first | decide | omega)).trans (h2546)
        refine T_get xr_124_73 h2554 rfl (v := .ref 504) rfl (pc' := 76) rfl ?_
        have h2555 := (hf2553.1 504 (by first | decide | omega)).trans (ho2528)
        refine T_get xr_124_76 h2555 rfl (v := .int (iI nc2503)) rfl (pc' := 79) rfl ?_
        refine T_iret xr_124_79 xf_124.2.2 rfl ?_
        refine hQ _ _ ?_
        have h2556 := (hf2553.1 512 (by first | decide | omega)).trans ((hf2545.1 512 (by first | decide | omega)).trans (ha2459))
        have h2557 := (hf2553.1 513 (by first | decide | omega)).trans ((hf2545.1 513 (by first | decide | omega)).trans (ha2460))
        have h2558 := (hf2553.1 514 (by first | decide | omega)).trans ((hf2545.1 514 (by first | decide | omega)).trans (ha2461))
        have h2559 := (hf2553.1 515 (by first | decide | omega)).trans ((hf2545.1 515 (by first | decide | omega)).trans (ha2462))
        have h2560 := (hf2553.1 516 (by first | decide | omega)).trans (ha2542)
        have h2561 := (hf2553.1 511 (by first | decide | omega)).trans ((hf2545.1 511 (by first | decide | omega)).trans (ho2458))
        have h2562 := (hf2553.1 505 (by first | decide | omega)).trans (ha2529)
        have h2563 := (hf2553.1 506 (by first | decide | omega)).trans (ha2530)
        have h2564 := (hf2553.1 507 (by first | decide | omega)).trans (ha2531)
        have h2565 := (hf2553.1 508 (by first | decide | omega)).trans (ha2532)
        have h2566 := (hf2553.1 509 (by first | decide | omega)).trans (ha2533)
        have h2567 := (hf2553.1 510 (by first | decide | omega)).trans (ha2534)
        have h2568 := (hf2553.1 518 (by first | decide | omega)).trans (ha2535)
        have h2569 := (hf2553.1 519 (by first | decide | omega)).trans (ha2536)
        have h2570 := (hf2553.1 520 (by first | decide | omega)).trans (ha2537)
        have h2571 := (hf2553.1 521 (by first | decide | omega)).trans (ha2538)
        have h2572 := (hf2553.1 522 (by first | decide | omega)).trans (ha2539)
        have h2573 := (hf2553.1 523 (by first | decide | omega)).trans (ha2540)
        have h2574 := (hf2553.1 524 (by first | decide | omega)).trans (ha2541)
        have h2575 := (hf2553.1 525 (by first | decide | omega)).trans (ha2543)
        have h2576 := (hf2553.1 526 (by first | decide | omega)).trans (ha2544)
        have h2577 := (hf2553.1 517 (by first | decide | omega)).trans (ho2527)
        exact Or.inr ⟨oK2451, oW2452, oA2453, oH2454, tl2519, 1, r2502, nc2503, St2504, N2505, nW2506, nF2507, nL2508, nP2509, nH2510, nC2511, fF2512, fE2513, fP2514, fH2515, fW2516, fK2517, fN2518, hF2520, hE2521, rfl, (by omega), (fun _ => hp2457), ⟨hkk.1, by omega, by omega⟩, hp2523, hp2525, hp2526, h2561, h2577, h2555, ho2552, h2556, h2557, h2558, h2559, h2560, h2562, h2563, h2564, h2565, h2566, h2567, h2568, h2569, h2570, h2571, h2572, h2573, h2574, h2575, h2576, (((X_Fr.rf).tr (X_Fr.mono ⟨hf2464.1, hf2464.2⟩ (fun q hq => (by omega)))).tr (X_Fr.mono ⟨hf2545.1, hf2545.2⟩ (fun q hq => (by omega)))).tr (X_Fr.mono ⟨hf2553.1, hf2553.2⟩ (fun q hq => (by omega)))⟩
      · skip
        have c2473 : ¬ ((X_st (-2) (X_all G 0 tn)) = (iL (-2))) := c2473
        refine T_p xr_124_49 xn_124 (pc' := 50) (ls' := [(3, .long (X_st (-2) (X_all G 0 tn))), (0, .ref 1), (1, .long (iL kk))]) (st' := [.long (iL kk)]) rfl ?_
        refine T_p xr_124_50 xn_124 (pc' := 51) (ls' := [(3, .long (X_st (-2) (X_all G 0 tn))), (0, .ref 1), (1, .long (iL kk))]) (st' := [.long (X_st (-2) (X_all G 0 tn)), .long (iL kk)]) rfl ?_
        refine T_lc_lt xr_124_51 xr_124_52 (t := 57) (pc' := 55) rfl rfl (fun c2578 => ?_) (fun c2578 => ?_)
        · skip
          have c2578 : (iL kk) < (X_st (-2) (X_all G 0 tn)) := c2578
          refine T_p xr_124_57 xn_124 (pc' := 58) (ls' := [(3, .long (X_st (-2) (X_all G 0 tn))), (0, .ref 1), (1, .long (iL kk))]) (st' := [.ref 1]) rfl ?_
          refine T_get xr_124_58 h2465 rfl (v := .ref 517) rfl (pc' := 61) rfl ?_
          have hkk : 0 ≤ kk ∧ (kk.toNat : Int) = kk := by
            have h1 : ¬ iL kk < iL 0 := by first | assumption | exact Int64.not_lt.mpr (by assumption)
            rw [iL_lt (by omega) (by omega) (by omega) (by omega)] at h1
            omega
          have hka : kk.toNat < X_all G 0 tn := by
            refine (X_st_lt (m := -2) (by omega) (by omega)).mp ?_
            rw [hkk.2]
            first
              | exact Or.inl (by first | assumption | exact Classical.not_not.mp (by assumption))
              | exact Or.inr (by first | assumption | exact Int64.not_le.mp (by assumption))
          have hcht := hp2457
          have hk := hka
          have hkm : kk.toNat ≤ 9223372036854775807 := by omega
          refine T_p xr_124_61 xn_124 (pc' := 62) (ls' := [(3, .long (X_st (-2) (X_all G 0 tn))), (0, .ref 1), (1, .long (iL kk))]) (st' := [.long (iL kk), .ref 517]) rfl ?_
          refine T_le (y := (iL (kk.toNat : Int))) (by rw [hkk.2]) ?_
          have h2579 := (hf2464.1 517 (by first | decide | omega)).trans (hO517)
          refine T_cv (S := S2449) (q := 517) xr_124_62 xf_40.1 xf_40.2.1 xn_40 (as := [.long (iL (kk.toNat : Int))]) (r := []) rfl h2579 (Nat.le_of_ble_eq_true rfl) (Nat.le_of_ble_eq_true rfl) (pc' := 65) rfl (ls' := [(0, .ref 517), (1, .long (iL (kk.toNat : Int)))]) rfl ?_
          have h2580 := (hf2464.1 505 (by first | decide | omega)).trans (hA505)
          have h2581 := (hf2464.1 506 (by first | decide | omega)).trans (hA506)
          have h2582 := (hf2464.1 507 (by first | decide | omega)).trans (hA507)
          have h2583 := (hf2464.1 508 (by first | decide | omega)).trans (hA508)
          have h2584 := (hf2464.1 509 (by first | decide | omega)).trans (hA509)
          have h2585 := (hf2464.1 510 (by first | decide | omega)).trans (hA510)
          have h2586 := (hf2464.1 518 (by first | decide | omega)).trans (hA518)
          have h2587 := (hf2464.1 519 (by first | decide | omega)).trans (hA519)
          have h2588 := (hf2464.1 520 (by first | decide | omega)).trans (hA520)
          have h2589 := (hf2464.1 521 (by first | decide | omega)).trans (hA521)
          have h2590 := (hf2464.1 522 (by first | decide | omega)).trans (hA522)
          have h2591 := (hf2464.1 523 (by first | decide | omega)).trans (hA523)
          have h2592 := (hf2464.1 524 (by first | decide | omega)).trans (hA524)
          have h2593 := (hf2464.1 525 (by first | decide | omega)).trans (hA525)
          have h2594 := (hf2464.1 526 (by first | decide | omega)).trans (hA526)
          have h2595 := (hf2464.1 504 (by first | decide | omega)).trans (hO504)
          have h2596 := (hf2464.1 B (by omega)).trans (hb0)
          have h2597 := (hf2464.1 (B + 1) (by omega)).trans (hb1)
          have h2598 := (hf2464.1 (B + 2) (by omega)).trans (hb2)
          have h2599 := (hf2464.1 (B + 3) (by omega)).trans (hb3)
          have h2600 := (hf2464.1 (B + 4) (by omega)).trans (hb4)
          have h2601 := (hf2464.1 (B + 5) (by omega)).trans (hb5)
          have hs2602 : C_ws S2449 B (gD G) (gW G) := C_ws.fr (P := fun q => 501 ≤ q ∧ q ≤ 529) hs ((X_Fr.rf).tr (X_Fr.mono ⟨hf2464.1, hf2464.2⟩ (fun q hq => (by omega)))) (fun k h1 h2 => by omega)
          have h2603 := (hf2464.1 502 (by first | decide | omega)).trans (hA502)
          refine T_mono (c_find sc S2449 oK2451 oW2452 oA2453 oH2454 tl2455 nW nF nL nP nH nC fF fE fP fH fW fK fN hF hE B rc rn kn G tn 1 wt nc kk.toNat h2466 ho2458 h2579 h2595 ha2459 ha2460 ha2461 ha2462 ha2463 h2580 h2581 h2582 h2583 h2584 h2585 h2586 h2587 h2588 h2589 h2590 h2591 h2592 h2593 h2594 hB ⟨h2596, h2597, h2598, h2599, h2600, ⟨f, h2601, hf⟩, ⟨by omega, by omega⟩, ⟨by omega, by omega⟩, ⟨by omega, by omega⟩⟩ hs2602 hG (by omega) h2603 hcht hk hkm) (fun v2604 S2605 h2606 => ?_)
          rcases h2606 with ⟨r2607, nc2608, St2609, N2610, nW2611, nF2612, nL2613, nP2614, nH2615, nC2616, fF2617, fE2618, fP2619, fH2620, fW2621, fK2622, fN2623, tl2624, hF2625, hE2626, hv2627, hp2628, hp2629, hp2630, hp2631, ho2632, ho2633, ha2634, ha2635, ha2636, ha2637, ha2638, ha2639, ha2640, ha2641, ha2642, ha2643, ha2644, ha2645, ha2646, ha2647, ha2648, ha2649, hf2650⟩
          rw [hv2627]
          show X_T sc 124 (65, [(3, .long (X_st (-2) (X_all G 0 tn))), (0, .ref 1), (1, .long (iL kk))], [], S2605) _
          refine T_p xr_124_65 xn_124 (pc' := 66) (ls' := [(3, .long (X_st (-2) (X_all G 0 tn))), (0, .ref 1), (1, .long (iL kk))]) (st' := [.ref 1]) rfl ?_
          have h2651 := (hf2650.1 1 (by first | decide | omega)).trans (h2465)
          refine T_get xr_124_66 h2651 rfl (v := .ref 527) rfl (pc' := 69) rfl ?_
          have h2652 := (hf2650.1 527 (by first | decide | omega)).trans ((hf2464.1 527 (by first | decide | omega)).trans (hO527))
          refine T_cv (S := S2605) (q := 527) xr_124_69 xf_105.1 xf_105.2.1 xn_105 (as := []) (r := []) rfl h2652 (Nat.le_of_ble_eq_true rfl) (Nat.le_of_ble_eq_true rfl) (pc' := 72) rfl (ls' := [(0, .ref 527)]) rfl ?_
          refine T_mono (c_forget sc S2605 rs re hgt h2652) (fun v2653 S2654 h2655 => ?_)
          rcases h2655 with ⟨hv2656, ho2657, hf2658⟩
          rw [hv2656]
          show X_T sc 124 (72, [(3, .long (X_st (-2) (X_all G 0 tn))), (0, .ref 1), (1, .long (iL kk))], [], S2654) _
          refine T_p xr_124_72 xn_124 (pc' := 73) (ls' := [(3, .long (X_st (-2) (X_all G 0 tn))), (0, .ref 1), (1, .long (iL kk))]) (st' := [.ref 1]) rfl ?_
          have h2659 := (hf2658.1 1 (by first | decide | omega)).trans (h2651)
          refine T_get xr_124_73 h2659 rfl (v := .ref 504) rfl (pc' := 76) rfl ?_
          have h2660 := (hf2658.1 504 (by first | decide | omega)).trans (ho2633)
          refine T_get xr_124_76 h2660 rfl (v := .int (iI nc2608)) rfl (pc' := 79) rfl ?_
          refine T_iret xr_124_79 xf_124.2.2 rfl ?_
          refine hQ _ _ ?_
          have h2661 := (hf2658.1 512 (by first | decide | omega)).trans ((hf2650.1 512 (by first | decide | omega)).trans (ha2459))
          have h2662 := (hf2658.1 513 (by first | decide | omega)).trans ((hf2650.1 513 (by first | decide | omega)).trans (ha2460))
          have h2663 := (hf2658.1 514 (by first | decide | omega)).trans ((hf2650.1 514 (by first | decide | omega)).trans (ha2461))
          have h2664 := (hf2658.1 515 (by first | decide | omega)).trans ((hf2650.1 515 (by first | decide | omega)).trans (ha2462))
          have h2665 := (hf2658.1 516 (by first | decide | omega)).trans (ha2647)
          have h2666 := (hf2658.1 511 (by first | decide | omega)).trans ((hf2650.1 511 (by first | decide | omega)).trans (ho2458))
          have h2667 := (hf2658.1 505 (by first | decide | omega)).trans (ha2634)
          have h2668 := (hf2658.1 506 (by first | decide | omega)).trans (ha2635)
          have h2669 := (hf2658.1 507 (by first | decide | omega)).trans (ha2636)
          have h2670 := (hf2658.1 508 (by first | decide | omega)).trans (ha2637)
          have h2671 := (hf2658.1 509 (by first | decide | omega)).trans (ha2638)
          have h2672 := (hf2658.1 510 (by first | decide | omega)).trans (ha2639)
          have h2673 := (hf2658.1 518 (by first | decide | omega)).trans (ha2640)
          have h2674 := (hf2658.1 519 (by first | decide | omega)).trans (ha2641)
          have h2675 := (hf2658.1 520 (by first | decide | omega)).trans (ha2642)
          have h2676 := (hf2658.1 521 (by first | decide | omega)).trans (ha2643)
          have h2677 := (hf2658.1 522 (by first | decide | omega)).trans (ha2644)
          have h2678 := (hf2658.1 523 (by first | decide | omega)).trans (ha2645)
          have h2679 := (hf2658.1 524 (by first | decide | omega)).trans (ha2646)
          have h2680 := (hf2658.1 525 (by first | decide | omega)).trans (ha2648)
          have h2681 := (hf2658.1 526 (by first | decide | omega)).trans (ha2649)
          have h2682 := (hf2658.1 517 (by first | decide | omega)).trans (ho2632)
          exact Or.inr ⟨oK2451, oW2452, oA2453, oH2454, tl2624, 1, r2607, nc2608, St2609, N2610, nW2611, nF2612, nL2613, nP2614, nH2615, nC2616, fF2617, fE2618, fP2619, fH2620, fW2621, fK2622, fN2623, hF2625, hE2626, rfl, (by omega), (fun _ => hp2457), ⟨hkk.1, by omega, by omega⟩, hp2628, hp2630, hp2631, h2666, h2682, h2660, ho2657, h2661, h2662, h2663, h2664, h2665, h2667, h2668, h2669, h2670, h2671, h2672, h2673, h2674, h2675, h2676, h2677, h2678, h2679, h2680, h2681, (((X_Fr.rf).tr (X_Fr.mono ⟨hf2464.1, hf2464.2⟩ (fun q hq => (by omega)))).tr (X_Fr.mono ⟨hf2650.1, hf2650.2⟩ (fun q hq => (by omega)))).tr (X_Fr.mono ⟨hf2658.1, hf2658.2⟩ (fun q hq => (by omega)))⟩
        · skip
          have c2578 : ¬ ((iL kk) < (X_st (-2) (X_all G 0 tn))) := c2578
          refine T_p xr_124_55 xn_124 (pc' := 56) (ls' := [(3, .long (X_st (-2) (X_all G 0 tn))), (0, .ref 1), (1, .long (iL kk))]) (st' := [.int (iI (-1))]) rfl ?_
          refine T_iret xr_124_56 xf_124.2.2 rfl ?_
          refine hQ _ _ ?_
          have hkk : 0 ≤ kk ∧ (kk.toNat : Int) = kk := by
            have h1 : ¬ iL kk < iL 0 := by first | assumption | exact Int64.not_lt.mpr (by assumption)
            rw [iL_lt (by omega) (by omega) (by omega) (by omega)] at h1
            omega
          have hka : ¬ kk.toNat < X_all G 0 tn := fun z => by
            rcases (X_st_lt (m := -2) (a := X_all G 0 tn) (k := kk.toNat) (by omega) (by omega)).mpr z with h | h
            · exact absurd h (by assumption)
            · rw [hkk.2] at h; first | exact absurd h (by assumption) | exact absurd h (Int64.not_lt.mpr (by assumption)) | exact absurd h (Int64.not_lt.mpr (Classical.not_not.mp (by assumption)))
          exact Or.inl ⟨oK2451, oW2452, oA2453, oH2454, tl2455, 1, rfl, (by omega), (fun _ => hp2457), (fun z => by have := z.2.2; omega), ho2458, ha2459, ha2460, ha2461, ha2462, ha2463, (X_Fr.rf).tr (X_Fr.mono ⟨hf2464.1, hf2464.2⟩ (fun q hq => (by omega)))⟩
    · skip
      have c2447 : ¬ (¬ tn = 0) := c2447
      refine T_p xr_124_16 xn_124 (pc' := 17) (ls' := [(0, .ref 1), (1, .long (iL kk))]) (st' := [.int (iI (-1))]) rfl ?_
      refine T_iret xr_124_17 xf_124.2.2 rfl ?_
      refine hQ _ _ ?_
      exact Or.inl ⟨oK, oW, oA, oH, tl, fl, rfl, hfl, hC, (fun z => by
            by_cases ht : tn = 0
            · exact absurd z.2.1 (by omega)
            · by_cases h1 : iL kk < iL 0
              · rw [iL_lt (by omega) (by omega) (by omega) (by omega)] at h1
                have := z.1
                omega
              · first | exact absurd ht (by assumption) | exact absurd (by assumption) h1), hO511, hA512, hA513, hA514, hA515, hA516, X_Fr.rf⟩
theorem c_work (sc : X_Sc) (S : X_S) (nW : Int → Int) (nF : Int → Int) (nL : Int → Int) (nP : Int → Int) (nH : Int → Int) (nC : Int → Int) (vs : Int → Int) (pl : Int → Int) (B : Nat) (rc : Int) (rn : Int → Int64) (kn : Int → Int64) (G : X_G) (B2 : Nat) (tn : Int) (nc : Int) (N : Int → Int → Int) (rs : Int) (re : Int) (hgt : Int) (hO1 : S.1 1 = .inr (10, [.ref 2, .ref B, .ref B2, .ref 496, .ref 501, .ref 504, .ref 511, .ref 517, .ref 527])) (hO501 : S.1 501 = .inr (6, [.int (iI tn), .ref 502, .ref 503])) (hO504 : S.1 504 = .inr (5, [.int (iI nc), .ref 505, .ref 506, .ref 507, .ref 508, .ref 509, .ref 510])) (hO527 : S.1 527 = .inr (9, [.ref 501, .ref 504, .int (iI rs), .int (iI re), .ref 528, .ref 529, .int (iI hgt)])) (hA505 : S.1 505 = .inl (.int, 30, .inl fun k : Nat => iI (nW (k : Int)))) (hA506 : S.1 506 = .inl (.int, 30, .inl fun k : Nat => iI (nF (k : Int)))) (hA507 : S.1 507 = .inl (.int, 30, .inl fun k : Nat => iI (nL (k : Int)))) (hA508 : S.1 508 = .inl (.int, 30, .inl fun k : Nat => iI (nP (k : Int)))) (hA509 : S.1 509 = .inl (.int, 30, .inl fun k : Nat => iI (nH (k : Int)))) (hA510 : S.1 510 = .inl (.int, 120, .inl fun k : Nat => iI (nC (k : Int)))) (hA528 : S.1 528 = .inl (.int, 30, .inl fun k : Nat => iI (vs (k : Int)))) (hA529 : S.1 529 = .inl (.int, 16, .inl fun k : Nat => iI (pl (k : Int)))) (hB : B = 4 ∨ B = 250) (hb : C_bk S B rc (gk G) (gw G) rn (gl G) kn (ga G)) (hs : C_ws S B (gD G) (gW G)) (hG : X_Gok G) (hGs : X_Gst G) (hA502 : S.1 502 = .inl (.long, 30, .inr (.inl fun k : Nat => (gt G) (k : Int)))) (hR : X_Rok G tn nc N) (hnd : F_nd nc N nW nF nL nP nH) (hch : F_ch nc N nC) : X_T sc 127 (0, [(0, .ref 1)], [], S) (fun v S' => (v = some (.int (iI (-1))) ∧ nc = 0 ∧ S' = S) ∨ (∃ (vs1 : Int → Int) (pl1 : Int → Int) (h2 : Int), v = some (.int (iI ((X_wk G (fun w => gD G w 6 0) (fun w => gD G w 7 0) N nc).1))) ∧ ¬ nc = 0 ∧ S'.1 527 = .inr (9, [.ref 501, .ref 504, .int (iI ((X_wk G (fun w => gD G w 6 0) (fun w => gD G w 7 0) N nc).2.2)), .int (iI ((X_wk G (fun w => gD G w 6 0) (fun w => gD G w 7 0) N nc).2.1)), .ref 528, .ref 529, .int (iI h2)]) ∧ S'.1 528 = .inl (.int, 30, .inl fun k : Nat => iI (vs1 (k : Int))) ∧ S'.1 529 = .inl (.int, 16, .inl fun k : Nat => iI (pl1 (k : Int))) ∧ (X_Fr (fun q => 527 ≤ q ∧ q ≤ 529) S S'))) := by
  obtain ⟨hb0, hb1, hb2, hb3, hb4, ⟨f, hb5, hf⟩, ⟨hrc, hrcb⟩, ⟨hkc, hkcb⟩, ⟨hwc, hwcb⟩⟩ := id hb
  have hRn := hR.1
  refine X_QI (fun Q hQ => ?_)
  refine T_p xr_127_0 xn_127 (pc' := 1) (ls' := [(0, .ref 1)]) (st' := [.ref 1]) rfl ?_
  refine T_get xr_127_1 hO1 rfl (v := .ref 504) rfl (pc' := 4) rfl ?_
  refine T_get xr_127_4 hO504 rfl (v := .int (iI nc)) rfl (pc' := 7) rfl ?_
  refine T_zif_ne xr_127_7 (t := 14) (pc' := 10) rfl rfl (fun c2683 => ?_) (fun c2683 => ?_)
  · skip
    have c2683 : ¬ nc = 0 := c2683
    refine T_p xr_127_14 xn_127 (pc' := 15) (ls' := [(0, .ref 1)]) (st' := [.ref 1]) rfl ?_
    refine T_get xr_127_15 hO1 rfl (v := .ref 527) rfl (pc' := 18) rfl ?_
    refine T_p xr_127_18 xn_127 (pc' := 19) (ls' := [(0, .ref 1)]) (st' := [.ref 1, .ref 527]) rfl ?_
    refine T_get xr_127_19 hO1 rfl (v := .ref B) rfl (pc' := 22) rfl ?_
    refine T_cv (S := S) (q := 527) xr_127_22 xf_106.1 xf_106.2.1 xn_106 (as := [.ref B]) (r := []) rfl hO527 (Nat.le_of_ble_eq_true rfl) (Nat.le_of_ble_eq_true rfl) (pc' := 25) rfl (ls' := [(0, .ref 527), (1, .ref B)]) rfl ?_
    refine T_mono (c_run sc S nW nF nL nP nH nC vs pl B rc rn kn G tn nc N rs re hgt hO501 hO504 hO527 hA505 hA506 hA507 hA508 hA509 hA510 hA528 hA529 hB ⟨hb0, hb1, hb2, hb3, hb4, ⟨f, hb5, hf⟩, ⟨by omega, by omega⟩, ⟨by omega, by omega⟩, ⟨by omega, by omega⟩⟩ hs hG hGs hA502 hR (by omega) hnd hch) (fun v2684 S2685 h2686 => ?_)
    rcases h2686 with ⟨vs2687, pl2688, h2689, hv2690, ho2691, ha2692, ha2693, hf2694⟩
    rw [hv2690]
    show X_T sc 127 (25, [(0, .ref 1)], [.int (iI ((X_wk G (fun w => gD G w 6 0) (fun w => gD G w 7 0) N nc).1))], S2685) _
    refine T_iret xr_127_25 xf_127.2.2 rfl ?_
    refine hQ _ _ ?_
    exact Or.inr ⟨vs2687, pl2688, h2689, rfl, (by omega), ho2691, ha2692, ha2693, (X_Fr.rf).tr (X_Fr.mono ⟨hf2694.1, hf2694.2⟩ (fun q hq => (by omega)))⟩
  · skip
    have c2683 : ¬ (¬ nc = 0) := c2683
    refine T_p xr_127_10 xn_127 (pc' := 11) (ls' := [(0, .ref 1)]) (st' := [.int (iI (-1))]) rfl ?_
    refine T_p xr_127_11 xn_127 (pc' := 25) (ls' := [(0, .ref 1)]) (st' := [.int (iI (-1))]) rfl ?_
    refine T_iret xr_127_25 xf_127.2.2 rfl ?_
    refine hQ _ _ ?_
    exact Or.inl ⟨rfl, (by omega), rfl⟩
end
section
theorem xr_115_0 : X_row 115 0 = some (0, (.aload_n 0, 1), (0, 0, 0)) := by decide +kernel
theorem xr_115_1 : X_row 115 1 = some (1, (.getfield 31, 3), (10, 3, 54)) := by decide +kernel
theorem xr_115_4 : X_row 115 4 = some (4, (.aload_n 0, 1), (0, 0, 0)) := by decide +kernel
theorem xr_115_5 : X_row 115 5 = some (5, (.getfield 23, 3), (10, 2, 52)) := by decide +kernel
theorem xr_115_8 : X_row 115 8 = some (8, (.invokevirtual 84, 3), (65, 18, 0)) := by decide +kernel
theorem xr_115_11 : X_row 115 11 = some (11, (.istore_n 1, 1), (0, 0, 0)) := by decide +kernel
theorem xr_115_12 : X_row 115 12 = some (12, (.aload_n 0, 1), (0, 0, 0)) := by decide +kernel
theorem xr_115_13 : X_row 115 13 = some (13, (.getfield 12, 3), (10, 0, 48)) := by decide +kernel
theorem xr_115_16 : X_row 115 16 = some (16, (.iconst 0, 1), (0, 0, 0)) := by decide +kernel
theorem xr_115_17 : X_row 115 17 = some (17, (.putfield 76, 3), (7, 1, 1)) := by decide +kernel
theorem xr_115_20 : X_row 115 20 = some (20, (.iload_n 1, 1), (0, 0, 0)) := by decide +kernel
theorem xr_115_21 : X_row 115 21 = some (21, (.ifCond .ne 5, 3), (0, 0, 0)) := by decide +kernel
theorem xr_115_24 : X_row 115 24 = some (24, (.iconst (-1), 1), (0, 0, 0)) := by decide +kernel
theorem xr_115_25 : X_row 115 25 = some (25, (.ireturn, 1), (0, 0, 0)) := by decide +kernel
theorem xr_115_26 : X_row 115 26 = some (26, (.aload_n 0, 1), (0, 0, 0)) := by decide +kernel
theorem xr_115_27 : X_row 115 27 = some (27, (.getfield 23, 3), (10, 2, 52)) := by decide +kernel
theorem xr_115_30 : X_row 115 30 = some (30, (.astore_n 2, 1), (0, 0, 0)) := by decide +kernel
theorem xr_115_31 : X_row 115 31 = some (31, (.aload_n 0, 1), (0, 0, 0)) := by decide +kernel
theorem xr_115_32 : X_row 115 32 = some (32, (.aload_n 0, 1), (0, 0, 0)) := by decide +kernel
theorem xr_115_33 : X_row 115 33 = some (33, (.getfield 19, 3), (10, 1, 50)) := by decide +kernel
theorem xr_115_36 : X_row 115 36 = some (36, (.putfield 23, 3), (10, 2, 52)) := by decide +kernel
theorem xr_115_39 : X_row 115 39 = some (39, (.aload_n 0, 1), (0, 0, 0)) := by decide +kernel
theorem xr_115_40 : X_row 115 40 = some (40, (.aload_n 2, 1), (0, 0, 0)) := by decide +kernel
theorem xr_115_41 : X_row 115 41 = some (41, (.putfield 19, 3), (10, 1, 50)) := by decide +kernel
theorem xr_115_44 : X_row 115 44 = some (44, (.aload_n 0, 1), (0, 0, 0)) := by decide +kernel
theorem xr_115_45 : X_row 115 45 = some (45, (.getfield 38, 3), (10, 4, 56)) := by decide +kernel
theorem xr_115_48 : X_row 115 48 = some (48, (.iconst 0, 1), (0, 0, 0)) := by decide +kernel
theorem xr_115_49 : X_row 115 49 = some (49, (.putfield 88, 3), (6, 0, 31)) := by decide +kernel
theorem xr_115_52 : X_row 115 52 = some (52, (.aload_n 0, 1), (0, 0, 0)) := by decide +kernel
theorem xr_115_53 : X_row 115 53 = some (53, (.invokevirtual 91, 3), (130, 20, 0)) := by decide +kernel
theorem xr_115_56 : X_row 115 56 = some (56, (.aload_n 0, 1), (0, 0, 0)) := by decide +kernel
theorem xr_115_57 : X_row 115 57 = some (57, (.getfield 19, 3), (10, 1, 50)) := by decide +kernel
theorem xr_115_60 : X_row 115 60 = some (60, (.getfield 94, 3), (0, 2, 23)) := by decide +kernel
theorem xr_115_63 : X_row 115 63 = some (63, (.ireturn, 1), (0, 0, 0)) := by decide +kernel
theorem xr_121_0 : X_row 121 0 = some (0, (.aload_n 0, 1), (0, 0, 0)) := by decide +kernel
theorem xr_121_1 : X_row 121 1 = some (1, (.getfield 38, 3), (10, 4, 56)) := by decide +kernel
theorem xr_121_4 : X_row 121 4 = some (4, (.aload_n 0, 1), (0, 0, 0)) := by decide +kernel
theorem xr_121_5 : X_row 121 5 = some (5, (.getfield 12, 3), (10, 0, 48)) := by decide +kernel
theorem xr_121_8 : X_row 121 8 = some (8, (.invokevirtual 155, 3), (87, 40, 0)) := by decide +kernel
theorem xr_121_11 : X_row 121 11 = some (11, (.istore_n 1, 1), (0, 0, 0)) := by decide +kernel
theorem xr_121_12 : X_row 121 12 = some (12, (.aload_n 0, 1), (0, 0, 0)) := by decide +kernel
theorem xr_121_13 : X_row 121 13 = some (13, (.getfield 12, 3), (10, 0, 48)) := by decide +kernel
theorem xr_121_16 : X_row 121 16 = some (16, (.iconst 0, 1), (0, 0, 0)) := by decide +kernel
theorem xr_121_17 : X_row 121 17 = some (17, (.putfield 76, 3), (7, 1, 1)) := by decide +kernel
theorem xr_121_20 : X_row 121 20 = some (20, (.iload_n 1, 1), (0, 0, 0)) := by decide +kernel
theorem xr_121_21 : X_row 121 21 = some (21, (.ifCond .ne 5, 3), (0, 0, 0)) := by decide +kernel
theorem xr_121_24 : X_row 121 24 = some (24, (.iconst (-1), 1), (0, 0, 0)) := by decide +kernel
theorem xr_121_25 : X_row 121 25 = some (25, (.ireturn, 1), (0, 0, 0)) := by decide +kernel
theorem xr_121_26 : X_row 121 26 = some (26, (.aload_n 0, 1), (0, 0, 0)) := by decide +kernel
theorem xr_121_27 : X_row 121 27 = some (27, (.invokevirtual 91, 3), (130, 20, 0)) := by decide +kernel
theorem xr_121_30 : X_row 121 30 = some (30, (.aload_n 0, 1), (0, 0, 0)) := by decide +kernel
theorem xr_121_31 : X_row 121 31 = some (31, (.getfield 38, 3), (10, 4, 56)) := by decide +kernel
theorem xr_121_34 : X_row 121 34 = some (34, (.getfield 88, 3), (6, 0, 31)) := by decide +kernel
theorem xr_121_37 : X_row 121 37 = some (37, (.ireturn, 1), (0, 0, 0)) := by decide +kernel
theorem xr_126_0 : X_row 126 0 = some (0, (.aload_n 0, 1), (0, 0, 0)) := by decide +kernel
theorem xr_126_1 : X_row 126 1 = some (1, (.getfield 19, 3), (10, 1, 50)) := by decide +kernel
theorem xr_126_4 : X_row 126 4 = some (4, (.iload_n 1, 1), (0, 0, 0)) := by decide +kernel
theorem xr_126_5 : X_row 126 5 = some (5, (.invokevirtual 110, 3), (4, 28, 0)) := by decide +kernel
theorem xr_126_8 : X_row 126 8 = some (8, (.ifCond .ne 5, 3), (0, 0, 0)) := by decide +kernel
theorem xr_126_11 : X_row 126 11 = some (11, (.iconst 0, 1), (0, 0, 0)) := by decide +kernel
theorem xr_126_12 : X_row 126 12 = some (12, (.ireturn, 1), (0, 0, 0)) := by decide +kernel
theorem xr_126_13 : X_row 126 13 = some (13, (.aload_n 0, 1), (0, 0, 0)) := by decide +kernel
theorem xr_126_14 : X_row 126 14 = some (14, (.getfield 19, 3), (10, 1, 50)) := by decide +kernel
theorem xr_126_17 : X_row 126 17 = some (17, (.getfield 114, 3), (0, 7, 25)) := by decide +kernel
theorem xr_126_20 : X_row 126 20 = some (20, (.iload_n 1, 1), (0, 0, 0)) := by decide +kernel
theorem xr_126_21 : X_row 126 21 = some (21, (.aaload, 1), (0, 0, 0)) := by decide +kernel
theorem xr_126_22 : X_row 126 22 = some (22, (.astore_n 3, 1), (0, 0, 0)) := by decide +kernel
theorem xr_126_23 : X_row 126 23 = some (23, (.aload_n 3, 1), (0, 0, 0)) := by decide +kernel
theorem xr_126_24 : X_row 126 24 = some (24, (.getfield 139, 3), (8, 5, 13)) := by decide +kernel
theorem xr_126_27 : X_row 126 27 = some (27, (.iconst (-1), 1), (0, 0, 0)) := by decide +kernel
theorem xr_126_28 : X_row 126 28 = some (28, (.if_icmp .ne 10, 3), (0, 0, 0)) := by decide +kernel
theorem xr_126_31 : X_row 126 31 = some (31, (.aload_n 3, 1), (0, 0, 0)) := by decide +kernel
theorem xr_126_32 : X_row 126 32 = some (32, (.getfield 132, 3), (8, 4, 11)) := by decide +kernel
theorem xr_126_35 : X_row 126 35 = some (35, (.ifCond .le 5, 3), (0, 0, 0)) := by decide +kernel
theorem xr_126_38 : X_row 126 38 = some (38, (.iconst 0, 1), (0, 0, 0)) := by decide +kernel
theorem xr_126_39 : X_row 126 39 = some (39, (.ireturn, 1), (0, 0, 0)) := by decide +kernel
theorem xr_126_40 : X_row 126 40 = some (40, (.aload_n 3, 1), (0, 0, 0)) := by decide +kernel
theorem xr_126_41 : X_row 126 41 = some (41, (.iconst 1, 1), (0, 0, 0)) := by decide +kernel
theorem xr_126_42 : X_row 126 42 = some (42, (.putfield 190, 3), (8, 6, 15)) := by decide +kernel
theorem xr_126_45 : X_row 126 45 = some (45, (.aload_n 3, 1), (0, 0, 0)) := by decide +kernel
theorem xr_126_46 : X_row 126 46 = some (46, (.iload_n 2, 1), (0, 0, 0)) := by decide +kernel
theorem xr_126_47 : X_row 126 47 = some (47, (.putfield 194, 3), (8, 7, 17)) := by decide +kernel
theorem xr_126_50 : X_row 126 50 = some (50, (.iconst 1, 1), (0, 0, 0)) := by decide +kernel
theorem xr_126_51 : X_row 126 51 = some (51, (.ireturn, 1), (0, 0, 0)) := by decide +kernel
theorem xn_115 : X_nL 115 = 3 := by decide +kernel
theorem xf_115 : X_na 115 = 0 ∧ X_ci 115 = 10 ∧ X_rt 115 = (some .int) := by decide +kernel
theorem xn_121 : X_nL 121 = 2 := by decide +kernel
theorem xf_121 : X_na 121 = 0 ∧ X_ci 121 = 10 ∧ X_rt 121 = (some .int) := by decide +kernel
theorem xn_126 : X_nL 126 = 4 := by decide +kernel
theorem xf_126 : X_na 126 = 2 ∧ X_ci 126 = 10 ∧ X_rt 126 = (some .boolean) := by decide +kernel
theorem c_bind (sc : X_Sc) (S : X_S) (B : Nat) (rc : Int) (rn : Int → Int64) (kn : Int → Int64) (G : X_G) (B2 : Nat) (w : Int) (vl : Int) (hO1 : S.1 1 = .inr (10, [.ref 2, .ref B, .ref B2, .ref 496, .ref 501, .ref 504, .ref 511, .ref 517, .ref 527])) (hB : B = 4 ∨ B = 250) (hb : C_bk S B rc (gk G) (gw G) rn (gl G) kn (ga G)) (hs : C_ws S B (gD G) (gW G)) (hw : -2147483648 ≤ w ∧ w ≤ 2147483647) (hv : -2147483648 ≤ vl ∧ vl ≤ 2147483647) : X_T sc 126 (0, [(0, .ref 1), (1, .int (iI w)), (2, .int (iI vl))], [], S) (fun v S' => (v = some (.int (iI 0)) ∧ (¬ ((0 ≤ w ∧ w < gw G) ∧ gD G w 5 0 = -1 ∧ gD G w 4 0 ≤ 0)) ∧ S' = S) ∨ (v = some (.int (iI 1)) ∧ ((0 ≤ w ∧ w < gw G) ∧ gD G w 5 0 = -1 ∧ gD G w 4 0 ≤ 0) ∧ C_ws S' B (X_ug (gD G) w (X_wu (X_wu (gD G w) 6 (fun _ => 1)) 7 (fun _ => vl))) (gW G) ∧ (X_Fr (fun q => B + 6 ≤ q ∧ q < B + 246) S S'))) := by
  obtain ⟨hb0, hb1, hb2, hb3, hb4, ⟨f, hb5, hf⟩, ⟨hrc, hrcb⟩, ⟨hkc, hkcb⟩, ⟨hwc, hwcb⟩⟩ := id hb
  refine X_QI (fun Q hQ => ?_)
  refine T_p xr_126_0 xn_126 (pc' := 1) (ls' := [(0, .ref 1), (1, .int (iI w)), (2, .int (iI vl))]) (st' := [.ref 1]) rfl ?_
  refine T_get xr_126_1 hO1 rfl (v := .ref B) rfl (pc' := 4) rfl ?_
  refine T_p xr_126_4 xn_126 (pc' := 5) (ls' := [(0, .ref 1), (1, .int (iI w)), (2, .int (iI vl))]) (st' := [.int (iI w), .ref B]) rfl ?_
  refine T_cv (S := S) (q := B) xr_126_5 xf_4.1 xf_4.2.1 xn_4 (as := [.int (iI w)]) (r := []) rfl hb0 (Nat.le_of_ble_eq_true rfl) (Nat.le_of_ble_eq_true rfl) (pc' := 8) rfl (ls' := [(0, .ref B), (1, .int (iI w))]) rfl ?_
  refine T_mono (c_hasWord sc S B rc (gk G) (gw G) rn (gl G) kn (ga G) w ⟨hb0, hb1, hb2, hb3, hb4, ⟨f, hb5, hf⟩, ⟨by omega, by omega⟩, ⟨by omega, by omega⟩, ⟨by omega, by omega⟩⟩ (by omega)) (fun v2696 S2697 h2695 => ?_)
  obtain ⟨h2698, h2699⟩ := h2695
  rw [h2698, h2699]
  show X_T sc 126 (8, [(0, .ref 1), (1, .int (iI w)), (2, .int (iI vl))], [.int (iI (bI (0 ≤ w ∧ w < (gw G))))], S) _
  refine T_bif_ne xr_126_8 (t := 13) (pc' := 11) rfl rfl (fun c2700 => ?_) (fun c2700 => ?_)
  · skip
    have c2700 : (0 ≤ w ∧ w < (gw G)) := c2700
    refine T_p xr_126_13 xn_126 (pc' := 14) (ls' := [(0, .ref 1), (1, .int (iI w)), (2, .int (iI vl))]) (st' := [.ref 1]) rfl ?_
    refine T_get xr_126_14 hO1 rfl (v := .ref B) rfl (pc' := 17) rfl ?_
    refine T_get xr_126_17 hb0 rfl (v := .ref (B + 5)) rfl (pc' := 20) rfl ?_
    refine T_p xr_126_20 xn_126 (pc' := 21) (ls' := [(0, .ref 1), (1, .int (iI w)), (2, .int (iI vl))]) (st' := [.int (iI w), .ref (B + 5)]) rfl ?_
    have hwaw := hs w (by omega) (by omega)
    obtain ⟨aw, haaw⟩ : ∃ z : Nat, z = B + 6 + 8 * (w : Int).toNat := ⟨_, rfl⟩
    rw [← haaw] at hwaw
    obtain ⟨⟨_, _⟩, ⟨_, _⟩, ⟨_, _⟩, ⟨_, _⟩, ⟨_, _⟩, ⟨_, _⟩, ⟨_, _⟩, ⟨_, _⟩⟩ := id hwaw.2
    refine T_zaald xr_126_21 hb5 (w := aw) (by rw [haaw]; exact hf _ (by omega)) (pc' := 22) rfl ?_
    refine T_p xr_126_22 xn_126 (pc' := 23) (ls' := [(3, .ref aw), (0, .ref 1), (1, .int (iI w)), (2, .int (iI vl))]) (st' := []) rfl ?_
    refine T_p xr_126_23 xn_126 (pc' := 24) (ls' := [(3, .ref aw), (0, .ref 1), (1, .int (iI w)), (2, .int (iI vl))]) (st' := [.ref aw]) rfl ?_
    refine T_get xr_126_24 hwaw.1.1 rfl (v := .int (iI ((gD G) w 5 0))) rfl (pc' := 27) rfl ?_
    refine T_p xr_126_27 xn_126 (pc' := 28) (ls' := [(3, .ref aw), (0, .ref 1), (1, .int (iI w)), (2, .int (iI vl))]) (st' := [.int (iI (-1)), .int (iI ((gD G) w 5 0))]) rfl ?_
    refine T_zicmp_ne xr_126_28 (t := 38) (pc' := 31) rfl rfl (fun c2704 => ?_) (fun c2704 => ?_)
    · skip
      have c2704 : ¬ ((gD G) w 5 0) = (-1) := c2704
      refine T_p xr_126_38 xn_126 (pc' := 39) (ls' := [(3, .ref aw), (0, .ref 1), (1, .int (iI w)), (2, .int (iI vl))]) (st' := [.int (iI 0)]) rfl ?_
      refine T_iret xr_126_39 xf_126.2.2 (by decide) ?_
      refine hQ _ _ ?_
      exact Or.inl ⟨rfl, (by omega), rfl⟩
    · skip
      have c2704 : ¬ (¬ ((gD G) w 5 0) = (-1)) := c2704
      refine T_p xr_126_31 xn_126 (pc' := 32) (ls' := [(3, .ref aw), (0, .ref 1), (1, .int (iI w)), (2, .int (iI vl))]) (st' := [.ref aw]) rfl ?_
      refine T_get xr_126_32 hwaw.1.1 rfl (v := .int (iI ((gD G) w 4 0))) rfl (pc' := 35) rfl ?_
      refine T_zif_le xr_126_35 (t := 40) (pc' := 38) rfl rfl (fun c2705 => ?_) (fun c2705 => ?_)
      · skip
        have c2705 : ((gD G) w 4 0) ≤ 0 := c2705
        refine T_p xr_126_40 xn_126 (pc' := 41) (ls' := [(3, .ref aw), (0, .ref 1), (1, .int (iI w)), (2, .int (iI vl))]) (st' := [.ref aw]) rfl ?_
        refine T_p xr_126_41 xn_126 (pc' := 42) (ls' := [(3, .ref aw), (0, .ref 1), (1, .int (iI w)), (2, .int (iI vl))]) (st' := [.int (iI 1), .ref aw]) rfl ?_
        refine T_put xr_126_42 hwaw.1.1 rfl (Nat.le_of_ble_eq_true rfl) rfl (fs' := [.int (iI ((gD G) w 0 0)), .int (iI ((gD G) w 1 0)), .int (iI ((gD G) w 2 0)), .int (iI ((gD G) w 3 0)), .int (iI ((gD G) w 4 0)), .int (iI ((gD G) w 5 0)), .int (iI 1), .int (iI ((gD G) w 7 0)), .ref (aw + 1), .ref (aw + 2), .ref (aw + 3), .ref (aw + 4), .ref (aw + 5), .ref (aw + 6), .ref (aw + 7)]) rfl (pc' := 45) rfl (fun S2706 h2707 n2708 e2709 => ?_)
        refine T_p xr_126_45 xn_126 (pc' := 46) (ls' := [(3, .ref aw), (0, .ref 1), (1, .int (iI w)), (2, .int (iI vl))]) (st' := [.ref aw]) rfl ?_
        refine T_p xr_126_46 xn_126 (pc' := 47) (ls' := [(3, .ref aw), (0, .ref 1), (1, .int (iI w)), (2, .int (iI vl))]) (st' := [.int (iI vl), .ref aw]) rfl ?_
        refine T_put xr_126_47 h2707 rfl (Nat.le_of_ble_eq_true rfl) rfl (fs' := [.int (iI ((gD G) w 0 0)), .int (iI ((gD G) w 1 0)), .int (iI ((gD G) w 2 0)), .int (iI ((gD G) w 3 0)), .int (iI ((gD G) w 4 0)), .int (iI ((gD G) w 5 0)), .int (iI 1), .int (iI vl), .ref (aw + 1), .ref (aw + 2), .ref (aw + 3), .ref (aw + 4), .ref (aw + 5), .ref (aw + 6), .ref (aw + 7)]) rfl (pc' := 50) rfl (fun S2710 h2711 n2712 e2713 => ?_)
        refine T_p xr_126_50 xn_126 (pc' := 51) (ls' := [(3, .ref aw), (0, .ref 1), (1, .int (iI w)), (2, .int (iI vl))]) (st' := [.int (iI 1)]) rfl ?_
        refine T_iret xr_126_51 xf_126.2.2 (by decide) ?_
        refine hQ _ _ ?_
        have h2714 := (n2712 (aw + 1) (by omega)).trans ((n2708 (aw + 1) (by omega)).trans (hwaw.1.2.1))
        have h2715 := (n2712 (aw + 2) (by omega)).trans ((n2708 (aw + 2) (by omega)).trans (hwaw.1.2.2.1))
        have h2716 := (n2712 (aw + 3) (by omega)).trans ((n2708 (aw + 3) (by omega)).trans (hwaw.1.2.2.2.1))
        have h2717 := (n2712 (aw + 4) (by omega)).trans ((n2708 (aw + 4) (by omega)).trans (hwaw.1.2.2.2.2.1))
        have h2718 := (n2712 (aw + 5) (by omega)).trans ((n2708 (aw + 5) (by omega)).trans (hwaw.1.2.2.2.2.2.1))
        have h2719 := (n2712 (aw + 6) (by omega)).trans ((n2708 (aw + 6) (by omega)).trans (hwaw.1.2.2.2.2.2.2.1))
        have h2720 := (n2712 (aw + 7) (by omega)).trans ((n2708 (aw + 7) (by omega)).trans (hwaw.1.2.2.2.2.2.2.2))
        have hz := hwaw.2
        have hws : C_ws S2710 B (X_ug (gD G) w (X_wu (X_wu (gD G w) 6 (fun _ => 1)) 7 (fun _ => vl))) (gW G) := C_ws.upd hs (((X_Fr.rf).tr (X_Fr.of n2708 e2709 (by first | decide | exact ⟨Nat.le_add_right _ _, Nat.add_le_add_left (by decide) _⟩ | omega))).tr (X_Fr.of n2712 e2713 (by first | decide | exact ⟨Nat.le_add_right _ _, Nat.add_le_add_left (by decide) _⟩ | omega))) haaw (by omega) ⟨h2711, h2714, h2715, h2716, h2717, h2718, h2719, h2720⟩ ⟨hz.1, hz.2.1, hz.2.2.1, hz.2.2.2.1, hz.2.2.2.2.1, hz.2.2.2.2.2.1, (show (0 : Int) ≤ 1 ∧ (1 : Int) ≤ 1 by omega), hv⟩
        exact Or.inr ⟨rfl, (by omega), hws, ((X_Fr.rf).tr (X_Fr.of n2708 e2709 (by first | decide | exact ⟨Nat.le_add_right _ _, Nat.add_le_add_left (by decide) _⟩ | omega))).tr (X_Fr.of n2712 e2713 (by first | decide | exact ⟨Nat.le_add_right _ _, Nat.add_le_add_left (by decide) _⟩ | omega))⟩
      · skip
        have c2705 : ¬ (((gD G) w 4 0) ≤ 0) := c2705
        refine T_p xr_126_38 xn_126 (pc' := 39) (ls' := [(3, .ref aw), (0, .ref 1), (1, .int (iI w)), (2, .int (iI vl))]) (st' := [.int (iI 0)]) rfl ?_
        refine T_iret xr_126_39 xf_126.2.2 (by decide) ?_
        refine hQ _ _ ?_
        exact Or.inl ⟨rfl, (by omega), rfl⟩
  · skip
    have c2700 : ¬ (0 ≤ w ∧ w < (gw G)) := c2700
    refine T_p xr_126_11 xn_126 (pc' := 12) (ls' := [(0, .ref 1), (1, .int (iI w)), (2, .int (iI vl))]) (st' := [.int (iI 0)]) rfl ?_
    refine T_iret xr_126_12 xf_126.2.2 (by decide) ?_
    refine hQ _ _ ?_
    exact Or.inl ⟨rfl, (by omega), rfl⟩
theorem c_sentence (sc : X_Sc) (S : X_S) (ot : Int → Int64) (dr : Int → Int64) (B : Nat) (B2 : Nat) (tn : Int) (fl : Int) (nc : Int) (rs : Int) (re : Int) (hgt : Int) (len : Int) (tb : Int → Int) (hO1 : S.1 1 = .inr (10, [.ref 2, .ref B, .ref B2, .ref 496, .ref 501, .ref 504, .ref 511, .ref 517, .ref 527])) (hO2 : S.1 2 = .inr (7, [.ref 3, .int (iI len)])) (hO501 : S.1 501 = .inr (6, [.int (iI tn), .ref 502, .ref 503])) (hO511 : S.1 511 = .inr (1, [.ref B, .ref 501, .int (iI fl), .ref 512, .ref 513, .ref 514, .ref 515, .ref 516])) (hO504 : S.1 504 = .inr (5, [.int (iI nc), .ref 505, .ref 506, .ref 507, .ref 508, .ref 509, .ref 510])) (hO527 : S.1 527 = .inr (9, [.ref 501, .ref 504, .int (iI rs), .int (iI re), .ref 528, .ref 529, .int (iI hgt)])) (hA502 : S.1 502 = .inl (.long, 30, .inr (.inl fun k : Nat => ot (k : Int)))) (hA503 : S.1 503 = .inl (.long, 30, .inr (.inl fun k : Nat => dr (k : Int)))) (hA3 : S.1 3 = .inl (.byte, 2000, .inl fun k : Nat => iI (tb (k : Int)))) (hl : 0 ≤ len ∧ len ≤ 2000) : X_T sc 121 (0, [(0, .ref 1)], [], S) (fun v S' => (∃ (dr1 : Int → Int64), v = some (.int (iI (-1))) ∧ X_sn tb len len.toNat = none ∧ S'.1 2 = .inr (7, [.ref 3, .int (iI 0)]) ∧ S'.1 503 = .inl (.long, 30, .inr (.inl fun k : Nat => dr1 (k : Int))) ∧ (X_Fr (fun q => q = 503 ∨ q = 2) S S')) ∨ (∃ (n1 : Int) (z1 : Int) (t1 : Int → Int64) (ot1 : Int → Int64) (dr1 : Int → Int64), v = some (.int (iI n1)) ∧ X_sn tb len len.toNat = some (n1, z1, t1) ∧ (0 ≤ n1 ∧ n1 ≤ 30) ∧ ((∀ i, 0 ≤ i → i < n1 → ot1 i = t1 i)) ∧ S'.1 2 = .inr (7, [.ref 3, .int (iI 0)]) ∧ S'.1 501 = .inr (6, [.int (iI n1), .ref 502, .ref 503]) ∧ S'.1 511 = .inr (1, [.ref B, .ref 501, .int (iI 0), .ref 512, .ref 513, .ref 514, .ref 515, .ref 516]) ∧ S'.1 504 = .inr (5, [.int (iI 0), .ref 505, .ref 506, .ref 507, .ref 508, .ref 509, .ref 510]) ∧ S'.1 527 = .inr (9, [.ref 501, .ref 504, .int (iI 0), .int (iI (-1)), .ref 528, .ref 529, .int (iI hgt)]) ∧ S'.1 502 = .inl (.long, 30, .inr (.inl fun k : Nat => ot1 (k : Int))) ∧ S'.1 503 = .inl (.long, 30, .inr (.inl fun k : Nat => dr1 (k : Int))) ∧ (X_Fr (fun q => q = 2 ∨ (501 ≤ q ∧ q ≤ 504) ∨ q = 511 ∨ q = 527) S S'))) := by
  refine X_QI (fun Q hQ => ?_)
  refine T_p xr_121_0 xn_121 (pc' := 1) (ls' := [(0, .ref 1)]) (st' := [.ref 1]) rfl ?_
  refine T_get xr_121_1 hO1 rfl (v := .ref 501) rfl (pc' := 4) rfl ?_
  refine T_p xr_121_4 xn_121 (pc' := 5) (ls' := [(0, .ref 1)]) (st' := [.ref 1, .ref 501]) rfl ?_
  refine T_get xr_121_5 hO1 rfl (v := .ref 2) rfl (pc' := 8) rfl ?_
  refine T_cv (S := S) (q := 501) xr_121_8 xf_87.1 xf_87.2.1 xn_87 (as := [.ref 2]) (r := []) rfl hO501 (Nat.le_of_ble_eq_true rfl) (Nat.le_of_ble_eq_true rfl) (pc' := 11) rfl (ls' := [(0, .ref 501), (1, .ref 2)]) rfl ?_
  refine T_mono (c_readFrom sc S ot dr tn len tb hO2 hO501 hA502 hA503 hA3 (by omega)) (fun v2721 S2722 h2723 => ?_)
  rcases h2723 with ⟨dr2724, hv2725, hp2726, ha2727, hf2728⟩ | ⟨n2729, z2730, t2731, ot2732, dr2733, hv2734, hp2735, hp2736, hp2737, ho2738, ha2739, ha2740, hf2741⟩
  · skip
    rw [hv2725]
    show X_T sc 121 (11, [(0, .ref 1)], [.int (iI 0)], S2722) _
    refine T_p xr_121_11 xn_121 (pc' := 12) (ls' := [(1, .int (iI 0)), (0, .ref 1)]) (st' := []) rfl ?_
    refine T_p xr_121_12 xn_121 (pc' := 13) (ls' := [(1, .int (iI 0)), (0, .ref 1)]) (st' := [.ref 1]) rfl ?_
    have h2742 := (hf2728.1 1 (by first | decide | omega)).trans (hO1)
    refine T_get xr_121_13 h2742 rfl (v := .ref 2) rfl (pc' := 16) rfl ?_
    refine T_p xr_121_16 xn_121 (pc' := 17) (ls' := [(1, .int (iI 0)), (0, .ref 1)]) (st' := [.int (iI 0), .ref 2]) rfl ?_
    have h2743 := (hf2728.1 2 (by first | decide | omega)).trans (hO2)
    refine T_put xr_121_17 h2743 rfl (Nat.le_of_ble_eq_true rfl) rfl (fs' := [.ref 3, .int (iI 0)]) rfl (pc' := 20) rfl (fun S2744 h2745 n2746 e2747 => ?_)
    refine T_p xr_121_20 xn_121 (pc' := 21) (ls' := [(1, .int (iI 0)), (0, .ref 1)]) (st' := [.int (iI 0)]) rfl ?_
    refine T_zif_nef xr_121_21 (t := 26) (pc' := 24) rfl rfl (by decide) ?_
    refine T_p xr_121_24 xn_121 (pc' := 25) (ls' := [(1, .int (iI 0)), (0, .ref 1)]) (st' := [.int (iI (-1))]) rfl ?_
    refine T_iret xr_121_25 xf_121.2.2 rfl ?_
    refine hQ _ _ ?_
    have h2748 := (n2746 503 (by decide)).trans (ha2727)
    exact Or.inl ⟨dr2724, rfl, hp2726, h2745, h2748, ((X_Fr.rf).tr (X_Fr.mono ⟨hf2728.1, hf2728.2⟩ (fun q hq => (by omega)))).tr (X_Fr.of n2746 e2747 (by first | decide | exact ⟨Nat.le_add_right _ _, Nat.add_le_add_left (by decide) _⟩ | omega))⟩
  · skip
    rw [hv2734]
    show X_T sc 121 (11, [(0, .ref 1)], [.int (iI 1)], S2722) _
    refine T_p xr_121_11 xn_121 (pc' := 12) (ls' := [(1, .int (iI 1)), (0, .ref 1)]) (st' := []) rfl ?_
    refine T_p xr_121_12 xn_121 (pc' := 13) (ls' := [(1, .int (iI 1)), (0, .ref 1)]) (st' := [.ref 1]) rfl ?_
    have h2749 := (hf2741.1 1 (by first | decide | omega)).trans (hO1)
    refine T_get xr_121_13 h2749 rfl (v := .ref 2) rfl (pc' := 16) rfl ?_
    refine T_p xr_121_16 xn_121 (pc' := 17) (ls' := [(1, .int (iI 1)), (0, .ref 1)]) (st' := [.int (iI 0), .ref 2]) rfl ?_
    have h2750 := (hf2741.1 2 (by first | decide | omega)).trans (hO2)
    refine T_put xr_121_17 h2750 rfl (Nat.le_of_ble_eq_true rfl) rfl (fs' := [.ref 3, .int (iI 0)]) rfl (pc' := 20) rfl (fun S2751 h2752 n2753 e2754 => ?_)
    refine T_p xr_121_20 xn_121 (pc' := 21) (ls' := [(1, .int (iI 1)), (0, .ref 1)]) (st' := [.int (iI 1)]) rfl ?_
    refine T_zif_net xr_121_21 (t := 26) rfl (by decide) ?_
    refine T_p xr_121_26 xn_121 (pc' := 27) (ls' := [(1, .int (iI 1)), (0, .ref 1)]) (st' := [.ref 1]) rfl ?_
    have h2755 := (n2753 1 (by decide)).trans (h2749)
    refine T_cv (S := S2751) (q := 1) xr_121_27 xf_130.1 xf_130.2.1 xn_130 (as := []) (r := []) rfl h2755 (Nat.le_of_ble_eq_true rfl) (Nat.le_of_ble_eq_true rfl) (pc' := 30) rfl (ls' := [(0, .ref 1)]) rfl ?_
    have h2756 := (n2753 511 (by decide)).trans ((hf2741.1 511 (by first | decide | omega)).trans (hO511))
    have h2757 := (n2753 504 (by decide)).trans ((hf2741.1 504 (by first | decide | omega)).trans (hO504))
    have h2758 := (n2753 527 (by decide)).trans ((hf2741.1 527 (by first | decide | omega)).trans (hO527))
    refine T_mono (c_dropReading sc S2751 B B2 B fl nc rs re hgt h2755 h2756 h2757 h2758) (fun v2759 S2760 h2761 => ?_)
    rcases h2761 with ⟨hv2762, ho2763, ho2764, ho2765, hf2766⟩
    rw [hv2762]
    show X_T sc 121 (30, [(1, .int (iI 1)), (0, .ref 1)], [], S2760) _
    refine T_p xr_121_30 xn_121 (pc' := 31) (ls' := [(1, .int (iI 1)), (0, .ref 1)]) (st' := [.ref 1]) rfl ?_
    have h2767 := (hf2766.1 1 (by first | decide | omega)).trans (h2755)
    refine T_get xr_121_31 h2767 rfl (v := .ref 501) rfl (pc' := 34) rfl ?_
    have h2768 := (hf2766.1 501 (by first | decide | omega)).trans ((n2753 501 (by decide)).trans (ho2738))
    refine T_get xr_121_34 h2768 rfl (v := .int (iI n2729)) rfl (pc' := 37) rfl ?_
    refine T_iret xr_121_37 xf_121.2.2 rfl ?_
    refine hQ _ _ ?_
    have h2769 := (hf2766.1 2 (by first | decide | omega)).trans (h2752)
    have h2770 := (hf2766.1 502 (by first | decide | omega)).trans ((n2753 502 (by decide)).trans (ha2739))
    have h2771 := (hf2766.1 503 (by first | decide | omega)).trans ((n2753 503 (by decide)).trans (ha2740))
    exact Or.inr ⟨n2729, z2730, t2731, ot2732, dr2733, rfl, hp2735, hp2736, hp2737, h2769, h2768, ho2763, ho2764, ho2765, h2770, h2771, (((X_Fr.rf).tr (X_Fr.mono ⟨hf2741.1, hf2741.2⟩ (fun q hq => (by omega)))).tr (X_Fr.of n2753 e2754 (by first | decide | exact ⟨Nat.le_add_right _ _, Nat.add_le_add_left (by decide) _⟩ | omega))).tr (X_Fr.mono ⟨hf2766.1, hf2766.2⟩ (fun q hq => (by omega)))⟩
set_option maxHeartbeats 1600000 in
theorem c_book (sc : X_Sc) (S : X_S) (B : Nat) (B2 : Nat) (B0 : Nat) (fl0 : Int) (fp0 : Int) (at0 : Int) (n0 : Int) (cur0 : Int) (so0 : Int → Int) (pl0 : Int → Int) (ct0 : Int → Int64) (rc2 : Int) (kc2 : Int) (wc2 : Int) (rn2 : Int → Int64) (lo2 : Int → Int) (kn2 : Int → Int64) (ab2 : Int → Int) (D2 : Int → Nat → Int → Int) (W2 : Int → Int → Int64) (tn : Int) (fl : Int) (nc : Int) (rs : Int) (re : Int) (hgt : Int) (len : Int) (tb : Int → Int) (hO1 : S.1 1 = .inr (10, [.ref 2, .ref B, .ref B2, .ref 496, .ref 501, .ref 504, .ref 511, .ref 517, .ref 527])) (hO2 : S.1 2 = .inr (7, [.ref 3, .int (iI len)])) (hO501 : S.1 501 = .inr (6, [.int (iI tn), .ref 502, .ref 503])) (hO511 : S.1 511 = .inr (1, [.ref B, .ref 501, .int (iI fl), .ref 512, .ref 513, .ref 514, .ref 515, .ref 516])) (hO504 : S.1 504 = .inr (5, [.int (iI nc), .ref 505, .ref 506, .ref 507, .ref 508, .ref 509, .ref 510])) (hO527 : S.1 527 = .inr (9, [.ref 501, .ref 504, .int (iI rs), .int (iI re), .ref 528, .ref 529, .int (iI hgt)])) (hB : (B = 4 ∧ B2 = 250) ∨ (B = 250 ∧ B2 = 4)) (hA3 : S.1 3 = .inl (.byte, 2000, .inl fun k : Nat => iI (tb (k : Int)))) (hl : 0 ≤ len ∧ len ≤ 2000) (hp0 : C_pa S B0 fl0 fp0) (hx0 : C_lx S at0 n0 cur0 so0 pl0 ct0) (hb2 : C_bk S B2 rc2 kc2 wc2 rn2 lo2 kn2 ab2) (hs2 : C_ws S B2 D2 W2) : X_T sc 115 (0, [(0, .ref 1)], [], S) (fun v S' => (∃ (n : Int) (so : Int → Int) (pl : Int → Int) (ct : Int → Int64) (c1 : Int) (rc1 : Int) (kc1 : Int) (wc1 : Int) (rn1 : Int → Int64) (lo1 : Int → Int) (kn1 : Int → Int64) (ab1 : Int → Int) (D1 : Int → Nat → Int → Int) (W1 : Int → Int → Int64) (D3 : Int → Nat → Int → Int), v = some (.int (iI wc1)) ∧ X_Txt tb len n so pl ct ∧ sp_lines n so ct 2001 (0, 0, 1, 0, rn2, lo2, X_ug kn2 0 (Int64.ofNat 6384748), X_ug ab2 0 1, D2, W2) = some (c1, rc1, kc1, wc1, rn1, lo1, kn1, ab1, D1, W1) ∧ X_Kok (c1, rc1, kc1, wc1, rn1, lo1, kn1, ab1, D1, W1) ∧ X_sD D1 D3 ∧ ((∀ w, 0 ≤ w → w < wc1 → ∀ e, X_hl (D1 w) (W1 w) e → X_tkn lo1 ab1 kc1 wc1 D1 W1 w e (D3 w 11 (D1 w 8 e)) (D3 w 10 (D1 w 8 e)))) ∧ C_bk S' B2 rc1 kc1 wc1 rn1 lo1 kn1 ab1 ∧ C_ws S' B2 D3 W1 ∧ ((∃ (fl fp : Int), C_pa S' B2 fl fp) ∧ (∃ (a1 a2 a3 : Int) (b1 b2 : Int → Int) (b3 : Int → Int64), C_lx S' a1 a2 a3 b1 b2 b3)) ∧ S'.1 1 = .inr (10, [.ref 2, .ref B2, .ref B, .ref 496, .ref 501, .ref 504, .ref 511, .ref 517, .ref 527]) ∧ S'.1 2 = .inr (7, [.ref 3, .int (iI 0)]) ∧ S'.1 501 = .inr (6, [.int (iI 0), .ref 502, .ref 503]) ∧ S'.1 511 = .inr (1, [.ref B2, .ref 501, .int (iI 0), .ref 512, .ref 513, .ref 514, .ref 515, .ref 516]) ∧ S'.1 504 = .inr (5, [.int (iI 0), .ref 505, .ref 506, .ref 507, .ref 508, .ref 509, .ref 510]) ∧ S'.1 527 = .inr (9, [.ref 501, .ref 504, .int (iI 0), .int (iI (-1)), .ref 528, .ref 529, .int (iI hgt)]) ∧ (X_Fr (fun q => q = 1 ∨ q = 2 ∨ (496 ≤ q ∧ q ≤ 501) ∨ q = 504 ∨ q = 511 ∨ q = 527 ∨ (B2 ≤ q ∧ q < B2 + 246)) S S')) ∨ (∃ (n : Int) (so : Int → Int) (pl : Int → Int) (ct : Int → Int64) (rc2x : Int) (kc2x : Int) (wc2x : Int) (rn2x : Int → Int64) (lo2x : Int → Int) (kn2x : Int → Int64) (ab2x : Int → Int) (D2x : Int → Nat → Int → Int) (W2x : Int → Int → Int64), v = some (.int (iI (-1))) ∧ X_Txt tb len n so pl ct ∧ sp_lines n so ct 2001 (0, 0, 1, 0, rn2, lo2, X_ug kn2 0 (Int64.ofNat 6384748), X_ug ab2 0 1, D2, W2) = none ∧ C_bk S' B2 rc2x kc2x wc2x rn2x lo2x kn2x ab2x ∧ C_ws S' B2 D2x W2x ∧ ((∃ (fl fp : Int), C_pa S' B2 fl fp) ∧ (∃ (a1 a2 a3 : Int) (b1 b2 : Int → Int) (b3 : Int → Int64), C_lx S' a1 a2 a3 b1 b2 b3)) ∧ S'.1 2 = .inr (7, [.ref 3, .int (iI 0)]) ∧ (X_Fr (fun q => q = 2 ∨ (496 ≤ q ∧ q ≤ 500) ∨ (B2 ≤ q ∧ q < B2 + 246)) S S'))) := by
  refine X_QI (fun Q hQ => ?_)
  refine T_p xr_115_0 xn_115 (pc' := 1) (ls' := [(0, .ref 1)]) (st' := [.ref 1]) rfl ?_
  refine T_get xr_115_1 hO1 rfl (v := .ref 496) rfl (pc' := 4) rfl ?_
  refine T_p xr_115_4 xn_115 (pc' := 5) (ls' := [(0, .ref 1)]) (st' := [.ref 1, .ref 496]) rfl ?_
  refine T_get xr_115_5 hO1 rfl (v := .ref B2) rfl (pc' := 8) rfl ?_
  refine T_cv (S := S) (q := 496) xr_115_8 xf_65.1 xf_65.2.1 xn_65 (as := [.ref B2]) (r := []) rfl hp0 (Nat.le_of_ble_eq_true rfl) (Nat.le_of_ble_eq_true rfl) (pc' := 11) rfl (ls' := [(0, .ref 496), (1, .ref B2)]) rfl ?_
  refine T_mono (c_parse sc S B2 B0 len tb fl0 fp0 at0 n0 cur0 so0 pl0 ct0 rc2 kc2 wc2 rn2 lo2 kn2 ab2 D2 W2 (by omega) ⟨hO2, hA3, by omega, by omega⟩ hp0 hx0 hb2 hs2) (fun v2772 S2773 h2774 => ?_)
  obtain ⟨n, so, pl, ct, at2775, hTx, h2774 | h2774, hfr2777⟩ := h2774
  · skip
    obtain ⟨hv2776, c1, rc1, kc1, wc1, rn1, lo1, kn1, ab1, D1, W1, D3, fp1, hsp, hKk, hsD, htk, hCK⟩ := h2774
    rw [hv2776]
    have hbk : C_bk S2773 B2 rc1 kc1 wc1 rn1 lo1 kn1 ab1 := hCK.2.2.1
    have hws : C_ws S2773 B2 D3 W1 := hCK.2.2.2.1
    have hwcr := hbk.2.2.2.2.2.2.2.2
    show X_T sc 115 (11, [(0, .ref 1)], [.int (iI 1)], S2773) _
    refine T_p xr_115_11 xn_115 (pc' := 12) (ls' := [(1, .int (iI 1)), (0, .ref 1)]) (st' := []) rfl ?_
    refine T_p xr_115_12 xn_115 (pc' := 13) (ls' := [(1, .int (iI 1)), (0, .ref 1)]) (st' := [.ref 1]) rfl ?_
    have h2778 := (hfr2777.1 1 (by first | decide | omega)).trans (hO1)
    refine T_get xr_115_13 h2778 rfl (v := .ref 2) rfl (pc' := 16) rfl ?_
    refine T_p xr_115_16 xn_115 (pc' := 17) (ls' := [(1, .int (iI 1)), (0, .ref 1)]) (st' := [.int (iI 0), .ref 2]) rfl ?_
    have h2779 := (hfr2777.1 2 (by first | decide | omega)).trans (hO2)
    refine T_put xr_115_17 h2779 rfl (Nat.le_of_ble_eq_true rfl) rfl (fs' := [.ref 3, .int (iI 0)]) rfl (pc' := 20) rfl (fun S2780 h2781 n2782 e2783 => ?_)
    refine T_p xr_115_20 xn_115 (pc' := 21) (ls' := [(1, .int (iI 1)), (0, .ref 1)]) (st' := [.int (iI 1)]) rfl ?_
    refine T_zif_net xr_115_21 (t := 26) rfl (by decide) ?_
    refine T_p xr_115_26 xn_115 (pc' := 27) (ls' := [(1, .int (iI 1)), (0, .ref 1)]) (st' := [.ref 1]) rfl ?_
    have h2784 := (n2782 1 (by decide)).trans (h2778)
    refine T_get xr_115_27 h2784 rfl (v := .ref B2) rfl (pc' := 30) rfl ?_
    refine T_p xr_115_30 xn_115 (pc' := 31) (ls' := [(2, .ref B2), (1, .int (iI 1)), (0, .ref 1)]) (st' := []) rfl ?_
    refine T_p xr_115_31 xn_115 (pc' := 32) (ls' := [(2, .ref B2), (1, .int (iI 1)), (0, .ref 1)]) (st' := [.ref 1]) rfl ?_
    refine T_p xr_115_32 xn_115 (pc' := 33) (ls' := [(2, .ref B2), (1, .int (iI 1)), (0, .ref 1)]) (st' := [.ref 1, .ref 1]) rfl ?_
    refine T_get xr_115_33 h2784 rfl (v := .ref B) rfl (pc' := 36) rfl ?_
    refine T_put xr_115_36 h2784 rfl (Nat.le_of_ble_eq_true rfl) rfl (fs' := [.ref 2, .ref B, .ref B, .ref 496, .ref 501, .ref 504, .ref 511, .ref 517, .ref 527]) rfl (pc' := 39) rfl (fun S2785 h2786 n2787 e2788 => ?_)
    refine T_p xr_115_39 xn_115 (pc' := 40) (ls' := [(2, .ref B2), (1, .int (iI 1)), (0, .ref 1)]) (st' := [.ref 1]) rfl ?_
    refine T_p xr_115_40 xn_115 (pc' := 41) (ls' := [(2, .ref B2), (1, .int (iI 1)), (0, .ref 1)]) (st' := [.ref B2, .ref 1]) rfl ?_
    refine T_put xr_115_41 h2786 rfl (Nat.le_of_ble_eq_true rfl) rfl (fs' := [.ref 2, .ref B2, .ref B, .ref 496, .ref 501, .ref 504, .ref 511, .ref 517, .ref 527]) rfl (pc' := 44) rfl (fun S2789 h2790 n2791 e2792 => ?_)
    refine T_p xr_115_44 xn_115 (pc' := 45) (ls' := [(2, .ref B2), (1, .int (iI 1)), (0, .ref 1)]) (st' := [.ref 1]) rfl ?_
    refine T_get xr_115_45 h2790 rfl (v := .ref 501) rfl (pc' := 48) rfl ?_
    refine T_p xr_115_48 xn_115 (pc' := 49) (ls' := [(2, .ref B2), (1, .int (iI 1)), (0, .ref 1)]) (st' := [.int (iI 0), .ref 501]) rfl ?_
    have h2793 := (n2791 501 (by decide)).trans ((n2787 501 (by decide)).trans ((n2782 501 (by decide)).trans ((hfr2777.1 501 (by first | decide | omega)).trans (hO501))))
    refine T_put xr_115_49 h2793 rfl (Nat.le_of_ble_eq_true rfl) rfl (fs' := [.int (iI 0), .ref 502, .ref 503]) rfl (pc' := 52) rfl (fun S2794 h2795 n2796 e2797 => ?_)
    refine T_p xr_115_52 xn_115 (pc' := 53) (ls' := [(2, .ref B2), (1, .int (iI 1)), (0, .ref 1)]) (st' := [.ref 1]) rfl ?_
    have h2798 := (n2796 1 (by decide)).trans (h2790)
    refine T_cv (S := S2794) (q := 1) xr_115_53 xf_130.1 xf_130.2.1 xn_130 (as := []) (r := []) rfl h2798 (Nat.le_of_ble_eq_true rfl) (Nat.le_of_ble_eq_true rfl) (pc' := 56) rfl (ls' := [(0, .ref 1)]) rfl ?_
    have h2799 := (n2796 511 (by decide)).trans ((n2791 511 (by decide)).trans ((n2787 511 (by decide)).trans ((n2782 511 (by decide)).trans ((hfr2777.1 511 (by first | decide | omega)).trans (hO511)))))
    have h2800 := (n2796 504 (by decide)).trans ((n2791 504 (by decide)).trans ((n2787 504 (by decide)).trans ((n2782 504 (by decide)).trans ((hfr2777.1 504 (by first | decide | omega)).trans (hO504)))))
    have h2801 := (n2796 527 (by decide)).trans ((n2791 527 (by decide)).trans ((n2787 527 (by decide)).trans ((n2782 527 (by decide)).trans ((hfr2777.1 527 (by first | decide | omega)).trans (hO527)))))
    refine T_mono (c_dropReading sc S2794 B2 B B fl nc rs re hgt h2798 h2799 h2800 h2801) (fun v2802 S2803 h2804 => ?_)
    rcases h2804 with ⟨hv2805, ho2806, ho2807, ho2808, hf2809⟩
    rw [hv2805]
    show X_T sc 115 (56, [(2, .ref B2), (1, .int (iI 1)), (0, .ref 1)], [], S2803) _
    refine T_p xr_115_56 xn_115 (pc' := 57) (ls' := [(2, .ref B2), (1, .int (iI 1)), (0, .ref 1)]) (st' := [.ref 1]) rfl ?_
    have h2810 := (hf2809.1 1 (by first | decide | omega)).trans (h2798)
    refine T_get xr_115_57 h2810 rfl (v := .ref B2) rfl (pc' := 60) rfl ?_
    have h2811 := (hf2809.1 B2 (by omega)).trans ((n2796 B2 (by omega)).trans ((n2791 B2 (by omega)).trans ((n2787 B2 (by omega)).trans ((n2782 B2 (by omega)).trans (hbk.1)))))
    refine T_get xr_115_60 h2811 rfl (v := .int (iI wc1)) rfl (pc' := 63) rfl ?_
    refine T_iret xr_115_63 xf_115.2.2 rfl ?_
    refine hQ _ _ ?_
    have hfE : X_Fr (fun q => q = 1 ∨ q = 2 ∨ q = 501 ∨ q = 504 ∨ q = 511 ∨ q = 527) S2773 S2803 := (((((X_Fr.rf).tr (X_Fr.of n2782 e2783 (by first | decide | exact ⟨Nat.le_add_right _ _, Nat.add_le_add_left (by decide) _⟩ | omega))).tr (X_Fr.of n2787 e2788 (by first | decide | exact ⟨Nat.le_add_right _ _, Nat.add_le_add_left (by decide) _⟩ | omega))).tr (X_Fr.of n2791 e2792 (by first | decide | exact ⟨Nat.le_add_right _ _, Nat.add_le_add_left (by decide) _⟩ | omega))).tr (X_Fr.of n2796 e2797 (by first | decide | exact ⟨Nat.le_add_right _ _, Nat.add_le_add_left (by decide) _⟩ | omega))).tr (X_Fr.mono ⟨hf2809.1, hf2809.2⟩ (fun q hq => (by omega)))
    have h2812 := (hf2809.1 2 (by first | decide | omega)).trans ((n2796 2 (by decide)).trans ((n2791 2 (by decide)).trans ((n2787 2 (by decide)).trans (h2781))))
    have h2813 := (hf2809.1 501 (by first | decide | omega)).trans (h2795)
    exact Or.inl ⟨n, so, pl, ct, c1, rc1, kc1, wc1, rn1, lo1, kn1, ab1, D1, W1, D3, rfl, hTx, hsp, hKk, hsD, htk, (hbk.fr hfE (fun k hk => by omega)), (hws.fr hfE (fun k h1 h2 => by omega)), ⟨⟨_, _, (hfE.1 496 (by first | decide | omega)).trans hCK.1⟩, ⟨_, _, _, _, _, _, (hfE.1 497 (by first | decide | omega)).trans hCK.2.1.1, (hfE.1 498 (by first | decide | omega)).trans hCK.2.1.2.1, (hfE.1 499 (by first | decide | omega)).trans hCK.2.1.2.2.1, (hfE.1 500 (by first | decide | omega)).trans hCK.2.1.2.2.2⟩⟩, h2810, h2812, h2813, ho2806, ho2807, ho2808, ((((((X_Fr.rf).tr (X_Fr.mono ⟨hfr2777.1, hfr2777.2⟩ (fun q hq => (by omega)))).tr (X_Fr.of n2782 e2783 (by first | decide | exact ⟨Nat.le_add_right _ _, Nat.add_le_add_left (by decide) _⟩ | omega))).tr (X_Fr.of n2787 e2788 (by first | decide | exact ⟨Nat.le_add_right _ _, Nat.add_le_add_left (by decide) _⟩ | omega))).tr (X_Fr.of n2791 e2792 (by first | decide | exact ⟨Nat.le_add_right _ _, Nat.add_le_add_left (by decide) _⟩ | omega))).tr (X_Fr.of n2796 e2797 (by first | decide | exact ⟨Nat.le_add_right _ _, Nat.add_le_add_left (by decide) _⟩ | omega))).tr (X_Fr.mono ⟨hf2809.1, hf2809.2⟩ (fun q hq => (by omega)))⟩
  · skip
    obtain ⟨hv2776, hsp, fl1, fp1, ⟨c1, rc1, kc1, wc1, rn1, lo1, kn1, ab1, D1, W1⟩, hfl1, hCK⟩ := h2774
    rw [hv2776]
    have hbk : C_bk S2773 B2 rc1 kc1 wc1 rn1 lo1 kn1 ab1 := hCK.2.2.1
    have hws : C_ws S2773 B2 D1 W1 := hCK.2.2.2.1
    show X_T sc 115 (11, [(0, .ref 1)], [.int (iI 0)], S2773) _
    refine T_p xr_115_11 xn_115 (pc' := 12) (ls' := [(1, .int (iI 0)), (0, .ref 1)]) (st' := []) rfl ?_
    refine T_p xr_115_12 xn_115 (pc' := 13) (ls' := [(1, .int (iI 0)), (0, .ref 1)]) (st' := [.ref 1]) rfl ?_
    have h2814 := (hfr2777.1 1 (by first | decide | omega)).trans (hO1)
    refine T_get xr_115_13 h2814 rfl (v := .ref 2) rfl (pc' := 16) rfl ?_
    refine T_p xr_115_16 xn_115 (pc' := 17) (ls' := [(1, .int (iI 0)), (0, .ref 1)]) (st' := [.int (iI 0), .ref 2]) rfl ?_
    have h2815 := (hfr2777.1 2 (by first | decide | omega)).trans (hO2)
    refine T_put xr_115_17 h2815 rfl (Nat.le_of_ble_eq_true rfl) rfl (fs' := [.ref 3, .int (iI 0)]) rfl (pc' := 20) rfl (fun S2816 h2817 n2818 e2819 => ?_)
    refine T_p xr_115_20 xn_115 (pc' := 21) (ls' := [(1, .int (iI 0)), (0, .ref 1)]) (st' := [.int (iI 0)]) rfl ?_
    refine T_zif_nef xr_115_21 (t := 26) (pc' := 24) rfl rfl (by decide) ?_
    refine T_p xr_115_24 xn_115 (pc' := 25) (ls' := [(1, .int (iI 0)), (0, .ref 1)]) (st' := [.int (iI (-1))]) rfl ?_
    refine T_iret xr_115_25 xf_115.2.2 rfl ?_
    refine hQ _ _ ?_
    have hfE : X_Fr (fun q => q = 1 ∨ q = 2 ∨ q = 501 ∨ q = 504 ∨ q = 511 ∨ q = 527) S2773 S2816 := (X_Fr.rf).tr (X_Fr.of n2818 e2819 (by first | decide | exact ⟨Nat.le_add_right _ _, Nat.add_le_add_left (by decide) _⟩ | omega))
    exact Or.inr ⟨n, so, pl, ct, rc1, kc1, wc1, rn1, lo1, kn1, ab1, D1, W1, rfl, hTx, hsp, (hbk.fr hfE (fun k hk => by omega)), (hws.fr hfE (fun k h1 h2 => by omega)), ⟨⟨_, _, (hfE.1 496 (by first | decide | omega)).trans hCK.1⟩, ⟨_, _, _, _, _, _, (hfE.1 497 (by first | decide | omega)).trans hCK.2.1.1, (hfE.1 498 (by first | decide | omega)).trans hCK.2.1.2.1, (hfE.1 499 (by first | decide | omega)).trans hCK.2.1.2.2.1, (hfE.1 500 (by first | decide | omega)).trans hCK.2.1.2.2.2⟩⟩, h2817, ((X_Fr.rf).tr (X_Fr.mono ⟨hfr2777.1, hfr2777.2⟩ (fun q hq => (by omega)))).tr (X_Fr.of n2818 e2819 (by first | decide | exact ⟨Nat.le_add_right _ _, Nat.add_le_add_left (by decide) _⟩ | omega))⟩
end
