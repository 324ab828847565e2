theorem xr_158_0 : X_row 158 0 = some (0, (.bipush 8, 2), (0, 0, 0)) := by decide +kernel
theorem xr_158_2 : X_row 158 2 = some (2, (.iload_n 1, 1), (0, 0, 0)) := by decide +kernel
theorem xr_158_3 : X_row 158 3 = some (3, (.imul, 1), (0, 0, 0)) := by decide +kernel
theorem xr_158_4 : X_row 158 4 = some (4, (.aload_n 0, 1), (0, 0, 0)) := by decide +kernel
theorem xr_158_5 : X_row 158 5 = some (5, (.getfield 150, 3), (11, 20, 40)) := by decide +kernel
theorem xr_158_8 : X_row 158 8 = some (8, (.iload_n 1, 1), (0, 0, 0)) := by decide +kernel
theorem xr_158_9 : X_row 158 9 = some (9, (.iaload, 1), (0, 0, 0)) := by decide +kernel
theorem xr_158_10 : X_row 158 10 = some (10, (.iadd, 1), (0, 0, 0)) := by decide +kernel
theorem xr_158_11 : X_row 158 11 = some (11, (.istore_n 2, 1), (0, 0, 0)) := by decide +kernel
theorem xr_158_12 : X_row 158 12 = some (12, (.aload_n 0, 1), (0, 0, 0)) := by decide +kernel
theorem xr_158_13 : X_row 158 13 = some (13, (.getfield 27, 3), (11, 9, 18)) := by decide +kernel
theorem xr_158_16 : X_row 158 16 = some (16, (.iconst 5, 1), (0, 0, 0)) := by decide +kernel
theorem xr_158_17 : X_row 158 17 = some (17, (.if_icmp .eq 7, 3), (0, 0, 0)) := by decide +kernel
theorem xr_158_20 : X_row 158 20 = some (20, (.iconst 1, 1), (0, 0, 0)) := by decide +kernel
theorem xr_158_21 : X_row 158 21 = some (21, (.goto 4, 3), (0, 0, 0)) := by decide +kernel
theorem xr_158_24 : X_row 158 24 = some (24, (.iconst 0, 1), (0, 0, 0)) := by decide +kernel
theorem xr_158_25 : X_row 158 25 = some (25, (.istore_n 3, 1), (0, 0, 0)) := by decide +kernel
theorem xr_158_26 : X_row 158 26 = some (26, (.aload_n 0, 1), (0, 0, 0)) := by decide +kernel
theorem xr_158_27 : X_row 158 27 = some (27, (.getfield 150, 3), (11, 20, 40)) := by decide +kernel
theorem xr_158_30 : X_row 158 30 = some (30, (.iload_n 1, 1), (0, 0, 0)) := by decide +kernel
theorem xr_158_31 : X_row 158 31 = some (31, (.iaload, 1), (0, 0, 0)) := by decide +kernel
theorem xr_158_32 : X_row 158 32 = some (32, (.bipush 8, 2), (0, 0, 0)) := by decide +kernel
theorem xr_158_34 : X_row 158 34 = some (34, (.if_icmp .eq 39, 3), (0, 0, 0)) := by decide +kernel
theorem xr_158_37 : X_row 158 37 = some (37, (.iload_n 3, 1), (0, 0, 0)) := by decide +kernel
theorem xr_158_38 : X_row 158 38 = some (38, (.ifCond .eq 39, 3), (0, 0, 0)) := by decide +kernel
theorem xr_158_41 : X_row 158 41 = some (41, (.aload_n 0, 1), (0, 0, 0)) := by decide +kernel
theorem xr_158_42 : X_row 158 42 = some (42, (.getfield 153, 3), (11, 21, 42)) := by decide +kernel
theorem xr_158_45 : X_row 158 45 = some (45, (.iload_n 1, 1), (0, 0, 0)) := by decide +kernel
theorem xr_158_46 : X_row 158 46 = some (46, (.iaload, 1), (0, 0, 0)) := by decide +kernel
theorem xr_158_47 : X_row 158 47 = some (47, (.iconst 4, 1), (0, 0, 0)) := by decide +kernel
theorem xr_158_48 : X_row 158 48 = some (48, (.if_icmp .eq 25, 3), (0, 0, 0)) := by decide +kernel
theorem xr_158_51 : X_row 158 51 = some (51, (.aload_n 0, 1), (0, 0, 0)) := by decide +kernel
theorem xr_158_52 : X_row 158 52 = some (52, (.getfield 150, 3), (11, 20, 40)) := by decide +kernel
theorem xr_158_55 : X_row 158 55 = some (55, (.iload_n 1, 1), (0, 0, 0)) := by decide +kernel
theorem xr_158_56 : X_row 158 56 = some (56, (.iaload, 1), (0, 0, 0)) := by decide +kernel
theorem xr_158_57 : X_row 158 57 = some (57, (.ifCond .le 20, 3), (0, 0, 0)) := by decide +kernel
theorem xr_158_60 : X_row 158 60 = some (60, (.aload_n 0, 1), (0, 0, 0)) := by decide +kernel
theorem xr_158_61 : X_row 158 61 = some (61, (.getfield 168, 3), (11, 25, 50)) := by decide +kernel
theorem xr_158_64 : X_row 158 64 = some (64, (.iload_n 2, 1), (0, 0, 0)) := by decide +kernel
theorem xr_158_65 : X_row 158 65 = some (65, (.iconst 1, 1), (0, 0, 0)) := by decide +kernel
theorem xr_158_66 : X_row 158 66 = some (66, (.isub, 1), (0, 0, 0)) := by decide +kernel
theorem xr_158_67 : X_row 158 67 = some (67, (.laload, 1), (0, 0, 0)) := by decide +kernel
theorem xr_158_68 : X_row 158 68 = some (68, (.lconst 0, 1), (0, 0, 0)) := by decide +kernel
theorem xr_158_69 : X_row 158 69 = some (69, (.lcmp, 1), (0, 0, 0)) := by decide +kernel
theorem xr_158_70 : X_row 158 70 = some (70, (.ifCond .ne 7, 3), (0, 0, 0)) := by decide +kernel
theorem xr_158_73 : X_row 158 73 = some (73, (.aload_n 0, 1), (0, 0, 0)) := by decide +kernel
theorem xr_158_74 : X_row 158 74 = some (74, (.invokevirtual 81, 3), (147, 16, 0)) := by decide +kernel
theorem xr_158_77 : X_row 158 77 = some (77, (.aload_n 0, 1), (0, 0, 0)) := by decide +kernel
theorem xr_158_78 : X_row 158 78 = some (78, (.invokevirtual 100, 3), (140, 14, 0)) := by decide +kernel
theorem xr_158_81 : X_row 158 81 = some (81, (.ifCond .ne 4, 3), (0, 0, 0)) := by decide +kernel
theorem xr_158_84 : X_row 158 84 = some (84, (.return_, 1), (0, 0, 0)) := by decide +kernel
theorem xr_158_85 : X_row 158 85 = some (85, (.aload_n 0, 1), (0, 0, 0)) := by decide +kernel
theorem xr_158_86 : X_row 158 86 = some (86, (.getfield 150, 3), (11, 20, 40)) := by decide +kernel
theorem xr_158_89 : X_row 158 89 = some (89, (.iload_n 1, 1), (0, 0, 0)) := by decide +kernel
theorem xr_158_90 : X_row 158 90 = some (90, (.dup2, 1), (0, 0, 0)) := by decide +kernel
theorem xr_158_91 : X_row 158 91 = some (91, (.iaload, 1), (0, 0, 0)) := by decide +kernel
theorem xr_158_92 : X_row 158 92 = some (92, (.iconst 1, 1), (0, 0, 0)) := by decide +kernel
theorem xr_158_93 : X_row 158 93 = some (93, (.iadd, 1), (0, 0, 0)) := by decide +kernel
theorem xr_158_94 : X_row 158 94 = some (94, (.iastore, 1), (0, 0, 0)) := by decide +kernel
theorem xr_158_95 : X_row 158 95 = some (95, (.aload_n 0, 1), (0, 0, 0)) := by decide +kernel
theorem xr_158_96 : X_row 158 96 = some (96, (.getfield 168, 3), (11, 25, 50)) := by decide +kernel
theorem xr_158_99 : X_row 158 99 = some (99, (.iload_n 2, 1), (0, 0, 0)) := by decide +kernel
theorem xr_158_100 : X_row 158 100 = some (100, (.iload_n 3, 1), (0, 0, 0)) := by decide +kernel
theorem xr_158_101 : X_row 158 101 = some (101, (.ifCond .eq 7, 3), (0, 0, 0)) := by decide +kernel
theorem xr_158_104 : X_row 158 104 = some (104, (.lconst 0, 1), (0, 0, 0)) := by decide +kernel
theorem xr_158_105 : X_row 158 105 = some (105, (.goto 7, 3), (0, 0, 0)) := by decide +kernel
theorem xr_158_108 : X_row 158 108 = some (108, (.aload_n 0, 1), (0, 0, 0)) := by decide +kernel
theorem xr_158_109 : X_row 158 109 = some (109, (.getfield 41, 3), (11, 12, 24)) := by decide +kernel
theorem xr_158_112 : X_row 158 112 = some (112, (.lastore, 1), (0, 0, 0)) := by decide +kernel
theorem xr_158_113 : X_row 158 113 = some (113, (.aload_n 0, 1), (0, 0, 0)) := by decide +kernel
theorem xr_158_114 : X_row 158 114 = some (114, (.invokevirtual 78, 3), (141, 0, 0)) := by decide +kernel
theorem xr_158_117 : X_row 158 117 = some (117, (.iload_n 3, 1), (0, 0, 0)) := by decide +kernel
theorem xr_158_118 : X_row 158 118 = some (118, (.ifCond .ne 4, 3), (0, 0, 0)) := by decide +kernel
theorem xr_158_121 : X_row 158 121 = some (121, (.return_, 1), (0, 0, 0)) := by decide +kernel
theorem xr_158_122 : X_row 158 122 = some (122, (.aload_n 0, 1), (0, 0, 0)) := by decide +kernel
theorem xr_158_123 : X_row 158 123 = some (123, (.getfield 171, 3), (11, 26, 52)) := by decide +kernel
theorem xr_158_126 : X_row 158 126 = some (126, (.iload_n 2, 1), (0, 0, 0)) := by decide +kernel
theorem xr_158_127 : X_row 158 127 = some (127, (.aload_n 0, 1), (0, 0, 0)) := by decide +kernel
theorem xr_158_128 : X_row 158 128 = some (128, (.getfield 153, 3), (11, 21, 42)) := by decide +kernel
theorem xr_158_131 : X_row 158 131 = some (131, (.iload_n 1, 1), (0, 0, 0)) := by decide +kernel
theorem xr_158_132 : X_row 158 132 = some (132, (.iaload, 1), (0, 0, 0)) := by decide +kernel
theorem xr_158_133 : X_row 158 133 = some (133, (.iastore, 1), (0, 0, 0)) := by decide +kernel
theorem xr_158_134 : X_row 158 134 = some (134, (.aload_n 0, 1), (0, 0, 0)) := by decide +kernel
theorem xr_158_135 : X_row 158 135 = some (135, (.getfield 174, 3), (11, 27, 54)) := by decide +kernel
theorem xr_158_138 : X_row 158 138 = some (138, (.iconst 4, 1), (0, 0, 0)) := by decide +kernel
theorem xr_158_139 : X_row 158 139 = some (139, (.iload_n 1, 1), (0, 0, 0)) := by decide +kernel
theorem xr_158_140 : X_row 158 140 = some (140, (.imul, 1), (0, 0, 0)) := by decide +kernel
theorem xr_158_141 : X_row 158 141 = some (141, (.aload_n 0, 1), (0, 0, 0)) := by decide +kernel
theorem xr_158_142 : X_row 158 142 = some (142, (.getfield 153, 3), (11, 21, 42)) := by decide +kernel
theorem xr_158_145 : X_row 158 145 = some (145, (.iload_n 1, 1), (0, 0, 0)) := by decide +kernel
theorem xr_158_146 : X_row 158 146 = some (146, (.iaload, 1), (0, 0, 0)) := by decide +kernel
theorem xr_158_147 : X_row 158 147 = some (147, (.iadd, 1), (0, 0, 0)) := by decide +kernel
theorem xr_158_148 : X_row 158 148 = some (148, (.aload_n 0, 1), (0, 0, 0)) := by decide +kernel
theorem xr_158_149 : X_row 158 149 = some (149, (.getfield 27, 3), (11, 9, 18)) := by decide +kernel
theorem xr_158_152 : X_row 158 152 = some (152, (.iconst 2, 1), (0, 0, 0)) := by decide +kernel
theorem xr_158_153 : X_row 158 153 = some (153, (.if_icmp .ne 10, 3), (0, 0, 0)) := by decide +kernel
theorem xr_158_156 : X_row 158 156 = some (156, (.aload_n 0, 1), (0, 0, 0)) := by decide +kernel
theorem xr_158_157 : X_row 158 157 = some (157, (.invokevirtual 131, 3), (152, 40, 0)) := by decide +kernel
theorem xr_158_160 : X_row 158 160 = some (160, (.goto 4, 3), (0, 0, 0)) := by decide +kernel
theorem xr_158_163 : X_row 158 163 = some (163, (.iconst 0, 1), (0, 0, 0)) := by decide +kernel
theorem xr_158_164 : X_row 158 164 = some (164, (.iastore, 1), (0, 0, 0)) := by decide +kernel
theorem xr_158_165 : X_row 158 165 = some (165, (.aload_n 0, 1), (0, 0, 0)) := by decide +kernel
theorem xr_158_166 : X_row 158 166 = some (166, (.getfield 153, 3), (11, 21, 42)) := by decide +kernel
theorem xr_158_169 : X_row 158 169 = some (169, (.iload_n 1, 1), (0, 0, 0)) := by decide +kernel
theorem xr_158_170 : X_row 158 170 = some (170, (.dup2, 1), (0, 0, 0)) := by decide +kernel
theorem xr_158_171 : X_row 158 171 = some (171, (.iaload, 1), (0, 0, 0)) := by decide +kernel
theorem xr_158_172 : X_row 158 172 = some (172, (.iconst 1, 1), (0, 0, 0)) := by decide +kernel
theorem xr_158_173 : X_row 158 173 = some (173, (.iadd, 1), (0, 0, 0)) := by decide +kernel
theorem xr_158_174 : X_row 158 174 = some (174, (.iastore, 1), (0, 0, 0)) := by decide +kernel
theorem xr_158_175 : X_row 158 175 = some (175, (.return_, 1), (0, 0, 0)) := by decide +kernel
theorem xr_159_0 : X_row 159 0 = some (0, (.iconst 0, 1), (0, 0, 0)) := by decide +kernel
theorem xr_159_1 : X_row 159 1 = some (1, (.istore_n 2, 1), (0, 0, 0)) := by decide +kernel
theorem xr_159_2 : X_row 159 2 = some (2, (.aload_n 0, 1), (0, 0, 0)) := by decide +kernel
theorem xr_159_3 : X_row 159 3 = some (3, (.getfield 156, 3), (11, 22, 44)) := by decide +kernel
theorem xr_159_6 : X_row 159 6 = some (6, (.iload_n 1, 1), (0, 0, 0)) := by decide +kernel
theorem xr_159_7 : X_row 159 7 = some (7, (.iconst 0, 1), (0, 0, 0)) := by decide +kernel
theorem xr_159_8 : X_row 159 8 = some (8, (.iastore, 1), (0, 0, 0)) := by decide +kernel
theorem xr_159_9 : X_row 159 9 = some (9, (.aload_n 0, 1), (0, 0, 0)) := by decide +kernel
theorem xr_159_10 : X_row 159 10 = some (10, (.invokevirtual 100, 3), (140, 14, 0)) := by decide +kernel
theorem xr_159_13 : X_row 159 13 = some (13, (.ifCond .eq 296, 3), (0, 0, 0)) := by decide +kernel
theorem xr_159_16 : X_row 159 16 = some (16, (.aload_n 0, 1), (0, 0, 0)) := by decide +kernel
theorem xr_159_17 : X_row 159 17 = some (17, (.bipush 59, 2), (0, 0, 0)) := by decide +kernel
theorem xr_159_19 : X_row 159 19 = some (19, (.invokevirtual 75, 3), (145, 26, 0)) := by decide +kernel
theorem xr_159_22 : X_row 159 22 = some (22, (.ifCond .ne 287, 3), (0, 0, 0)) := by decide +kernel
theorem xr_159_25 : X_row 159 25 = some (25, (.aload_n 0, 1), (0, 0, 0)) := by decide +kernel
theorem xr_159_26 : X_row 159 26 = some (26, (.getfield 20, 3), (11, 7, 14)) := by decide +kernel
theorem xr_159_29 : X_row 159 29 = some (29, (.istore_n 3, 1), (0, 0, 0)) := by decide +kernel
theorem xr_159_30 : X_row 159 30 = some (30, (.aload_n 0, 1), (0, 0, 0)) := by decide +kernel
theorem xr_159_31 : X_row 159 31 = some (31, (.getfield 27, 3), (11, 9, 18)) := by decide +kernel
theorem xr_159_34 : X_row 159 34 = some (34, (.iconst 4, 1), (0, 0, 0)) := by decide +kernel
theorem xr_159_35 : X_row 159 35 = some (35, (.if_icmp .ne 8, 3), (0, 0, 0)) := by decide +kernel
theorem xr_159_38 : X_row 159 38 = some (38, (.bipush 110, 2), (0, 0, 0)) := by decide +kernel
theorem xr_159_40 : X_row 159 40 = some (40, (.goto 24, 3), (0, 0, 0)) := by decide +kernel
theorem xr_159_43 : X_row 159 43 = some (43, (.aload_n 0, 1), (0, 0, 0)) := by decide +kernel
theorem xr_159_44 : X_row 159 44 = some (44, (.getfield 27, 3), (11, 9, 18)) := by decide +kernel
theorem xr_159_47 : X_row 159 47 = some (47, (.bipush 6, 2), (0, 0, 0)) := by decide +kernel
theorem xr_159_49 : X_row 159 49 = some (49, (.if_icmp .ne 14, 3), (0, 0, 0)) := by decide +kernel
theorem xr_159_52 : X_row 159 52 = some (52, (.aload_n 0, 1), (0, 0, 0)) := by decide +kernel
theorem xr_159_53 : X_row 159 53 = some (53, (.aload_n 0, 1), (0, 0, 0)) := by decide +kernel
theorem xr_159_54 : X_row 159 54 = some (54, (.getfield 20, 3), (11, 7, 14)) := by decide +kernel
theorem xr_159_57 : X_row 159 57 = some (57, (.invokevirtual 23, 3), (136, 2, 0)) := by decide +kernel
theorem xr_159_60 : X_row 159 60 = some (60, (.goto 4, 3), (0, 0, 0)) := by decide +kernel
theorem xr_159_63 : X_row 159 63 = some (63, (.iconst 0, 1), (0, 0, 0)) := by decide +kernel
theorem xr_159_64 : X_row 159 64 = some (64, (.istore 4, 2), (0, 0, 0)) := by decide +kernel
theorem xr_159_66 : X_row 159 66 = some (66, (.iload 4, 2), (0, 0, 0)) := by decide +kernel
theorem xr_159_68 : X_row 159 68 = some (68, (.ifCond .eq 35, 3), (0, 0, 0)) := by decide +kernel
theorem xr_159_71 : X_row 159 71 = some (71, (.iload 4, 2), (0, 0, 0)) := by decide +kernel
theorem xr_159_73 : X_row 159 73 = some (73, (.bipush 61, 2), (0, 0, 0)) := by decide +kernel
theorem xr_159_75 : X_row 159 75 = some (75, (.if_icmp .eq 28, 3), (0, 0, 0)) := by decide +kernel
theorem xr_159_78 : X_row 159 78 = some (78, (.iload 4, 2), (0, 0, 0)) := by decide +kernel
theorem xr_159_80 : X_row 159 80 = some (80, (.bipush 58, 2), (0, 0, 0)) := by decide +kernel
theorem xr_159_82 : X_row 159 82 = some (82, (.if_icmp .eq 21, 3), (0, 0, 0)) := by decide +kernel
theorem xr_159_85 : X_row 159 85 = some (85, (.iload 4, 2), (0, 0, 0)) := by decide +kernel
theorem xr_159_87 : X_row 159 87 = some (87, (.bipush 95, 2), (0, 0, 0)) := by decide +kernel
theorem xr_159_89 : X_row 159 89 = some (89, (.if_icmp .eq 14, 3), (0, 0, 0)) := by decide +kernel
theorem xr_159_92 : X_row 159 92 = some (92, (.aload_n 0, 1), (0, 0, 0)) := by decide +kernel
theorem xr_159_93 : X_row 159 93 = some (93, (.getfield 156, 3), (11, 22, 44)) := by decide +kernel
theorem xr_159_96 : X_row 159 96 = some (96, (.iload_n 1, 1), (0, 0, 0)) := by decide +kernel
theorem xr_159_97 : X_row 159 97 = some (97, (.iaload, 1), (0, 0, 0)) := by decide +kernel
theorem xr_159_98 : X_row 159 98 = some (98, (.bipush 30, 2), (0, 0, 0)) := by decide +kernel
theorem xr_159_100 : X_row 159 100 = some (100, (.if_icmp .ne 7, 3), (0, 0, 0)) := by decide +kernel
theorem xr_159_103 : X_row 159 103 = some (103, (.aload_n 0, 1), (0, 0, 0)) := by decide +kernel
theorem xr_159_104 : X_row 159 104 = some (104, (.invokevirtual 81, 3), (147, 16, 0)) := by decide +kernel
theorem xr_159_107 : X_row 159 107 = some (107, (.aload_n 0, 1), (0, 0, 0)) := by decide +kernel
theorem xr_159_108 : X_row 159 108 = some (108, (.invokevirtual 100, 3), (140, 14, 0)) := by decide +kernel
theorem xr_159_111 : X_row 159 111 = some (111, (.ifCond .ne 4, 3), (0, 0, 0)) := by decide +kernel
theorem xr_159_114 : X_row 159 114 = some (114, (.return_, 1), (0, 0, 0)) := by decide +kernel
theorem xr_159_115 : X_row 159 115 = some (115, (.bipush 30, 2), (0, 0, 0)) := by decide +kernel
theorem xr_159_117 : X_row 159 117 = some (117, (.iload_n 1, 1), (0, 0, 0)) := by decide +kernel
theorem xr_159_118 : X_row 159 118 = some (118, (.imul, 1), (0, 0, 0)) := by decide +kernel
theorem xr_159_119 : X_row 159 119 = some (119, (.aload_n 0, 1), (0, 0, 0)) := by decide +kernel
theorem xr_159_120 : X_row 159 120 = some (120, (.getfield 156, 3), (11, 22, 44)) := by decide +kernel
theorem xr_159_123 : X_row 159 123 = some (123, (.iload_n 1, 1), (0, 0, 0)) := by decide +kernel
theorem xr_159_124 : X_row 159 124 = some (124, (.iaload, 1), (0, 0, 0)) := by decide +kernel
theorem xr_159_125 : X_row 159 125 = some (125, (.iadd, 1), (0, 0, 0)) := by decide +kernel
theorem xr_159_126 : X_row 159 126 = some (126, (.istore 5, 2), (0, 0, 0)) := by decide +kernel
theorem xr_159_128 : X_row 159 128 = some (128, (.aload_n 0, 1), (0, 0, 0)) := by decide +kernel
theorem xr_159_129 : X_row 159 129 = some (129, (.getfield 177, 3), (11, 23, 46)) := by decide +kernel
theorem xr_159_132 : X_row 159 132 = some (132, (.iload 5, 2), (0, 0, 0)) := by decide +kernel
theorem xr_159_134 : X_row 159 134 = some (134, (.iload 4, 2), (0, 0, 0)) := by decide +kernel
theorem xr_159_136 : X_row 159 136 = some (136, (.iastore, 1), (0, 0, 0)) := by decide +kernel
theorem xr_159_137 : X_row 159 137 = some (137, (.aload_n 0, 1), (0, 0, 0)) := by decide +kernel
theorem xr_159_138 : X_row 159 138 = some (138, (.getfield 180, 3), (11, 24, 48)) := by decide +kernel
theorem xr_159_141 : X_row 159 141 = some (141, (.iload 5, 2), (0, 0, 0)) := by decide +kernel
theorem xr_159_143 : X_row 159 143 = some (143, (.aload_n 0, 1), (0, 0, 0)) := by decide +kernel
theorem xr_159_144 : X_row 159 144 = some (144, (.getfield 59, 3), (11, 10, 20)) := by decide +kernel
theorem xr_159_147 : X_row 159 147 = some (147, (.iastore, 1), (0, 0, 0)) := by decide +kernel
theorem xr_159_148 : X_row 159 148 = some (148, (.aload_n 0, 1), (0, 0, 0)) := by decide +kernel
theorem xr_159_149 : X_row 159 149 = some (149, (.invokevirtual 78, 3), (141, 0, 0)) := by decide +kernel
theorem xr_159_152 : X_row 159 152 = some (152, (.iload 4, 2), (0, 0, 0)) := by decide +kernel
theorem xr_159_154 : X_row 159 154 = some (154, (.bipush 64, 2), (0, 0, 0)) := by decide +kernel
theorem xr_159_156 : X_row 159 156 = some (156, (.if_icmp .ne 48, 3), (0, 0, 0)) := by decide +kernel
theorem xr_159_159 : X_row 159 159 = some (159, (.aload_n 0, 1), (0, 0, 0)) := by decide +kernel
theorem xr_159_160 : X_row 159 160 = some (160, (.getfield 27, 3), (11, 9, 18)) := by decide +kernel
theorem xr_159_163 : X_row 159 163 = some (163, (.iconst 4, 1), (0, 0, 0)) := by decide +kernel
theorem xr_159_164 : X_row 159 164 = some (164, (.if_icmp .ne 11, 3), (0, 0, 0)) := by decide +kernel
theorem xr_159_167 : X_row 159 167 = some (167, (.aload_n 0, 1), (0, 0, 0)) := by decide +kernel
theorem xr_159_168 : X_row 159 168 = some (168, (.getfield 62, 3), (11, 11, 22)) := by decide +kernel
theorem xr_159_171 : X_row 159 171 = some (171, (.iconst 1, 1), (0, 0, 0)) := by decide +kernel
theorem xr_159_172 : X_row 159 172 = some (172, (.if_icmp .le 7, 3), (0, 0, 0)) := by decide +kernel
theorem xr_159_175 : X_row 159 175 = some (175, (.aload_n 0, 1), (0, 0, 0)) := by decide +kernel
theorem xr_159_176 : X_row 159 176 = some (176, (.invokevirtual 81, 3), (147, 16, 0)) := by decide +kernel
theorem xr_159_179 : X_row 159 179 = some (179, (.aload_n 0, 1), (0, 0, 0)) := by decide +kernel
theorem xr_159_180 : X_row 159 180 = some (180, (.invokevirtual 100, 3), (140, 14, 0)) := by decide +kernel
theorem xr_159_183 : X_row 159 183 = some (183, (.ifCond .ne 4, 3), (0, 0, 0)) := by decide +kernel
theorem xr_159_186 : X_row 159 186 = some (186, (.return_, 1), (0, 0, 0)) := by decide +kernel
theorem xr_159_187 : X_row 159 187 = some (187, (.aload_n 0, 1), (0, 0, 0)) := by decide +kernel
theorem xr_159_188 : X_row 159 188 = some (188, (.getfield 180, 3), (11, 24, 48)) := by decide +kernel
theorem xr_159_191 : X_row 159 191 = some (191, (.iload 5, 2), (0, 0, 0)) := by decide +kernel
theorem xr_159_193 : X_row 159 193 = some (193, (.aload_n 0, 1), (0, 0, 0)) := by decide +kernel
theorem xr_159_194 : X_row 159 194 = some (194, (.getfield 59, 3), (11, 10, 20)) := by decide +kernel
theorem xr_159_197 : X_row 159 197 = some (197, (.iconst 1, 1), (0, 0, 0)) := by decide +kernel
theorem xr_159_198 : X_row 159 198 = some (198, (.isub, 1), (0, 0, 0)) := by decide +kernel
theorem xr_159_199 : X_row 159 199 = some (199, (.iastore, 1), (0, 0, 0)) := by decide +kernel
theorem xr_159_200 : X_row 159 200 = some (200, (.aload_n 0, 1), (0, 0, 0)) := by decide +kernel
theorem xr_159_201 : X_row 159 201 = some (201, (.invokevirtual 78, 3), (141, 0, 0)) := by decide +kernel
theorem xr_159_204 : X_row 159 204 = some (204, (.iload 4, 2), (0, 0, 0)) := by decide +kernel
theorem xr_159_206 : X_row 159 206 = some (206, (.bipush 110, 2), (0, 0, 0)) := by decide +kernel
theorem xr_159_208 : X_row 159 208 = some (208, (.if_icmp .eq 10, 3), (0, 0, 0)) := by decide +kernel
theorem xr_159_211 : X_row 159 211 = some (211, (.iload 4, 2), (0, 0, 0)) := by decide +kernel
theorem xr_159_213 : X_row 159 213 = some (213, (.bipush 64, 2), (0, 0, 0)) := by decide +kernel
theorem xr_159_215 : X_row 159 215 = some (215, (.if_icmp .ne 7, 3), (0, 0, 0)) := by decide +kernel
theorem xr_159_218 : X_row 159 218 = some (218, (.iconst 1, 1), (0, 0, 0)) := by decide +kernel
theorem xr_159_219 : X_row 159 219 = some (219, (.goto 4, 3), (0, 0, 0)) := by decide +kernel
theorem xr_159_222 : X_row 159 222 = some (222, (.iconst 0, 1), (0, 0, 0)) := by decide +kernel
theorem xr_159_223 : X_row 159 223 = some (223, (.istore 6, 2), (0, 0, 0)) := by decide +kernel
theorem xr_159_225 : X_row 159 225 = some (225, (.iload 6, 2), (0, 0, 0)) := by decide +kernel
theorem xr_159_227 : X_row 159 227 = some (227, (.ifCond .eq 45, 3), (0, 0, 0)) := by decide +kernel
theorem xr_159_230 : X_row 159 230 = some (230, (.iload_n 2, 1), (0, 0, 0)) := by decide +kernel
theorem xr_159_231 : X_row 159 231 = some (231, (.bipush 16, 2), (0, 0, 0)) := by decide +kernel
theorem xr_159_233 : X_row 159 233 = some (233, (.if_icmp .eq 44, 3), (0, 0, 0)) := by decide +kernel
theorem xr_159_236 : X_row 159 236 = some (236, (.iload 4, 2), (0, 0, 0)) := by decide +kernel
theorem xr_159_238 : X_row 159 238 = some (238, (.bipush 64, 2), (0, 0, 0)) := by decide +kernel
theorem xr_159_240 : X_row 159 240 = some (240, (.if_icmp .ne 43, 3), (0, 0, 0)) := by decide +kernel
theorem xr_159_243 : X_row 159 243 = some (243, (.aload_n 0, 1), (0, 0, 0)) := by decide +kernel
theorem xr_159_244 : X_row 159 244 = some (244, (.getfield 180, 3), (11, 24, 48)) := by decide +kernel
theorem xr_159_247 : X_row 159 247 = some (247, (.iload 5, 2), (0, 0, 0)) := by decide +kernel
theorem xr_159_249 : X_row 159 249 = some (249, (.iaload, 1), (0, 0, 0)) := by decide +kernel
theorem xr_159_250 : X_row 159 250 = some (250, (.ifCond .lt 27, 3), (0, 0, 0)) := by decide +kernel
theorem xr_159_253 : X_row 159 253 = some (253, (.aload_n 0, 1), (0, 0, 0)) := by decide +kernel
theorem xr_159_254 : X_row 159 254 = some (254, (.getfield 180, 3), (11, 24, 48)) := by decide +kernel
theorem xr_159_257 : X_row 159 257 = some (257, (.iload 5, 2), (0, 0, 0)) := by decide +kernel
theorem xr_159_259 : X_row 159 259 = some (259, (.iaload, 1), (0, 0, 0)) := by decide +kernel
theorem xr_159_260 : X_row 159 260 = some (260, (.aload_n 0, 1), (0, 0, 0)) := by decide +kernel
theorem xr_159_261 : X_row 159 261 = some (261, (.getfield 153, 3), (11, 21, 42)) := by decide +kernel
theorem xr_159_264 : X_row 159 264 = some (264, (.iload_n 1, 1), (0, 0, 0)) := by decide +kernel
theorem xr_159_265 : X_row 159 265 = some (265, (.iaload, 1), (0, 0, 0)) := by decide +kernel
theorem xr_159_266 : X_row 159 266 = some (266, (.if_icmp .lt 17, 3), (0, 0, 0)) := by decide +kernel
theorem xr_159_269 : X_row 159 269 = some (269, (.goto 8, 3), (0, 0, 0)) := by decide +kernel
theorem xr_159_272 : X_row 159 272 = some (272, (.iload_n 2, 1), (0, 0, 0)) := by decide +kernel
theorem xr_159_273 : X_row 159 273 = some (273, (.iconst 2, 1), (0, 0, 0)) := by decide +kernel
theorem xr_159_274 : X_row 159 274 = some (274, (.if_icmp .ge 9, 3), (0, 0, 0)) := by decide +kernel
theorem xr_159_277 : X_row 159 277 = some (277, (.aload_n 0, 1), (0, 0, 0)) := by decide +kernel
theorem xr_159_278 : X_row 159 278 = some (278, (.iconst 5, 1), (0, 0, 0)) := by decide +kernel
theorem xr_159_279 : X_row 159 279 = some (279, (.iload_n 3, 1), (0, 0, 0)) := by decide +kernel
theorem xr_159_280 : X_row 159 280 = some (280, (.invokevirtual 72, 3), (139, 18, 0)) := by decide +kernel
theorem xr_159_283 : X_row 159 283 = some (283, (.iload_n 2, 1), (0, 0, 0)) := by decide +kernel
theorem xr_159_284 : X_row 159 284 = some (284, (.iload 6, 2), (0, 0, 0)) := by decide +kernel
theorem xr_159_286 : X_row 159 286 = some (286, (.ifCond .eq 7, 3), (0, 0, 0)) := by decide +kernel
theorem xr_159_289 : X_row 159 289 = some (289, (.iconst 1, 1), (0, 0, 0)) := by decide +kernel
theorem xr_159_290 : X_row 159 290 = some (290, (.goto 4, 3), (0, 0, 0)) := by decide +kernel
theorem xr_159_293 : X_row 159 293 = some (293, (.iconst (-1), 1), (0, 0, 0)) := by decide +kernel
theorem xr_159_294 : X_row 159 294 = some (294, (.iadd, 1), (0, 0, 0)) := by decide +kernel
theorem xr_159_295 : X_row 159 295 = some (295, (.istore_n 2, 1), (0, 0, 0)) := by decide +kernel
theorem xr_159_296 : X_row 159 296 = some (296, (.aload_n 0, 1), (0, 0, 0)) := by decide +kernel
theorem xr_159_297 : X_row 159 297 = some (297, (.getfield 156, 3), (11, 22, 44)) := by decide +kernel
theorem xr_159_300 : X_row 159 300 = some (300, (.iload_n 1, 1), (0, 0, 0)) := by decide +kernel
theorem xr_159_301 : X_row 159 301 = some (301, (.dup2, 1), (0, 0, 0)) := by decide +kernel
theorem xr_159_302 : X_row 159 302 = some (302, (.iaload, 1), (0, 0, 0)) := by decide +kernel
theorem xr_159_303 : X_row 159 303 = some (303, (.iconst 1, 1), (0, 0, 0)) := by decide +kernel
theorem xr_159_304 : X_row 159 304 = some (304, (.iadd, 1), (0, 0, 0)) := by decide +kernel
theorem xr_159_305 : X_row 159 305 = some (305, (.iastore, 1), (0, 0, 0)) := by decide +kernel
theorem xr_159_306 : X_row 159 306 = some (306, (.goto (-297), 3), (0, 0, 0)) := by decide +kernel
theorem xr_159_309 : X_row 159 309 = some (309, (.aload_n 0, 1), (0, 0, 0)) := by decide +kernel
theorem xr_159_310 : X_row 159 310 = some (310, (.invokevirtual 100, 3), (140, 14, 0)) := by decide +kernel
theorem xr_159_313 : X_row 159 313 = some (313, (.ifCond .eq 17, 3), (0, 0, 0)) := by decide +kernel
theorem xr_159_316 : X_row 159 316 = some (316, (.iload_n 2, 1), (0, 0, 0)) := by decide +kernel
theorem xr_159_317 : X_row 159 317 = some (317, (.iconst 1, 1), (0, 0, 0)) := by decide +kernel
theorem xr_159_318 : X_row 159 318 = some (318, (.if_icmp .eq 12, 3), (0, 0, 0)) := by decide +kernel
theorem xr_159_321 : X_row 159 321 = some (321, (.aload_n 0, 1), (0, 0, 0)) := by decide +kernel
theorem xr_159_322 : X_row 159 322 = some (322, (.iconst 5, 1), (0, 0, 0)) := by decide +kernel
theorem xr_159_323 : X_row 159 323 = some (323, (.aload_n 0, 1), (0, 0, 0)) := by decide +kernel
theorem xr_159_324 : X_row 159 324 = some (324, (.getfield 20, 3), (11, 7, 14)) := by decide +kernel
theorem xr_159_327 : X_row 159 327 = some (327, (.invokevirtual 72, 3), (139, 18, 0)) := by decide +kernel
theorem xr_159_330 : X_row 159 330 = some (330, (.return_, 1), (0, 0, 0)) := by decide +kernel
theorem xr_160_0 : X_row 160 0 = some (0, (.aload_n 0, 1), (0, 0, 0)) := by decide +kernel
theorem xr_160_1 : X_row 160 1 = some (1, (.getfield 168, 3), (11, 25, 50)) := by decide +kernel
theorem xr_160_4 : X_row 160 4 = some (4, (.bipush 8, 2), (0, 0, 0)) := by decide +kernel
theorem xr_160_6 : X_row 160 6 = some (6, (.iload_n 1, 1), (0, 0, 0)) := by decide +kernel
theorem xr_160_7 : X_row 160 7 = some (7, (.imul, 1), (0, 0, 0)) := by decide +kernel
theorem xr_160_8 : X_row 160 8 = some (8, (.laload, 1), (0, 0, 0)) := by decide +kernel
theorem xr_160_9 : X_row 160 9 = some (9, (.lconst 0, 1), (0, 0, 0)) := by decide +kernel
theorem xr_160_10 : X_row 160 10 = some (10, (.lcmp, 1), (0, 0, 0)) := by decide +kernel
theorem xr_160_11 : X_row 160 11 = some (11, (.ifCond .ne 7, 3), (0, 0, 0)) := by decide +kernel
theorem xr_160_14 : X_row 160 14 = some (14, (.iconst 1, 1), (0, 0, 0)) := by decide +kernel
theorem xr_160_15 : X_row 160 15 = some (15, (.goto 4, 3), (0, 0, 0)) := by decide +kernel
theorem xr_160_18 : X_row 160 18 = some (18, (.iconst 0, 1), (0, 0, 0)) := by decide +kernel
theorem xr_160_19 : X_row 160 19 = some (19, (.aload_n 0, 1), (0, 0, 0)) := by decide +kernel
theorem xr_160_20 : X_row 160 20 = some (20, (.getfield 168, 3), (11, 25, 50)) := by decide +kernel
theorem xr_160_23 : X_row 160 23 = some (23, (.bipush 8, 2), (0, 0, 0)) := by decide +kernel
theorem xr_160_25 : X_row 160 25 = some (25, (.iload_n 1, 1), (0, 0, 0)) := by decide +kernel
theorem xr_160_26 : X_row 160 26 = some (26, (.imul, 1), (0, 0, 0)) := by decide +kernel
theorem xr_160_27 : X_row 160 27 = some (27, (.aload_n 0, 1), (0, 0, 0)) := by decide +kernel
theorem xr_160_28 : X_row 160 28 = some (28, (.getfield 150, 3), (11, 20, 40)) := by decide +kernel
theorem xr_160_31 : X_row 160 31 = some (31, (.iload_n 1, 1), (0, 0, 0)) := by decide +kernel
theorem xr_160_32 : X_row 160 32 = some (32, (.iaload, 1), (0, 0, 0)) := by decide +kernel
theorem xr_160_33 : X_row 160 33 = some (33, (.iadd, 1), (0, 0, 0)) := by decide +kernel
theorem xr_160_34 : X_row 160 34 = some (34, (.iconst 1, 1), (0, 0, 0)) := by decide +kernel
theorem xr_160_35 : X_row 160 35 = some (35, (.isub, 1), (0, 0, 0)) := by decide +kernel
theorem xr_160_36 : X_row 160 36 = some (36, (.laload, 1), (0, 0, 0)) := by decide +kernel
theorem xr_160_37 : X_row 160 37 = some (37, (.lconst 0, 1), (0, 0, 0)) := by decide +kernel
theorem xr_160_38 : X_row 160 38 = some (38, (.lcmp, 1), (0, 0, 0)) := by decide +kernel
theorem xr_160_39 : X_row 160 39 = some (39, (.ifCond .ne 7, 3), (0, 0, 0)) := by decide +kernel
theorem xr_160_42 : X_row 160 42 = some (42, (.iconst 2, 1), (0, 0, 0)) := by decide +kernel
theorem xr_160_43 : X_row 160 43 = some (43, (.goto 4, 3), (0, 0, 0)) := by decide +kernel
theorem xr_160_46 : X_row 160 46 = some (46, (.iconst 0, 1), (0, 0, 0)) := by decide +kernel
theorem xr_160_47 : X_row 160 47 = some (47, (.iadd, 1), (0, 0, 0)) := by decide +kernel
theorem xr_160_48 : X_row 160 48 = some (48, (.ireturn, 1), (0, 0, 0)) := by decide +kernel
theorem xn_158 : X_nL 158 = 4 := by decide +kernel
theorem xf_158 : X_na 158 = 1 ∧ X_ci 158 = 11 ∧ X_rt 158 = none := by decide +kernel
theorem xn_159 : X_nL 159 = 7 := by decide +kernel
theorem xf_159 : X_na 159 = 1 ∧ X_ci 159 = 11 ∧ X_rt 159 = none := by decide +kernel
theorem xn_160 : X_nL 160 = 2 := by decide +kernel
theorem xf_160 : X_na 160 = 1 ∧ X_ci 160 = 11 ∧ X_rt 160 = (some .int) := by decide +kernel
theorem r_ends (sc : X_Sc) (S : X_S) (o : Nat → Int) (nm : Int64) (wM : Int → Int) (eP : Int → Int64) (wi : Int) (d : Nat → Int → Int) (q : Int → Int64) (hM : M_o S o nm) (hA540 : S.1 540 = .inl (.int, 60, .inl fun k : Nat => iI (wM (k : Int)))) (hA545 : S.1 545 = .inl (.long, 480, .inr (.inl fun k : Nat => eP (k : Int)))) (hw : 0 ≤ wi ∧ wi < 60) (hm : wM wi = d 3 0) (hsz : 1 ≤ d 3 0 ∧ d 3 0 ≤ 8) (heP : ∀ e, 0 ≤ e → e < d 3 0 → eP (8 * wi + e) = q e) : X_T sc 160 (0, [(0, .ref 530), (1, .int (iI wi))], [], S) (fun v S' => v = some (.int (iI (X_en d q))) ∧ S' = S) := by
  have h0 := heP 0 (by omega) (by omega)
  rw [show 8 * wi + 0 = 8 * wi by omega] at h0
  have h1 := heP (d 3 0 - 1) (by omega) (by omega)
  rw [show 8 * wi + (d 3 0 - 1) = 8 * wi + wM wi - 1 by omega] at h1
  refine X_QI (fun Q hQ => ?_)
  refine T_p xr_160_0 xn_160 (pc' := 1) (ls' := [(0, .ref 530), (1, .int (iI wi))]) (st' := [.ref 530]) rfl ?_
  refine T_get xr_160_1 hM rfl (v := .ref 545) rfl (pc' := 4) rfl ?_
  refine T_p xr_160_4 xn_160 (pc' := 6) (ls' := [(0, .ref 530), (1, .int (iI wi))]) (st' := [.int (iI 8), .ref 545]) rfl ?_
  refine T_p xr_160_6 xn_160 (pc' := 7) (ls' := [(0, .ref 530), (1, .int (iI wi))]) (st' := [.int (iI wi), .int (iI 8), .ref 545]) rfl ?_
  refine T_zimul xr_160_7 (z := 8 * wi) rfl (pc' := 8) rfl ?_
  refine T_zlald xr_160_8 hA545 (pc' := 9) rfl ?_
  refine T_p xr_160_9 xn_160 (pc' := 10) (ls' := [(0, .ref 530), (1, .int (iI wi))]) (st' := [.long (0 : Int64), .long (eP (8 * wi))]) rfl ?_
  refine T_lc_ne xr_160_10 xr_160_11 (t := 18) (pc' := 14) rfl rfl (fun c1810 => ?_) (fun c1810 => ?_)
  · skip
    have c1810 : ¬ (eP (8 * wi)) = (0 : Int64) := c1810
    refine T_p xr_160_18 xn_160 (pc' := 19) (ls' := [(0, .ref 530), (1, .int (iI wi))]) (st' := [.int (iI 0)]) rfl ?_
    refine T_p xr_160_19 xn_160 (pc' := 20) (ls' := [(0, .ref 530), (1, .int (iI wi))]) (st' := [.ref 530, .int (iI 0)]) rfl ?_
    refine T_get xr_160_20 hM rfl (v := .ref 545) rfl (pc' := 23) rfl ?_
    refine T_p xr_160_23 xn_160 (pc' := 25) (ls' := [(0, .ref 530), (1, .int (iI wi))]) (st' := [.int (iI 8), .ref 545, .int (iI 0)]) rfl ?_
    refine T_p xr_160_25 xn_160 (pc' := 26) (ls' := [(0, .ref 530), (1, .int (iI wi))]) (st' := [.int (iI wi), .int (iI 8), .ref 545, .int (iI 0)]) rfl ?_
    refine T_zimul xr_160_26 (z := 8 * wi) rfl (pc' := 27) rfl ?_
    refine T_p xr_160_27 xn_160 (pc' := 28) (ls' := [(0, .ref 530), (1, .int (iI wi))]) (st' := [.ref 530, .int (iI (8 * wi)), .ref 545, .int (iI 0)]) rfl ?_
    refine T_get xr_160_28 hM rfl (v := .ref 540) rfl (pc' := 31) rfl ?_
    refine T_p xr_160_31 xn_160 (pc' := 32) (ls' := [(0, .ref 530), (1, .int (iI wi))]) (st' := [.int (iI wi), .ref 540, .int (iI (8 * wi)), .ref 545, .int (iI 0)]) rfl ?_
    refine T_ziald xr_160_32 hA540 (pc' := 33) rfl ?_
    refine T_ziadd xr_160_33 (z := (8 * wi) + (wM wi)) rfl (pc' := 34) rfl ?_
    refine T_p xr_160_34 xn_160 (pc' := 35) (ls' := [(0, .ref 530), (1, .int (iI wi))]) (st' := [.int (iI 1), .int (iI ((8 * wi) + (wM wi))), .ref 545, .int (iI 0)]) rfl ?_
    refine T_zisub xr_160_35 (z := ((8 * wi) + (wM wi)) - 1) rfl (pc' := 36) rfl ?_
    refine T_zlald xr_160_36 hA545 (pc' := 37) rfl ?_
    refine T_p xr_160_37 xn_160 (pc' := 38) (ls' := [(0, .ref 530), (1, .int (iI wi))]) (st' := [.long (0 : Int64), .long (eP (((8 * wi) + (wM wi)) - 1)), .int (iI 0)]) rfl ?_
    refine T_lc_ne xr_160_38 xr_160_39 (t := 46) (pc' := 42) rfl rfl (fun c1811 => ?_) (fun c1811 => ?_)
    · skip
      have c1811 : ¬ (eP (((8 * wi) + (wM wi)) - 1)) = (0 : Int64) := c1811
      refine T_p xr_160_46 xn_160 (pc' := 47) (ls' := [(0, .ref 530), (1, .int (iI wi))]) (st' := [.int (iI 0), .int (iI 0)]) rfl ?_
      refine T_ziadd xr_160_47 (z := 0) (by decide) (pc' := 48) rfl ?_
      refine T_iret xr_160_48 xf_160.2.2 rfl ?_
      refine hQ _ _ ?_
      exact ⟨by unfold X_en; rw [bI_f (fun z => absurd (h0.trans z.2.2) (by assumption)), bI_f (fun z => absurd (h1.trans z.2.2) (by assumption))]; rfl, rfl⟩
    · skip
      have c1811 : ¬ (¬ (eP (((8 * wi) + (wM wi)) - 1)) = (0 : Int64)) := c1811
      refine T_p xr_160_42 xn_160 (pc' := 43) (ls' := [(0, .ref 530), (1, .int (iI wi))]) (st' := [.int (iI 2), .int (iI 0)]) rfl ?_
      refine T_p xr_160_43 xn_160 (pc' := 47) (ls' := [(0, .ref 530), (1, .int (iI wi))]) (st' := [.int (iI 2), .int (iI 0)]) rfl ?_
      refine T_ziadd xr_160_47 (z := 2) (by decide) (pc' := 48) rfl ?_
      refine T_iret xr_160_48 xf_160.2.2 rfl ?_
      refine hQ _ _ ?_
      exact ⟨by unfold X_en; rw [bI_f (fun z => absurd (h0.trans z.2.2) (by assumption)), bI_t ⟨by omega, by omega, by rw [← h1]; first | assumption | exact Classical.not_not.mp (by assumption)⟩]; rfl, rfl⟩
  · skip
    have c1810 : ¬ (¬ (eP (8 * wi)) = (0 : Int64)) := c1810
    refine T_p xr_160_14 xn_160 (pc' := 15) (ls' := [(0, .ref 530), (1, .int (iI wi))]) (st' := [.int (iI 1)]) rfl ?_
    refine T_p xr_160_15 xn_160 (pc' := 19) (ls' := [(0, .ref 530), (1, .int (iI wi))]) (st' := [.int (iI 1)]) rfl ?_
    refine T_p xr_160_19 xn_160 (pc' := 20) (ls' := [(0, .ref 530), (1, .int (iI wi))]) (st' := [.ref 530, .int (iI 1)]) rfl ?_
    refine T_get xr_160_20 hM rfl (v := .ref 545) rfl (pc' := 23) rfl ?_
    refine T_p xr_160_23 xn_160 (pc' := 25) (ls' := [(0, .ref 530), (1, .int (iI wi))]) (st' := [.int (iI 8), .ref 545, .int (iI 1)]) rfl ?_
    refine T_p xr_160_25 xn_160 (pc' := 26) (ls' := [(0, .ref 530), (1, .int (iI wi))]) (st' := [.int (iI wi), .int (iI 8), .ref 545, .int (iI 1)]) rfl ?_
    refine T_zimul xr_160_26 (z := 8 * wi) rfl (pc' := 27) rfl ?_
    refine T_p xr_160_27 xn_160 (pc' := 28) (ls' := [(0, .ref 530), (1, .int (iI wi))]) (st' := [.ref 530, .int (iI (8 * wi)), .ref 545, .int (iI 1)]) rfl ?_
    refine T_get xr_160_28 hM rfl (v := .ref 540) rfl (pc' := 31) rfl ?_
    refine T_p xr_160_31 xn_160 (pc' := 32) (ls' := [(0, .ref 530), (1, .int (iI wi))]) (st' := [.int (iI wi), .ref 540, .int (iI (8 * wi)), .ref 545, .int (iI 1)]) rfl ?_
    refine T_ziald xr_160_32 hA540 (pc' := 33) rfl ?_
    refine T_ziadd xr_160_33 (z := (8 * wi) + (wM wi)) rfl (pc' := 34) rfl ?_
    refine T_p xr_160_34 xn_160 (pc' := 35) (ls' := [(0, .ref 530), (1, .int (iI wi))]) (st' := [.int (iI 1), .int (iI ((8 * wi) + (wM wi))), .ref 545, .int (iI 1)]) rfl ?_
    refine T_zisub xr_160_35 (z := ((8 * wi) + (wM wi)) - 1) rfl (pc' := 36) rfl ?_
    refine T_zlald xr_160_36 hA545 (pc' := 37) rfl ?_
    refine T_p xr_160_37 xn_160 (pc' := 38) (ls' := [(0, .ref 530), (1, .int (iI wi))]) (st' := [.long (0 : Int64), .long (eP (((8 * wi) + (wM wi)) - 1)), .int (iI 1)]) rfl ?_
    refine T_lc_ne xr_160_38 xr_160_39 (t := 46) (pc' := 42) rfl rfl (fun c1812 => ?_) (fun c1812 => ?_)
    · skip
      have c1812 : ¬ (eP (((8 * wi) + (wM wi)) - 1)) = (0 : Int64) := c1812
      refine T_p xr_160_46 xn_160 (pc' := 47) (ls' := [(0, .ref 530), (1, .int (iI wi))]) (st' := [.int (iI 0), .int (iI 1)]) rfl ?_
      refine T_ziadd xr_160_47 (z := 1) (by decide) (pc' := 48) rfl ?_
      refine T_iret xr_160_48 xf_160.2.2 rfl ?_
      refine hQ _ _ ?_
      exact ⟨by unfold X_en; rw [bI_t ⟨by omega, by omega, by rw [← h0]; first | assumption | exact Classical.not_not.mp (by assumption)⟩, bI_f (fun z => absurd (h1.trans z.2.2) (by assumption))]; rfl, rfl⟩
    · skip
      have c1812 : ¬ (¬ (eP (((8 * wi) + (wM wi)) - 1)) = (0 : Int64)) := c1812
      refine T_p xr_160_42 xn_160 (pc' := 43) (ls' := [(0, .ref 530), (1, .int (iI wi))]) (st' := [.int (iI 2), .int (iI 1)]) rfl ?_
      refine T_p xr_160_43 xn_160 (pc' := 47) (ls' := [(0, .ref 530), (1, .int (iI wi))]) (st' := [.int (iI 2), .int (iI 1)]) rfl ?_
      refine T_ziadd xr_160_47 (z := 3) (by decide) (pc' := 48) rfl ?_
      refine T_iret xr_160_48 xf_160.2.2 rfl ?_
      refine hQ _ _ ?_
      exact ⟨by unfold X_en; rw [bI_t ⟨by omega, by omega, by rw [← h0]; first | assumption | exact Classical.not_not.mp (by assumption)⟩, bI_t ⟨by omega, by omega, by rw [← h1]; first | assumption | exact Classical.not_not.mp (by assumption)⟩]; rfl, rfl⟩
theorem r_readElement (sc : X_Sc) (S : X_S) (o : Nat → Int) (nm : Int64) (tx : Int → Int) (kN : Int → Int64) (wM : Int → Int) (wH : Int → Int) (eP : Int → Int64) (eH : Int → Int) (hK : Int → Int) (tb : Int → Int) (len : Int) (n : Int) (so : Int → Int) (pl : Int → Int) (ct : Int → Int64) (E : Int → Int) (c : Int) (kn : Int → Int64) (kc : Int) (wi : Int) (d : Nat → Int → Int) (q : Int → Int64) (hM : M_o S o nm) (hA532 : S.1 532 = .inl (.byte, 2000, .inl fun k : Nat => iI (tx (k : Int)))) (hA534 : S.1 534 = .inl (.long, 22, .inr (.inl fun k : Nat => kN (k : Int)))) (hA540 : S.1 540 = .inl (.int, 60, .inl fun k : Nat => iI (wM (k : Int)))) (hA541 : S.1 541 = .inl (.int, 60, .inl fun k : Nat => iI (wH (k : Int)))) (hA545 : S.1 545 = .inl (.long, 480, .inr (.inl fun k : Nat => eP (k : Int)))) (hA546 : S.1 546 = .inl (.int, 480, .inl fun k : Nat => iI (eH (k : Int)))) (hA547 : S.1 547 = .inl (.int, 240, .inl fun k : Nat => iI (hK (k : Int)))) (hlen : o 3 = len) (hl : 0 ≤ len ∧ len ≤ 2000) (htx : ∀ k, 0 ≤ k → k < len → tx k = tb k) (hX : X_TxE tb len n so pl ct E) (hT : R_tk n so pl ct E c (o 7) (o 8) (o 9) (o 10) (o 11) nm) (h5 : o 5 = 0) (hkc : o 29 = kc) (hcr : 1 ≤ kc ∧ kc ≤ 11) (hb : 0 ≤ o 4 ∧ o 4 ≤ 1) (hN : ∀ i, 0 ≤ i → i < kc → kN (11 * o 4 + i) = kn i) (hw : 0 ≤ wi ∧ wi < 60) (hE : R_e wi d q wM wH eP eH hK) (hsz : (0 ≤ d 3 0 ∧ d 3 0 ≤ 8) ∧ 0 ≤ d 4 0 ∧ d 4 0 ≤ 4) (hso : so c = 6 ∨ so c = 95) (hct : so c = 6 → ¬ ct c = 0) : X_T sc 158 (0, [(0, .ref 530), (1, .int (iI wi))], [], S) (fun v S' => (∃ (at1 : Int) (en1 : Int) (tk1 : Int) (nu1 : Int) (dg1 : Int) (nm1 : Int64) (c2 : Int) (d2 : Nat → Int → Int) (q2 : Int → Int64) (wM1 : Int → Int) (wH1 : Int → Int) (eP1 : Int → Int64) (eH1 : Int → Int) (hK1 : Int → Int), v = none ∧ R_tk n so pl ct E c2 at1 en1 tk1 nu1 dg1 nm1 ∧ sp_e1 n so ct kn kc c d q = some (c2, d2, q2) ∧ R_e wi d2 q2 wM1 wH1 eP1 eH1 hK1 ∧ R_ob 1 wi wM wM1 ∧ R_ob 1 wi wH wH1 ∧ R_ob 8 wi eP eP1 ∧ R_ob 8 wi eH eH1 ∧ R_ob 4 wi hK hK1 ∧ M_o S' (X_ou (X_ou (X_ou (X_ou (X_ou o 7 at1) 8 en1) 9 tk1) 10 nu1) 11 dg1) nm1 ∧ S'.1 540 = .inl (.int, 60, .inl fun k : Nat => iI (wM1 (k : Int))) ∧ S'.1 541 = .inl (.int, 60, .inl fun k : Nat => iI (wH1 (k : Int))) ∧ S'.1 545 = .inl (.long, 480, .inr (.inl fun k : Nat => eP1 (k : Int))) ∧ S'.1 546 = .inl (.int, 480, .inl fun k : Nat => iI (eH1 (k : Int))) ∧ S'.1 547 = .inl (.int, 240, .inl fun k : Nat => iI (hK1 (k : Int))) ∧ (X_Fr (fun q => q = 530 ∨ q = 540 ∨ q = 541 ∨ q = 545 ∨ q = 546 ∨ q = 547) S S')) ∨ (∃ (at1 : Int) (en1 : Int) (tk1 : Int) (nu1 : Int) (dg1 : Int) (nm1 : Int64) (f1 : Int) (g1 : Int) (wM1 : Int → Int) (wH1 : Int → Int) (eP1 : Int → Int64) (eH1 : Int → Int) (hK1 : Int → Int), v = none ∧ (1 ≤ f1 ∧ f1 ≤ 5) ∧ sp_e1 n so ct kn kc c d q = none ∧ R_ob 1 wi wM wM1 ∧ R_ob 1 wi wH wH1 ∧ R_ob 8 wi eP eP1 ∧ R_ob 8 wi eH eH1 ∧ R_ob 4 wi hK hK1 ∧ M_o S' (X_ou (X_ou (X_ou (X_ou (X_ou (X_ou (X_ou o 7 at1) 8 en1) 9 tk1) 10 nu1) 11 dg1) 5 f1) 6 g1) nm1 ∧ S'.1 540 = .inl (.int, 60, .inl fun k : Nat => iI (wM1 (k : Int))) ∧ S'.1 541 = .inl (.int, 60, .inl fun k : Nat => iI (wH1 (k : Int))) ∧ S'.1 545 = .inl (.long, 480, .inr (.inl fun k : Nat => eP1 (k : Int))) ∧ S'.1 546 = .inl (.int, 480, .inl fun k : Nat => iI (eH1 (k : Int))) ∧ S'.1 547 = .inl (.int, 240, .inl fun k : Nat => iI (hK1 (k : Int))) ∧ (X_Fr (fun q => q = 530 ∨ q = 540 ∨ q = 541 ∨ q = 545 ∨ q = 546 ∨ q = 547) S S'))) := by
  obtain ⟨⟨hc0, hcn⟩, ⟨hs0, hs1⟩, hk0, ⟨ha0, ha1⟩, hk0e, ⟨_, _⟩, ⟨_, _⟩⟩ := R_tk_f hX hT
  have hn2 := hX.2.1
  have hE1 := hE.1
  have hE2 := hE.2.1
  have hq : 0 < wM wi → eP (8 * wi + wM wi - 1) = q (d 3 0 - 1) := fun z => by
      have := (hE.2.2.1 (d 3 0 - 1) (by omega) (by omega)).1
      rw [show 8 * wi + (d 3 0 - 1) = 8 * wi + wM wi - 1 by omega] at this
      exact this
  refine X_QI (fun Q hQ => ?_)
  refine T_p xr_158_0 xn_158 (pc' := 2) (ls' := [(0, .ref 530), (1, .int (iI wi))]) (st' := [.int (iI 8)]) rfl ?_
  refine T_p xr_158_2 xn_158 (pc' := 3) (ls' := [(0, .ref 530), (1, .int (iI wi))]) (st' := [.int (iI wi), .int (iI 8)]) rfl ?_
  refine T_zimul xr_158_3 (z := 8 * wi) rfl (pc' := 4) rfl ?_
  refine T_p xr_158_4 xn_158 (pc' := 5) (ls' := [(0, .ref 530), (1, .int (iI wi))]) (st' := [.ref 530, .int (iI (8 * wi))]) rfl ?_
  refine T_get xr_158_5 hM rfl (v := .ref 540) rfl (pc' := 8) rfl ?_
  refine T_p xr_158_8 xn_158 (pc' := 9) (ls' := [(0, .ref 530), (1, .int (iI wi))]) (st' := [.int (iI wi), .ref 540, .int (iI (8 * wi))]) rfl ?_
  refine T_ziald xr_158_9 hA540 (pc' := 10) rfl ?_
  refine T_ziadd xr_158_10 (z := (8 * wi) + (wM wi)) rfl (pc' := 11) rfl ?_
  refine T_p xr_158_11 xn_158 (pc' := 12) (ls' := [(2, .int (iI ((8 * wi) + (wM wi)))), (0, .ref 530), (1, .int (iI wi))]) (st' := []) rfl ?_
  refine T_p xr_158_12 xn_158 (pc' := 13) (ls' := [(2, .int (iI ((8 * wi) + (wM wi)))), (0, .ref 530), (1, .int (iI wi))]) (st' := [.ref 530]) rfl ?_
  refine T_get xr_158_13 hM rfl (v := .int (iI (o 9))) rfl (pc' := 16) rfl ?_
  refine T_p xr_158_16 xn_158 (pc' := 17) (ls' := [(2, .int (iI ((8 * wi) + (wM wi)))), (0, .ref 530), (1, .int (iI wi))]) (st' := [.int (iI 5), .int (iI (o 9))]) rfl ?_
  refine T_zicmp_eq xr_158_17 (t := 24) (pc' := 20) rfl rfl (fun c1813 => ?_) (fun c1813 => ?_)
  · skip
    have c1813 : (o 9) = 5 := c1813
    refine T_p xr_158_24 xn_158 (pc' := 25) (ls' := [(2, .int (iI ((8 * wi) + (wM wi)))), (0, .ref 530), (1, .int (iI wi))]) (st' := [.int (iI 0)]) rfl ?_
    refine T_p xr_158_25 xn_158 (pc' := 26) (ls' := [(3, .int (iI 0)), (2, .int (iI ((8 * wi) + (wM wi)))), (0, .ref 530), (1, .int (iI wi))]) (st' := []) rfl ?_
    refine T_p xr_158_26 xn_158 (pc' := 27) (ls' := [(3, .int (iI 0)), (2, .int (iI ((8 * wi) + (wM wi)))), (0, .ref 530), (1, .int (iI wi))]) (st' := [.ref 530]) rfl ?_
    refine T_get xr_158_27 hM rfl (v := .ref 540) rfl (pc' := 30) rfl ?_
    refine T_p xr_158_30 xn_158 (pc' := 31) (ls' := [(3, .int (iI 0)), (2, .int (iI ((8 * wi) + (wM wi)))), (0, .ref 530), (1, .int (iI wi))]) (st' := [.int (iI wi), .ref 540]) rfl ?_
    refine T_ziald xr_158_31 hA540 (pc' := 32) rfl ?_
    refine T_p xr_158_32 xn_158 (pc' := 34) (ls' := [(3, .int (iI 0)), (2, .int (iI ((8 * wi) + (wM wi)))), (0, .ref 530), (1, .int (iI wi))]) (st' := [.int (iI 8), .int (iI (wM wi))]) rfl ?_
    refine T_zicmp_eq xr_158_34 (t := 73) (pc' := 37) rfl rfl (fun c1814 => ?_) (fun c1814 => ?_)
    · skip
      have c1814 : (wM wi) = 8 := c1814
      refine T_p xr_158_73 xn_158 (pc' := 74) (ls' := [(3, .int (iI 0)), (2, .int (iI ((8 * wi) + (wM wi)))), (0, .ref 530), (1, .int (iI wi))]) (st' := [.ref 530]) rfl ?_
      refine T_cv (S := S) (q := 530) xr_158_74 xf_147.1 xf_147.2.1 xn_147 (as := []) (r := []) rfl hM (Nat.le_of_ble_eq_true rfl) (Nat.le_of_ble_eq_true rfl) (pc' := 77) rfl (ls' := [(0, .ref 530)]) rfl ?_
      refine T_mono (r_wrong sc S o nm tx tb len n so pl ct E c hM hA532 (show (o 3) = len from by first | assumption | omega) hl htx hX hT (show 0 ≤ (o 5) ∧ (o 5) ≤ 5 from by omega)) (fun v1815 S1816 h1817 => ?_)
      rcases h1817 with ⟨f1818, g1819, hv1820, hp1821, hM1822, hf1823⟩
      rw [hv1820]
      have h1824 : S1816.1 530 = .inr (11, [.ref 531, .int (iI (o 1)), .ref 532, .int (iI (o 3)), .int (iI (o 4)), .int (iI f1818), .int (iI g1819), .int (iI (o 7)), .int (iI (o 8)), .int (iI (o 9)), .int (iI (o 10)), .int (iI (o 11)), .long nm, .ref 533, .ref 534, .ref 535, .ref 536, .ref 537, .ref 538, .ref 539, .ref 540, .ref 541, .ref 542, .ref 543, .ref 544, .ref 545, .ref 546, .ref 547, .int (iI (o 28)), .int (iI (o 29)), .int (iI (o 30)), .int (iI (o 31)), .int (iI (o 32)), .int (iI (o 33)), .ref 548, .ref 549, .ref 550, .ref 551, .int (iI (o 38)), .ref 552, .ref 553, .ref 554, .ref 555, .ref 556, .ref 557, .ref 558, .ref 559, .ref 560, .ref 561, .int (iI (o 49)), .ref 562, .ref 563, .ref 564, .ref 565, .ref 566, .ref 567, .ref 568, .ref 569, .int (iI (o 58)), .ref 570, .ref 571, .ref 572, .ref 573, .ref 574, .ref 575, .ref 576, .ref 577, .ref 578, .int (iI (o 68)), .int (iI (o 69)), .int (iI (o 70)), .ref 579]) := hM1822
      show X_T sc 158 (77, [(3, .int (iI 0)), (2, .int (iI ((8 * wi) + (wM wi)))), (0, .ref 530), (1, .int (iI wi))], [], S1816) _
      refine T_p xr_158_77 xn_158 (pc' := 78) (ls' := [(3, .int (iI 0)), (2, .int (iI ((8 * wi) + (wM wi)))), (0, .ref 530), (1, .int (iI wi))]) (st' := [.ref 530]) rfl ?_
      refine T_cv (S := S1816) (q := 530) xr_158_78 xf_140.1 xf_140.2.1 xn_140 (as := []) (r := []) rfl h1824 (Nat.le_of_ble_eq_true rfl) (Nat.le_of_ble_eq_true rfl) (pc' := 81) rfl (ls' := [(0, .ref 530)]) rfl ?_
      refine T_mono (r_isGood sc S1816 (X_ou (X_ou o 5 f1818) 6 g1819) nm h1824 (show 0 ≤ f1818 ∧ f1818 ≤ 5 from by omega)) (fun v1825 S1826 h1827 => ?_)
      rcases h1827 with ⟨hv1828, hf1829⟩
      rw [hv1828]
      rw [hf1829]
      show X_T sc 158 (81, [(3, .int (iI 0)), (2, .int (iI ((8 * wi) + (wM wi)))), (0, .ref 530), (1, .int (iI wi))], [.int (iI (bI (f1818 = 0)))], S1816) _
      refine T_bif_ne xr_158_81 (t := 85) (pc' := 84) rfl rfl (fun c1830 => ?_) (fun c1830 => ?_)
      · skip
        have c1830 : (f1818 = 0) := c1830
        exact (show False by first | contradiction | omega).elim
      · skip
        have c1830 : ¬ (f1818 = 0) := c1830
        refine T_vret xr_158_84 xf_158.2.2 ?_
        refine hQ _ _ ?_
        have h1831 := (hf1823.1 540 (by first | decide | omega)).trans (hA540)
        have h1832 := (hf1823.1 541 (by first | decide | omega)).trans (hA541)
        have h1833 := (hf1823.1 545 (by first | decide | omega)).trans (hA545)
        have h1834 := (hf1823.1 546 (by first | decide | omega)).trans (hA546)
        have h1835 := (hf1823.1 547 (by first | decide | omega)).trans (hA547)
        refine Or.inr ⟨o 7, o 8, o 9, o 10, o 11, nm, f1818, g1819, wM, wH, eP, eH, hK, rfl, by omega, ?_, by first | exact R_ob.rf | exact R_ob.rf.up (by omega), by first | exact R_ob.rf | exact R_ob.rf.up (by omega), by first | exact R_ob.rf | exact R_ob.rf.up (by omega), by first | exact R_ob.rf | exact R_ob.rf.up (by omega), by first | exact R_ob.rf | exact R_ob.rf.up (by omega), h1824, h1831, h1832, h1833, h1834, h1835, (X_Fr.rf).tr (X_Fr.mono ⟨hf1823.1, hf1823.2⟩ (fun q hq => by first | exact hq | (rcases hq with rfl <;> decide) | (rcases hq with rfl | rfl <;> decide) | (rcases hq with rfl | rfl | rfl <;> decide) | (rcases hq with rfl | rfl | rfl | rfl <;> decide) | (rcases hq with rfl | rfl | rfl | rfl | rfl <;> decide) | (rcases hq with rfl | rfl | rfl | rfl | rfl | rfl <;> decide) | (rcases hq with rfl | rfl | rfl | rfl | rfl | rfl | rfl <;> decide) | omega))⟩
        · unfold sp_e1
          (repeat (first | rw [if_pos (by assumption)] | rw [if_neg (by assumption)] | rw [if_neg (by omega)] | rw [if_pos (by omega)] | rw [if_neg (by rintro ⟨h1, h2, h3, h4⟩; first | omega | exact h4 ⟨by omega, by omega, (hq (by omega)).symm.trans (by first | assumption | exact Classical.not_not.mp (by assumption))⟩)]))
          all_goals first | rfl | ((repeat' split) <;> first | rfl | (exfalso; omega) | contradiction)
    · skip
      have c1814 : ¬ ((wM wi) = 8) := c1814
      refine T_p xr_158_37 xn_158 (pc' := 38) (ls' := [(3, .int (iI 0)), (2, .int (iI ((8 * wi) + (wM wi)))), (0, .ref 530), (1, .int (iI wi))]) (st' := [.int (iI 0)]) rfl ?_
      refine T_zif_eqt xr_158_38 (t := 77) rfl (by decide) ?_
      refine T_p xr_158_77 xn_158 (pc' := 78) (ls' := [(3, .int (iI 0)), (2, .int (iI ((8 * wi) + (wM wi)))), (0, .ref 530), (1, .int (iI wi))]) (st' := [.ref 530]) rfl ?_
      refine T_cv (S := S) (q := 530) xr_158_78 xf_140.1 xf_140.2.1 xn_140 (as := []) (r := []) rfl hM (Nat.le_of_ble_eq_true rfl) (Nat.le_of_ble_eq_true rfl) (pc' := 81) rfl (ls' := [(0, .ref 530)]) rfl ?_
      refine T_mono (r_isGood sc S o nm hM (show 0 ≤ (o 5) ∧ (o 5) ≤ 5 from by omega)) (fun v1836 S1837 h1838 => ?_)
      rcases h1838 with ⟨hv1839, hf1840⟩
      rw [hv1839]
      rw [hf1840]
      show X_T sc 158 (81, [(3, .int (iI 0)), (2, .int (iI ((8 * wi) + (wM wi)))), (0, .ref 530), (1, .int (iI wi))], [.int (iI (bI ((o 5) = 0)))], S) _
      refine T_bif_ne xr_158_81 (t := 85) (pc' := 84) rfl rfl (fun c1841 => ?_) (fun c1841 => ?_)
      · skip
        have c1841 : ((o 5) = 0) := c1841
        refine T_p xr_158_85 xn_158 (pc' := 86) (ls' := [(3, .int (iI 0)), (2, .int (iI ((8 * wi) + (wM wi)))), (0, .ref 530), (1, .int (iI wi))]) (st' := [.ref 530]) rfl ?_
        refine T_get xr_158_86 hM rfl (v := .ref 540) rfl (pc' := 89) rfl ?_
        refine T_p xr_158_89 xn_158 (pc' := 90) (ls' := [(3, .int (iI 0)), (2, .int (iI ((8 * wi) + (wM wi)))), (0, .ref 530), (1, .int (iI wi))]) (st' := [.int (iI wi), .ref 540]) rfl ?_
        refine T_p xr_158_90 xn_158 (pc' := 91) (ls' := [(3, .int (iI 0)), (2, .int (iI ((8 * wi) + (wM wi)))), (0, .ref 530), (1, .int (iI wi))]) (st' := [.int (iI wi), .ref 540, .int (iI wi), .ref 540]) rfl ?_
        refine T_ziald xr_158_91 hA540 (pc' := 92) rfl ?_
        refine T_p xr_158_92 xn_158 (pc' := 93) (ls' := [(3, .int (iI 0)), (2, .int (iI ((8 * wi) + (wM wi)))), (0, .ref 530), (1, .int (iI wi))]) (st' := [.int (iI 1), .int (iI (wM wi)), .int (iI wi), .ref 540]) rfl ?_
        refine T_ziadd xr_158_93 (z := (wM wi) + 1) rfl (pc' := 94) rfl ?_
        refine T_ziast xr_158_94 hA540 (pc' := 95) rfl (fun S1842 h1843 n1844 e1845 => ?_)
        refine T_p xr_158_95 xn_158 (pc' := 96) (ls' := [(3, .int (iI 0)), (2, .int (iI ((8 * wi) + (wM wi)))), (0, .ref 530), (1, .int (iI wi))]) (st' := [.ref 530]) rfl ?_
        have h1846 := (n1844 530 (by decide)).trans (hM)
        refine T_get xr_158_96 h1846 rfl (v := .ref 545) rfl (pc' := 99) rfl ?_
        refine T_p xr_158_99 xn_158 (pc' := 100) (ls' := [(3, .int (iI 0)), (2, .int (iI ((8 * wi) + (wM wi)))), (0, .ref 530), (1, .int (iI wi))]) (st' := [.int (iI ((8 * wi) + (wM wi))), .ref 545]) rfl ?_
        refine T_p xr_158_100 xn_158 (pc' := 101) (ls' := [(3, .int (iI 0)), (2, .int (iI ((8 * wi) + (wM wi)))), (0, .ref 530), (1, .int (iI wi))]) (st' := [.int (iI 0), .int (iI ((8 * wi) + (wM wi))), .ref 545]) rfl ?_
        refine T_zif_eqt xr_158_101 (t := 108) rfl (by decide) ?_
        refine T_p xr_158_108 xn_158 (pc' := 109) (ls' := [(3, .int (iI 0)), (2, .int (iI ((8 * wi) + (wM wi)))), (0, .ref 530), (1, .int (iI wi))]) (st' := [.ref 530, .int (iI ((8 * wi) + (wM wi))), .ref 545]) rfl ?_
        refine T_get xr_158_109 h1846 rfl (v := .long nm) rfl (pc' := 112) rfl ?_
        refine T_le (y := (ct c)) (hT.2.2.2.2.1 (Or.inr (Or.inr (by omega)))) ?_
        have h1847 := (n1844 545 (by decide)).trans (hA545)
        refine T_zlast xr_158_112 h1847 (pc' := 113) rfl (fun S1848 h1849 n1850 e1851 => ?_)
        refine T_p xr_158_113 xn_158 (pc' := 114) (ls' := [(3, .int (iI 0)), (2, .int (iI ((8 * wi) + (wM wi)))), (0, .ref 530), (1, .int (iI wi))]) (st' := [.ref 530]) rfl ?_
        have h1852 := (n1850 530 (by decide)).trans (h1846)
        refine T_cv (S := S1848) (q := 530) xr_158_114 xf_141.1 xf_141.2.1 xn_141 (as := []) (r := []) rfl h1852 (Nat.le_of_ble_eq_true rfl) (Nat.le_of_ble_eq_true rfl) (pc' := 117) rfl (ls' := [(0, .ref 530)]) rfl ?_
        have h1853 := (n1850 532 (by decide)).trans ((n1844 532 (by decide)).trans (hA532))
        refine T_mono (r_nx sc S1848 o nm tx tb len n so pl ct E c h1852 h1853 (show (o 3) = len from by first | assumption | omega) hl htx hX hT (by omega)) (fun v1854 S1855 h1856 => ?_)
        rcases h1856 with ⟨at1857, en1858, tk1859, nu1860, dg1861, nm1862, hv1863, hp1864, hM1865, hf1866⟩
        rw [hv1863]
        have h1867 : S1855.1 530 = .inr (11, [.ref 531, .int (iI (o 1)), .ref 532, .int (iI (o 3)), .int (iI (o 4)), .int (iI (o 5)), .int (iI (o 6)), .int (iI at1857), .int (iI en1858), .int (iI tk1859), .int (iI nu1860), .int (iI dg1861), .long nm1862, .ref 533, .ref 534, .ref 535, .ref 536, .ref 537, .ref 538, .ref 539, .ref 540, .ref 541, .ref 542, .ref 543, .ref 544, .ref 545, .ref 546, .ref 547, .int (iI (o 28)), .int (iI (o 29)), .int (iI (o 30)), .int (iI (o 31)), .int (iI (o 32)), .int (iI (o 33)), .ref 548, .ref 549, .ref 550, .ref 551, .int (iI (o 38)), .ref 552, .ref 553, .ref 554, .ref 555, .ref 556, .ref 557, .ref 558, .ref 559, .ref 560, .ref 561, .int (iI (o 49)), .ref 562, .ref 563, .ref 564, .ref 565, .ref 566, .ref 567, .ref 568, .ref 569, .int (iI (o 58)), .ref 570, .ref 571, .ref 572, .ref 573, .ref 574, .ref 575, .ref 576, .ref 577, .ref 578, .int (iI (o 68)), .int (iI (o 69)), .int (iI (o 70)), .ref 579]) := hM1865
        obtain ⟨⟨_, _⟩, ⟨_, _⟩, hk1868, ⟨_, _⟩, hk1868e, ⟨_, _⟩, ⟨_, _⟩⟩ := R_tk_f hX hp1864
        show X_T sc 158 (117, [(3, .int (iI 0)), (2, .int (iI ((8 * wi) + (wM wi)))), (0, .ref 530), (1, .int (iI wi))], [], S1855) _
        refine T_p xr_158_117 xn_158 (pc' := 118) (ls' := [(3, .int (iI 0)), (2, .int (iI ((8 * wi) + (wM wi)))), (0, .ref 530), (1, .int (iI wi))]) (st' := [.int (iI 0)]) rfl ?_
        refine T_zif_nef xr_158_118 (t := 122) (pc' := 121) rfl rfl (by decide) ?_
        refine T_vret xr_158_121 xf_158.2.2 ?_
        refine hQ _ _ ?_
        have h1869 := (hf1866.1 540 (by first | decide | omega)).trans ((n1850 540 (by decide)).trans (h1843))
        have h1870 := (hf1866.1 541 (by first | decide | omega)).trans ((n1850 541 (by decide)).trans ((n1844 541 (by decide)).trans (hA541)))
        have h1871 := (hf1866.1 545 (by first | decide | omega)).trans (h1849)
        have h1872 := (hf1866.1 546 (by first | decide | omega)).trans ((n1850 546 (by decide)).trans ((n1844 546 (by decide)).trans (hA546)))
        have h1873 := (hf1866.1 547 (by first | decide | omega)).trans ((n1850 547 (by decide)).trans ((n1844 547 (by decide)).trans (hA547)))
        refine Or.inl ⟨at1857, en1858, tk1859, nu1860, dg1861, nm1862, X_av n c, X_aP d, X_ug q (d 3 0) (ct c), (X_ug wM wi ((wM wi) + 1)), wH, (X_ug eP ((8 * wi) + (wM wi)) (ct c)), eH, hK, rfl, hp1864, ?_, R_e_P (hct (by omega)) (by omega) hE (by omega) (by omega), by first | exact R_ob.rf | exact R_ob.rf.up (by omega), by first | exact R_ob.rf | exact R_ob.rf.up (by omega), by first | exact R_ob.rf | exact R_ob.rf.up (by omega), by first | exact R_ob.rf | exact R_ob.rf.up (by omega), by first | exact R_ob.rf | exact R_ob.rf.up (by omega), h1867, h1869, h1870, h1871, h1872, h1873, (((X_Fr.rf).tr (X_Fr.of n1844 e1845 (by first | decide | exact ⟨Nat.le_add_right _ _, Nat.add_le_add_left (by decide) _⟩ | omega))).tr (X_Fr.of n1850 e1851 (by first | decide | exact ⟨Nat.le_add_right _ _, Nat.add_le_add_left (by decide) _⟩ | omega))).tr (X_Fr.mono ⟨hf1866.1, hf1866.2⟩ (fun q hq => by first | exact hq | (rcases hq with rfl <;> decide) | (rcases hq with rfl | rfl <;> decide) | (rcases hq with rfl | rfl | rfl <;> decide) | (rcases hq with rfl | rfl | rfl | rfl <;> decide) | (rcases hq with rfl | rfl | rfl | rfl | rfl <;> decide) | (rcases hq with rfl | rfl | rfl | rfl | rfl | rfl <;> decide) | (rcases hq with rfl | rfl | rfl | rfl | rfl | rfl | rfl <;> decide) | omega))⟩
        · unfold sp_e1
          (repeat (first | rw [if_pos (by assumption)] | rw [if_neg (by assumption)] | rw [if_neg (by omega)] | rw [if_pos (by omega)] | rw [if_neg (by rintro ⟨h1, h2, h3, h4⟩; first | omega | exact h4 ⟨by omega, by omega, (hq (by omega)).symm.trans (by first | assumption | exact Classical.not_not.mp (by assumption))⟩)]))
          all_goals first | rfl | ((repeat' split) <;> first | rfl | (exfalso; omega) | contradiction)
      · skip
        have c1841 : ¬ ((o 5) = 0) := c1841
        exact (show False by first | contradiction | omega).elim
  · skip
    have c1813 : ¬ ((o 9) = 5) := c1813
    refine T_p xr_158_20 xn_158 (pc' := 21) (ls' := [(2, .int (iI ((8 * wi) + (wM wi)))), (0, .ref 530), (1, .int (iI wi))]) (st' := [.int (iI 1)]) rfl ?_
    refine T_p xr_158_21 xn_158 (pc' := 25) (ls' := [(2, .int (iI ((8 * wi) + (wM wi)))), (0, .ref 530), (1, .int (iI wi))]) (st' := [.int (iI 1)]) rfl ?_
    refine T_p xr_158_25 xn_158 (pc' := 26) (ls' := [(3, .int (iI 1)), (2, .int (iI ((8 * wi) + (wM wi)))), (0, .ref 530), (1, .int (iI wi))]) (st' := []) rfl ?_
    refine T_p xr_158_26 xn_158 (pc' := 27) (ls' := [(3, .int (iI 1)), (2, .int (iI ((8 * wi) + (wM wi)))), (0, .ref 530), (1, .int (iI wi))]) (st' := [.ref 530]) rfl ?_
    refine T_get xr_158_27 hM rfl (v := .ref 540) rfl (pc' := 30) rfl ?_
    refine T_p xr_158_30 xn_158 (pc' := 31) (ls' := [(3, .int (iI 1)), (2, .int (iI ((8 * wi) + (wM wi)))), (0, .ref 530), (1, .int (iI wi))]) (st' := [.int (iI wi), .ref 540]) rfl ?_
    refine T_ziald xr_158_31 hA540 (pc' := 32) rfl ?_
    refine T_p xr_158_32 xn_158 (pc' := 34) (ls' := [(3, .int (iI 1)), (2, .int (iI ((8 * wi) + (wM wi)))), (0, .ref 530), (1, .int (iI wi))]) (st' := [.int (iI 8), .int (iI (wM wi))]) rfl ?_
    refine T_zicmp_eq xr_158_34 (t := 73) (pc' := 37) rfl rfl (fun c1874 => ?_) (fun c1874 => ?_)
    · skip
      have c1874 : (wM wi) = 8 := c1874
      refine T_p xr_158_73 xn_158 (pc' := 74) (ls' := [(3, .int (iI 1)), (2, .int (iI ((8 * wi) + (wM wi)))), (0, .ref 530), (1, .int (iI wi))]) (st' := [.ref 530]) rfl ?_
      refine T_cv (S := S) (q := 530) xr_158_74 xf_147.1 xf_147.2.1 xn_147 (as := []) (r := []) rfl hM (Nat.le_of_ble_eq_true rfl) (Nat.le_of_ble_eq_true rfl) (pc' := 77) rfl (ls' := [(0, .ref 530)]) rfl ?_
      refine T_mono (r_wrong sc S o nm tx tb len n so pl ct E c hM hA532 (show (o 3) = len from by first | assumption | omega) hl htx hX hT (show 0 ≤ (o 5) ∧ (o 5) ≤ 5 from by omega)) (fun v1875 S1876 h1877 => ?_)
      rcases h1877 with ⟨f1878, g1879, hv1880, hp1881, hM1882, hf1883⟩
      rw [hv1880]
      have h1884 : S1876.1 530 = .inr (11, [.ref 531, .int (iI (o 1)), .ref 532, .int (iI (o 3)), .int (iI (o 4)), .int (iI f1878), .int (iI g1879), .int (iI (o 7)), .int (iI (o 8)), .int (iI (o 9)), .int (iI (o 10)), .int (iI (o 11)), .long nm, .ref 533, .ref 534, .ref 535, .ref 536, .ref 537, .ref 538, .ref 539, .ref 540, .ref 541, .ref 542, .ref 543, .ref 544, .ref 545, .ref 546, .ref 547, .int (iI (o 28)), .int (iI (o 29)), .int (iI (o 30)), .int (iI (o 31)), .int (iI (o 32)), .int (iI (o 33)), .ref 548, .ref 549, .ref 550, .ref 551, .int (iI (o 38)), .ref 552, .ref 553, .ref 554, .ref 555, .ref 556, .ref 557, .ref 558, .ref 559, .ref 560, .ref 561, .int (iI (o 49)), .ref 562, .ref 563, .ref 564, .ref 565, .ref 566, .ref 567, .ref 568, .ref 569, .int (iI (o 58)), .ref 570, .ref 571, .ref 572, .ref 573, .ref 574, .ref 575, .ref 576, .ref 577, .ref 578, .int (iI (o 68)), .int (iI (o 69)), .int (iI (o 70)), .ref 579]) := hM1882
      show X_T sc 158 (77, [(3, .int (iI 1)), (2, .int (iI ((8 * wi) + (wM wi)))), (0, .ref 530), (1, .int (iI wi))], [], S1876) _
      refine T_p xr_158_77 xn_158 (pc' := 78) (ls' := [(3, .int (iI 1)), (2, .int (iI ((8 * wi) + (wM wi)))), (0, .ref 530), (1, .int (iI wi))]) (st' := [.ref 530]) rfl ?_
      refine T_cv (S := S1876) (q := 530) xr_158_78 xf_140.1 xf_140.2.1 xn_140 (as := []) (r := []) rfl h1884 (Nat.le_of_ble_eq_true rfl) (Nat.le_of_ble_eq_true rfl) (pc' := 81) rfl (ls' := [(0, .ref 530)]) rfl ?_
      refine T_mono (r_isGood sc S1876 (X_ou (X_ou o 5 f1878) 6 g1879) nm h1884 (show 0 ≤ f1878 ∧ f1878 ≤ 5 from by omega)) (fun v1885 S1886 h1887 => ?_)
      rcases h1887 with ⟨hv1888, hf1889⟩
      rw [hv1888]
      rw [hf1889]
      show X_T sc 158 (81, [(3, .int (iI 1)), (2, .int (iI ((8 * wi) + (wM wi)))), (0, .ref 530), (1, .int (iI wi))], [.int (iI (bI (f1878 = 0)))], S1876) _
      refine T_bif_ne xr_158_81 (t := 85) (pc' := 84) rfl rfl (fun c1890 => ?_) (fun c1890 => ?_)
      · skip
        have c1890 : (f1878 = 0) := c1890
        exact (show False by first | contradiction | omega).elim
      · skip
        have c1890 : ¬ (f1878 = 0) := c1890
        refine T_vret xr_158_84 xf_158.2.2 ?_
        refine hQ _ _ ?_
        have h1891 := (hf1883.1 540 (by first | decide | omega)).trans (hA540)
        have h1892 := (hf1883.1 541 (by first | decide | omega)).trans (hA541)
        have h1893 := (hf1883.1 545 (by first | decide | omega)).trans (hA545)
        have h1894 := (hf1883.1 546 (by first | decide | omega)).trans (hA546)
        have h1895 := (hf1883.1 547 (by first | decide | omega)).trans (hA547)
        refine Or.inr ⟨o 7, o 8, o 9, o 10, o 11, nm, f1878, g1879, wM, wH, eP, eH, hK, rfl, by omega, ?_, by first | exact R_ob.rf | exact R_ob.rf.up (by omega), by first | exact R_ob.rf | exact R_ob.rf.up (by omega), by first | exact R_ob.rf | exact R_ob.rf.up (by omega), by first | exact R_ob.rf | exact R_ob.rf.up (by omega), by first | exact R_ob.rf | exact R_ob.rf.up (by omega), h1884, h1891, h1892, h1893, h1894, h1895, (X_Fr.rf).tr (X_Fr.mono ⟨hf1883.1, hf1883.2⟩ (fun q hq => by first | exact hq | (rcases hq with rfl <;> decide) | (rcases hq with rfl | rfl <;> decide) | (rcases hq with rfl | rfl | rfl <;> decide) | (rcases hq with rfl | rfl | rfl | rfl <;> decide) | (rcases hq with rfl | rfl | rfl | rfl | rfl <;> decide) | (rcases hq with rfl | rfl | rfl | rfl | rfl | rfl <;> decide) | (rcases hq with rfl | rfl | rfl | rfl | rfl | rfl | rfl <;> decide) | omega))⟩
        · unfold sp_e1
          (repeat (first | rw [if_pos (by assumption)] | rw [if_neg (by assumption)] | rw [if_neg (by omega)] | rw [if_pos (by omega)] | rw [if_neg (by rintro ⟨h1, h2, h3, h4⟩; first | omega | exact h4 ⟨by omega, by omega, (hq (by omega)).symm.trans (by first | assumption | exact Classical.not_not.mp (by assumption))⟩)]))
          all_goals first | rfl | ((repeat' split) <;> first | rfl | (exfalso; omega) | contradiction)
    · skip
      have c1874 : ¬ ((wM wi) = 8) := c1874
      refine T_p xr_158_37 xn_158 (pc' := 38) (ls' := [(3, .int (iI 1)), (2, .int (iI ((8 * wi) + (wM wi)))), (0, .ref 530), (1, .int (iI wi))]) (st' := [.int (iI 1)]) rfl ?_
      refine T_zif_eqf xr_158_38 (t := 77) (pc' := 41) rfl rfl (by decide) ?_
      refine T_p xr_158_41 xn_158 (pc' := 42) (ls' := [(3, .int (iI 1)), (2, .int (iI ((8 * wi) + (wM wi)))), (0, .ref 530), (1, .int (iI wi))]) (st' := [.ref 530]) rfl ?_
      refine T_get xr_158_42 hM rfl (v := .ref 541) rfl (pc' := 45) rfl ?_
      refine T_p xr_158_45 xn_158 (pc' := 46) (ls' := [(3, .int (iI 1)), (2, .int (iI ((8 * wi) + (wM wi)))), (0, .ref 530), (1, .int (iI wi))]) (st' := [.int (iI wi), .ref 541]) rfl ?_
      refine T_ziald xr_158_46 hA541 (pc' := 47) rfl ?_
      refine T_p xr_158_47 xn_158 (pc' := 48) (ls' := [(3, .int (iI 1)), (2, .int (iI ((8 * wi) + (wM wi)))), (0, .ref 530), (1, .int (iI wi))]) (st' := [.int (iI 4), .int (iI (wH wi))]) rfl ?_
      refine T_zicmp_eq xr_158_48 (t := 73) (pc' := 51) rfl rfl (fun c1896 => ?_) (fun c1896 => ?_)
      · skip
        have c1896 : (wH wi) = 4 := c1896
        refine T_p xr_158_73 xn_158 (pc' := 74) (ls' := [(3, .int (iI 1)), (2, .int (iI ((8 * wi) + (wM wi)))), (0, .ref 530), (1, .int (iI wi))]) (st' := [.ref 530]) rfl ?_
        refine T_cv (S := S) (q := 530) xr_158_74 xf_147.1 xf_147.2.1 xn_147 (as := []) (r := []) rfl hM (Nat.le_of_ble_eq_true rfl) (Nat.le_of_ble_eq_true rfl) (pc' := 77) rfl (ls' := [(0, .ref 530)]) rfl ?_
        refine T_mono (r_wrong sc S o nm tx tb len n so pl ct E c hM hA532 (show (o 3) = len from by first | assumption | omega) hl htx hX hT (show 0 ≤ (o 5) ∧ (o 5) ≤ 5 from by omega)) (fun v1897 S1898 h1899 => ?_)
        rcases h1899 with ⟨f1900, g1901, hv1902, hp1903, hM1904, hf1905⟩
        rw [hv1902]
        have h1906 : S1898.1 530 = .inr (11, [.ref 531, .int (iI (o 1)), .ref 532, .int (iI (o 3)), .int (iI (o 4)), .int (iI f1900), .int (iI g1901), .int (iI (o 7)), .int (iI (o 8)), .int (iI (o 9)), .int (iI (o 10)), .int (iI (o 11)), .long nm, .ref 533, .ref 534, .ref 535, .ref 536, .ref 537, .ref 538, .ref 539, .ref 540, .ref 541, .ref 542, .ref 543, .ref 544, .ref 545, .ref 546, .ref 547, .int (iI (o 28)), .int (iI (o 29)), .int (iI (o 30)), .int (iI (o 31)), .int (iI (o 32)), .int (iI (o 33)), .ref 548, .ref 549, .ref 550, .ref 551, .int (iI (o 38)), .ref 552, .ref 553, .ref 554, .ref 555, .ref 556, .ref 557, .ref 558, .ref 559, .ref 560, .ref 561, .int (iI (o 49)), .ref 562, .ref 563, .ref 564, .ref 565, .ref 566, .ref 567, .ref 568, .ref 569, .int (iI (o 58)), .ref 570, .ref 571, .ref 572, .ref 573, .ref 574, .ref 575, .ref 576, .ref 577, .ref 578, .int (iI (o 68)), .int (iI (o 69)), .int (iI (o 70)), .ref 579]) := hM1904
        show X_T sc 158 (77, [(3, .int (iI 1)), (2, .int (iI ((8 * wi) + (wM wi)))), (0, .ref 530), (1, .int (iI wi))], [], S1898) _
        refine T_p xr_158_77 xn_158 (pc' := 78) (ls' := [(3, .int (iI 1)), (2, .int (iI ((8 * wi) + (wM wi)))), (0, .ref 530), (1, .int (iI wi))]) (st' := [.ref 530]) rfl ?_
        refine T_cv (S := S1898) (q := 530) xr_158_78 xf_140.1 xf_140.2.1 xn_140 (as := []) (r := []) rfl h1906 (Nat.le_of_ble_eq_true rfl) (Nat.le_of_ble_eq_true rfl) (pc' := 81) rfl (ls' := [(0, .ref 530)]) rfl ?_
        refine T_mono (r_isGood sc S1898 (X_ou (X_ou o 5 f1900) 6 g1901) nm h1906 (show 0 ≤ f1900 ∧ f1900 ≤ 5 from by omega)) (fun v1907 S1908 h1909 => ?_)
        rcases h1909 with ⟨hv1910, hf1911⟩
        rw [hv1910]
        rw [hf1911]
        show X_T sc 158 (81, [(3, .int (iI 1)), (2, .int (iI ((8 * wi) + (wM wi)))), (0, .ref 530), (1, .int (iI wi))], [.int (iI (bI (f1900 = 0)))], S1898) _
        refine T_bif_ne xr_158_81 (t := 85) (pc' := 84) rfl rfl (fun c1912 => ?_) (fun c1912 => ?_)
        · skip
          have c1912 : (f1900 = 0) := c1912
          exact (show False by first | contradiction | omega).elim
        · skip
          have c1912 : ¬ (f1900 = 0) := c1912
          refine T_vret xr_158_84 xf_158.2.2 ?_
          refine hQ _ _ ?_
          have h1913 := (hf1905.1 540 (by first | decide | omega)).trans (hA540)
          have h1914 := (hf1905.1 541 (by first | decide | omega)).trans (hA541)
          have h1915 := (hf1905.1 545 (by first | decide | omega)).trans (hA545)
          have h1916 := (hf1905.1 546 (by first | decide | omega)).trans (hA546)
          have h1917 := (hf1905.1 547 (by first | decide | omega)).trans (hA547)
          refine Or.inr ⟨o 7, o 8, o 9, o 10, o 11, nm, f1900, g1901, wM, wH, eP, eH, hK, rfl, by omega, ?_, by first | exact R_ob.rf | exact R_ob.rf.up (by omega), by first | exact R_ob.rf | exact R_ob.rf.up (by omega), by first | exact R_ob.rf | exact R_ob.rf.up (by omega), by first | exact R_ob.rf | exact R_ob.rf.up (by omega), by first | exact R_ob.rf | exact R_ob.rf.up (by omega), h1906, h1913, h1914, h1915, h1916, h1917, (X_Fr.rf).tr (X_Fr.mono ⟨hf1905.1, hf1905.2⟩ (fun q hq => by first | exact hq | (rcases hq with rfl <;> decide) | (rcases hq with rfl | rfl <;> decide) | (rcases hq with rfl | rfl | rfl <;> decide) | (rcases hq with rfl | rfl | rfl | rfl <;> decide) | (rcases hq with rfl | rfl | rfl | rfl | rfl <;> decide) | (rcases hq with rfl | rfl | rfl | rfl | rfl | rfl <;> decide) | (rcases hq with rfl | rfl | rfl | rfl | rfl | rfl | rfl <;> decide) | omega))⟩
          · unfold sp_e1
            (repeat (first | rw [if_pos (by assumption)] | rw [if_neg (by assumption)] | rw [if_neg (by omega)] | rw [if_pos (by omega)] | rw [if_neg (by rintro ⟨h1, h2, h3, h4⟩; first | omega | exact h4 ⟨by omega, by omega, (hq (by omega)).symm.trans (by first | assumption | exact Classical.not_not.mp (by assumption))⟩)]))
            all_goals first | rfl | ((repeat' split) <;> first | rfl | (exfalso; omega) | contradiction)
      · skip
        have c1896 : ¬ ((wH wi) = 4) := c1896
        refine T_p xr_158_51 xn_158 (pc' := 52) (ls' := [(3, .int (iI 1)), (2, .int (iI ((8 * wi) + (wM wi)))), (0, .ref 530), (1, .int (iI wi))]) (st' := [.ref 530]) rfl ?_
        refine T_get xr_158_52 hM rfl (v := .ref 540) rfl (pc' := 55) rfl ?_
        refine T_p xr_158_55 xn_158 (pc' := 56) (ls' := [(3, .int (iI 1)), (2, .int (iI ((8 * wi) + (wM wi)))), (0, .ref 530), (1, .int (iI wi))]) (st' := [.int (iI wi), .ref 540]) rfl ?_
        refine T_ziald xr_158_56 hA540 (pc' := 57) rfl ?_
        refine T_zif_le xr_158_57 (t := 77) (pc' := 60) rfl rfl (fun c1918 => ?_) (fun c1918 => ?_)
        · skip
          have c1918 : (wM wi) ≤ 0 := c1918
          refine T_p xr_158_77 xn_158 (pc' := 78) (ls' := [(3, .int (iI 1)), (2, .int (iI ((8 * wi) + (wM wi)))), (0, .ref 530), (1, .int (iI wi))]) (st' := [.ref 530]) rfl ?_
          refine T_cv (S := S) (q := 530) xr_158_78 xf_140.1 xf_140.2.1 xn_140 (as := []) (r := []) rfl hM (Nat.le_of_ble_eq_true rfl) (Nat.le_of_ble_eq_true rfl) (pc' := 81) rfl (ls' := [(0, .ref 530)]) rfl ?_
          refine T_mono (r_isGood sc S o nm hM (show 0 ≤ (o 5) ∧ (o 5) ≤ 5 from by omega)) (fun v1919 S1920 h1921 => ?_)
          rcases h1921 with ⟨hv1922, hf1923⟩
          rw [hv1922]
          rw [hf1923]
          show X_T sc 158 (81, [(3, .int (iI 1)), (2, .int (iI ((8 * wi) + (wM wi)))), (0, .ref 530), (1, .int (iI wi))], [.int (iI (bI ((o 5) = 0)))], S) _
          refine T_bif_ne xr_158_81 (t := 85) (pc' := 84) rfl rfl (fun c1924 => ?_) (fun c1924 => ?_)
          · skip
            have c1924 : ((o 5) = 0) := c1924
            have hmay : so c = 95 ∧ (d 3 0 < 8 ∧ d 4 0 < 4 ∧ ¬ X_hl d q (d 3 0 - 1)) := ⟨by omega, by omega, by omega, fun z => by first | exact absurd ((hq (by omega)).trans z.2.2) (by assumption) | (have := z.1; omega)⟩
            refine T_p xr_158_85 xn_158 (pc' := 86) (ls' := [(3, .int (iI 1)), (2, .int (iI ((8 * wi) + (wM wi)))), (0, .ref 530), (1, .int (iI wi))]) (st' := [.ref 530]) rfl ?_
            refine T_get xr_158_86 hM rfl (v := .ref 540) rfl (pc' := 89) rfl ?_
            refine T_p xr_158_89 xn_158 (pc' := 90) (ls' := [(3, .int (iI 1)), (2, .int (iI ((8 * wi) + (wM wi)))), (0, .ref 530), (1, .int (iI wi))]) (st' := [.int (iI wi), .ref 540]) rfl ?_
            refine T_p xr_158_90 xn_158 (pc' := 91) (ls' := [(3, .int (iI 1)), (2, .int (iI ((8 * wi) + (wM wi)))), (0, .ref 530), (1, .int (iI wi))]) (st' := [.int (iI wi), .ref 540, .int (iI wi), .ref 540]) rfl ?_
            refine T_ziald xr_158_91 hA540 (pc' := 92) rfl ?_
            refine T_p xr_158_92 xn_158 (pc' := 93) (ls' := [(3, .int (iI 1)), (2, .int (iI ((8 * wi) + (wM wi)))), (0, .ref 530), (1, .int (iI wi))]) (st' := [.int (iI 1), .int (iI (wM wi)), .int (iI wi), .ref 540]) rfl ?_
            refine T_ziadd xr_158_93 (z := (wM wi) + 1) rfl (pc' := 94) rfl ?_
            refine T_ziast xr_158_94 hA540 (pc' := 95) rfl (fun S1925 h1926 n1927 e1928 => ?_)
            refine T_p xr_158_95 xn_158 (pc' := 96) (ls' := [(3, .int (iI 1)), (2, .int (iI ((8 * wi) + (wM wi)))), (0, .ref 530), (1, .int (iI wi))]) (st' := [.ref 530]) rfl ?_
            have h1929 := (n1927 530 (by decide)).trans (hM)
            refine T_get xr_158_96 h1929 rfl (v := .ref 545) rfl (pc' := 99) rfl ?_
            refine T_p xr_158_99 xn_158 (pc' := 100) (ls' := [(3, .int (iI 1)), (2, .int (iI ((8 * wi) + (wM wi)))), (0, .ref 530), (1, .int (iI wi))]) (st' := [.int (iI ((8 * wi) + (wM wi))), .ref 545]) rfl ?_
            refine T_p xr_158_100 xn_158 (pc' := 101) (ls' := [(3, .int (iI 1)), (2, .int (iI ((8 * wi) + (wM wi)))), (0, .ref 530), (1, .int (iI wi))]) (st' := [.int (iI 1), .int (iI ((8 * wi) + (wM wi))), .ref 545]) rfl ?_
            refine T_zif_eqf xr_158_101 (t := 108) (pc' := 104) rfl rfl (by decide) ?_
            refine T_p xr_158_104 xn_158 (pc' := 105) (ls' := [(3, .int (iI 1)), (2, .int (iI ((8 * wi) + (wM wi)))), (0, .ref 530), (1, .int (iI wi))]) (st' := [.long (0 : Int64), .int (iI ((8 * wi) + (wM wi))), .ref 545]) rfl ?_
            refine T_p xr_158_105 xn_158 (pc' := 112) (ls' := [(3, .int (iI 1)), (2, .int (iI ((8 * wi) + (wM wi)))), (0, .ref 530), (1, .int (iI wi))]) (st' := [.long (0 : Int64), .int (iI ((8 * wi) + (wM wi))), .ref 545]) rfl ?_
            have h1930 := (n1927 545 (by decide)).trans (hA545)
            refine T_zlast xr_158_112 h1930 (pc' := 113) rfl (fun S1931 h1932 n1933 e1934 => ?_)
            refine T_p xr_158_113 xn_158 (pc' := 114) (ls' := [(3, .int (iI 1)), (2, .int (iI ((8 * wi) + (wM wi)))), (0, .ref 530), (1, .int (iI wi))]) (st' := [.ref 530]) rfl ?_
            have h1935 := (n1933 530 (by decide)).trans (h1929)
            refine T_cv (S := S1931) (q := 530) xr_158_114 xf_141.1 xf_141.2.1 xn_141 (as := []) (r := []) rfl h1935 (Nat.le_of_ble_eq_true rfl) (Nat.le_of_ble_eq_true rfl) (pc' := 117) rfl (ls' := [(0, .ref 530)]) rfl ?_
            have h1936 := (n1933 532 (by decide)).trans ((n1927 532 (by decide)).trans (hA532))
            refine T_mono (r_nx sc S1931 o nm tx tb len n so pl ct E c h1935 h1936 (show (o 3) = len from by first | assumption | omega) hl htx hX hT (by omega)) (fun v1937 S1938 h1939 => ?_)
            rcases h1939 with ⟨at1940, en1941, tk1942, nu1943, dg1944, nm1945, hv1946, hp1947, hM1948, hf1949⟩
            rw [hv1946]
            have h1950 : S1938.1 530 = .inr (11, [.ref 531, .int (iI (o 1)), .ref 532, .int (iI (o 3)), .int (iI (o 4)), .int (iI (o 5)), .int (iI (o 6)), .int (iI at1940), .int (iI en1941), .int (iI tk1942), .int (iI nu1943), .int (iI dg1944), .long nm1945, .ref 533, .ref 534, .ref 535, .ref 536, .ref 537, .ref 538, .ref 539, .ref 540, .ref 541, .ref 542, .ref 543, .ref 544, .ref 545, .ref 546, .ref 547, .int (iI (o 28)), .int (iI (o 29)), .int (iI (o 30)), .int (iI (o 31)), .int (iI (o 32)), .int (iI (o 33)), .ref 548, .ref 549, .ref 550, .ref 551, .int (iI (o 38)), .ref 552, .ref 553, .ref 554, .ref 555, .ref 556, .ref 557, .ref 558, .ref 559, .ref 560, .ref 561, .int (iI (o 49)), .ref 562, .ref 563, .ref 564, .ref 565, .ref 566, .ref 567, .ref 568, .ref 569, .int (iI (o 58)), .ref 570, .ref 571, .ref 572, .ref 573, .ref 574, .ref 575, .ref 576, .ref 577, .ref 578, .int (iI (o 68)), .int (iI (o 69)), .int (iI (o 70)), .ref 579]) := hM1948
            obtain ⟨⟨_, _⟩, ⟨_, _⟩, hk1951, ⟨_, _⟩, hk1951e, ⟨_, _⟩, ⟨_, _⟩⟩ := R_tk_f hX hp1947
            show X_T sc 158 (117, [(3, .int (iI 1)), (2, .int (iI ((8 * wi) + (wM wi)))), (0, .ref 530), (1, .int (iI wi))], [], S1938) _
            refine T_p xr_158_117 xn_158 (pc' := 118) (ls' := [(3, .int (iI 1)), (2, .int (iI ((8 * wi) + (wM wi)))), (0, .ref 530), (1, .int (iI wi))]) (st' := [.int (iI 1)]) rfl ?_
            refine T_zif_net xr_158_118 (t := 122) rfl (by decide) ?_
            refine T_p xr_158_122 xn_158 (pc' := 123) (ls' := [(3, .int (iI 1)), (2, .int (iI ((8 * wi) + (wM wi)))), (0, .ref 530), (1, .int (iI wi))]) (st' := [.ref 530]) rfl ?_
            refine T_get xr_158_123 h1950 rfl (v := .ref 546) rfl (pc' := 126) rfl ?_
            refine T_p xr_158_126 xn_158 (pc' := 127) (ls' := [(3, .int (iI 1)), (2, .int (iI ((8 * wi) + (wM wi)))), (0, .ref 530), (1, .int (iI wi))]) (st' := [.int (iI ((8 * wi) + (wM wi))), .ref 546]) rfl ?_
            refine T_p xr_158_127 xn_158 (pc' := 128) (ls' := [(3, .int (iI 1)), (2, .int (iI ((8 * wi) + (wM wi)))), (0, .ref 530), (1, .int (iI wi))]) (st' := [.ref 530, .int (iI ((8 * wi) + (wM wi))), .ref 546]) rfl ?_
            refine T_get xr_158_128 h1950 rfl (v := .ref 541) rfl (pc' := 131) rfl ?_
            refine T_p xr_158_131 xn_158 (pc' := 132) (ls' := [(3, .int (iI 1)), (2, .int (iI ((8 * wi) + (wM wi)))), (0, .ref 530), (1, .int (iI wi))]) (st' := [.int (iI wi), .ref 541, .int (iI ((8 * wi) + (wM wi))), .ref 546]) rfl ?_
            have h1952 := (hf1949.1 541 (by first | decide | omega)).trans ((n1933 541 (by decide)).trans ((n1927 541 (by decide)).trans (hA541)))
            refine T_ziald xr_158_132 h1952 (pc' := 133) rfl ?_
            have h1953 := (hf1949.1 546 (by first | decide | omega)).trans ((n1933 546 (by decide)).trans ((n1927 546 (by decide)).trans (hA546)))
            refine T_ziast xr_158_133 h1953 (pc' := 134) rfl (fun S1954 h1955 n1956 e1957 => ?_)
            refine T_p xr_158_134 xn_158 (pc' := 135) (ls' := [(3, .int (iI 1)), (2, .int (iI ((8 * wi) + (wM wi)))), (0, .ref 530), (1, .int (iI wi))]) (st' := [.ref 530]) rfl ?_
            have h1958 := (n1956 530 (by decide)).trans (h1950)
            refine T_get xr_158_135 h1958 rfl (v := .ref 547) rfl (pc' := 138) rfl ?_
            refine T_p xr_158_138 xn_158 (pc' := 139) (ls' := [(3, .int (iI 1)), (2, .int (iI ((8 * wi) + (wM wi)))), (0, .ref 530), (1, .int (iI wi))]) (st' := [.int (iI 4), .ref 547]) rfl ?_
            refine T_p xr_158_139 xn_158 (pc' := 140) (ls' := [(3, .int (iI 1)), (2, .int (iI ((8 * wi) + (wM wi)))), (0, .ref 530), (1, .int (iI wi))]) (st' := [.int (iI wi), .int (iI 4), .ref 547]) rfl ?_
            refine T_zimul xr_158_140 (z := 4 * wi) rfl (pc' := 141) rfl ?_
            refine T_p xr_158_141 xn_158 (pc' := 142) (ls' := [(3, .int (iI 1)), (2, .int (iI ((8 * wi) + (wM wi)))), (0, .ref 530), (1, .int (iI wi))]) (st' := [.ref 530, .int (iI (4 * wi)), .ref 547]) rfl ?_
            refine T_get xr_158_142 h1958 rfl (v := .ref 541) rfl (pc' := 145) rfl ?_
            refine T_p xr_158_145 xn_158 (pc' := 146) (ls' := [(3, .int (iI 1)), (2, .int (iI ((8 * wi) + (wM wi)))), (0, .ref 530), (1, .int (iI wi))]) (st' := [.int (iI wi), .ref 541, .int (iI (4 * wi)), .ref 547]) rfl ?_
            have h1959 := (n1956 541 (by decide)).trans (h1952)
            refine T_ziald xr_158_146 h1959 (pc' := 147) rfl ?_
            refine T_ziadd xr_158_147 (z := (4 * wi) + (wH wi)) rfl (pc' := 148) rfl ?_
            refine T_p xr_158_148 xn_158 (pc' := 149) (ls' := [(3, .int (iI 1)), (2, .int (iI ((8 * wi) + (wM wi)))), (0, .ref 530), (1, .int (iI wi))]) (st' := [.ref 530, .int (iI ((4 * wi) + (wH wi))), .ref 547]) rfl ?_
            refine T_get xr_158_149 h1958 rfl (v := .int (iI tk1942)) rfl (pc' := 152) rfl ?_
            refine T_p xr_158_152 xn_158 (pc' := 153) (ls' := [(3, .int (iI 1)), (2, .int (iI ((8 * wi) + (wM wi)))), (0, .ref 530), (1, .int (iI wi))]) (st' := [.int (iI 2), .int (iI tk1942), .int (iI ((4 * wi) + (wH wi))), .ref 547]) rfl ?_
            refine T_zicmp_ne xr_158_153 (t := 163) (pc' := 156) rfl rfl (fun c1960 => ?_) (fun c1960 => ?_)
            · skip
              have c1960 : ¬ tk1942 = 2 := c1960
              refine T_p xr_158_163 xn_158 (pc' := 164) (ls' := [(3, .int (iI 1)), (2, .int (iI ((8 * wi) + (wM wi)))), (0, .ref 530), (1, .int (iI wi))]) (st' := [.int (iI 0), .int (iI ((4 * wi) + (wH wi))), .ref 547]) rfl ?_
              have h1961 := (n1956 547 (by decide)).trans ((hf1949.1 547 (by first | decide | omega)).trans ((n1933 547 (by decide)).trans ((n1927 547 (by decide)).trans (hA547))))
              refine T_ziast xr_158_164 h1961 (pc' := 165) rfl (fun S1962 h1963 n1964 e1965 => ?_)
              refine T_p xr_158_165 xn_158 (pc' := 166) (ls' := [(3, .int (iI 1)), (2, .int (iI ((8 * wi) + (wM wi)))), (0, .ref 530), (1, .int (iI wi))]) (st' := [.ref 530]) rfl ?_
              have h1966 := (n1964 530 (by decide)).trans (h1958)
              refine T_get xr_158_166 h1966 rfl (v := .ref 541) rfl (pc' := 169) rfl ?_
              refine T_p xr_158_169 xn_158 (pc' := 170) (ls' := [(3, .int (iI 1)), (2, .int (iI ((8 * wi) + (wM wi)))), (0, .ref 530), (1, .int (iI wi))]) (st' := [.int (iI wi), .ref 541]) rfl ?_
              refine T_p xr_158_170 xn_158 (pc' := 171) (ls' := [(3, .int (iI 1)), (2, .int (iI ((8 * wi) + (wM wi)))), (0, .ref 530), (1, .int (iI wi))]) (st' := [.int (iI wi), .ref 541, .int (iI wi), .ref 541]) rfl ?_
              have h1967 := (n1964 541 (by decide)).trans (h1959)
              refine T_ziald xr_158_171 h1967 (pc' := 172) rfl ?_
              refine T_p xr_158_172 xn_158 (pc' := 173) (ls' := [(3, .int (iI 1)), (2, .int (iI ((8 * wi) + (wM wi)))), (0, .ref 530), (1, .int (iI wi))]) (st' := [.int (iI 1), .int (iI (wH wi)), .int (iI wi), .ref 541]) rfl ?_
              refine T_ziadd xr_158_173 (z := (wH wi) + 1) rfl (pc' := 174) rfl ?_
              refine T_ziast xr_158_174 h1967 (pc' := 175) rfl (fun S1968 h1969 n1970 e1971 => ?_)
              refine T_vret xr_158_175 xf_158.2.2 ?_
              refine hQ _ _ ?_
              have h1972 := (n1970 530 (by decide)).trans (h1966)
              have h1973 := (n1970 540 (by decide)).trans ((n1964 540 (by decide)).trans ((n1956 540 (by decide)).trans ((hf1949.1 540 (by first | decide | omega)).trans ((n1933 540 (by decide)).trans (h1926)))))
              have h1974 := (n1970 545 (by decide)).trans ((n1964 545 (by decide)).trans ((n1956 545 (by decide)).trans ((hf1949.1 545 (by first | decide | omega)).trans (h1932))))
              have h1975 := (n1970 546 (by decide)).trans ((n1964 546 (by decide)).trans (h1955))
              have h1976 := (n1970 547 (by decide)).trans (h1963)
              refine Or.inl ⟨at1940, en1941, tk1942, nu1943, dg1944, nm1945, X_av n c, X_aH d 0, X_ug q (d 3 0) 0, (X_ug wM wi ((wM wi) + 1)), (X_ug wH wi ((wH wi) + 1)), (X_ug eP ((8 * wi) + (wM wi)) (0 : Int64)), (X_ug eH ((8 * wi) + (wM wi)) (wH wi)), (X_ug hK ((4 * wi) + (wH wi)) 0), rfl, hp1947, ?_, R_e_H (by omega) hE (by omega) (by omega) (by omega) (by omega) (by omega), by first | exact R_ob.rf | exact R_ob.rf.up (by omega), by first | exact R_ob.rf | exact R_ob.rf.up (by omega), by first | exact R_ob.rf | exact R_ob.rf.up (by omega), by first | exact R_ob.rf | exact R_ob.rf.up (by omega), by first | exact R_ob.rf | exact R_ob.rf.up (by omega), h1972, h1973, h1969, h1974, h1975, h1976, ((((((X_Fr.rf).tr (X_Fr.of n1927 e1928 (by first | decide | exact ⟨Nat.le_add_right _ _, Nat.add_le_add_left (by decide) _⟩ | omega))).tr (X_Fr.of n1933 e1934 (by first | decide | exact ⟨Nat.le_add_right _ _, Nat.add_le_add_left (by decide) _⟩ | omega))).tr (X_Fr.mono ⟨hf1949.1, hf1949.2⟩ (fun q hq => by first | exact hq | (rcases hq with rfl <;> decide) | (rcases hq with rfl | rfl <;> decide) | (rcases hq with rfl | rfl | rfl <;> decide) | (rcases hq with rfl | rfl | rfl | rfl <;> decide) | (rcases hq with rfl | rfl | rfl | rfl | rfl <;> decide) | (rcases hq with rfl | rfl | rfl | rfl | rfl | rfl <;> decide) | (rcases hq with rfl | rfl | rfl | rfl | rfl | rfl | rfl <;> decide) | omega))).tr (X_Fr.of n1956 e1957 (by first | decide | exact ⟨Nat.le_add_right _ _, Nat.add_le_add_left (by decide) _⟩ | omega))).tr (X_Fr.of n1964 e1965 (by first | decide | exact ⟨Nat.le_add_right _ _, Nat.add_le_add_left (by decide) _⟩ | omega))).tr (X_Fr.of n1970 e1971 (by first | decide | exact ⟨Nat.le_add_right _ _, Nat.add_le_add_left (by decide) _⟩ | omega))⟩
              · unfold sp_e1
                (repeat (first | rw [if_pos hmay] | rw [if_pos (by assumption)] | rw [if_neg (by assumption)] | rw [if_neg (by omega)] | rw [if_pos (by omega)] | rw [if_neg (by rintro ⟨h1, h2, h3, h4⟩; first | omega | exact h4 ⟨by omega, by omega, (hq (by omega)).symm.trans (by first | assumption | exact Classical.not_not.mp (by assumption))⟩)]))
                all_goals first | rfl | ((repeat' split) <;> first | rfl | (exfalso; omega) | contradiction)
            · skip
              have c1960 : ¬ (¬ tk1942 = 2) := c1960
              refine T_p xr_158_156 xn_158 (pc' := 157) (ls' := [(3, .int (iI 1)), (2, .int (iI ((8 * wi) + (wM wi)))), (0, .ref 530), (1, .int (iI wi))]) (st' := [.ref 530, .int (iI ((4 * wi) + (wH wi))), .ref 547]) rfl ?_
              refine T_cv (S := S1954) (q := 530) xr_158_157 xf_152.1 xf_152.2.1 xn_152 (as := []) (r := [.int (iI ((4 * wi) + (wH wi))), .ref 547]) rfl h1958 (Nat.le_of_ble_eq_true rfl) (Nat.le_of_ble_eq_true rfl) (pc' := 160) rfl (ls' := [(0, .ref 530)]) rfl ?_
              have h1977 := (n1956 532 (by decide)).trans ((hf1949.1 532 (by first | decide | omega)).trans (h1936))
              have h1978 := (n1956 534 (by decide)).trans ((hf1949.1 534 (by first | decide | omega)).trans ((n1933 534 (by decide)).trans ((n1927 534 (by decide)).trans (hA534))))
              refine T_mono (r_aKind sc S1954 (X_ou (X_ou (X_ou (X_ou (X_ou o 7 at1940) 8 en1941) 9 tk1942) 10 nu1943) 11 dg1944) nm1945 tx kN tb len n so pl ct E (X_av n c) kn kc h1958 h1977 h1978 (show (o 3) = len from by first | assumption | omega) hl htx hX hp1947 (show (o 5) = 0 from by omega) (show (o 29) = kc from by omega) (by omega) (show 0 ≤ (o 4) ∧ (o 4) ≤ 1 from by omega) hN) (fun v1979 S1980 h1981 => ?_)
              rcases h1981 with ⟨at1982, en1983, tk1984, nu1985, dg1986, nm1987, hv1988, hp1989, hp1990, hp1991, hM1992, hf1993⟩ | ⟨r1994, f1995, g1996, hv1997, hp1998, hp1999, hp2000, hM2001, hf2002⟩
              · skip
                rw [hv1988]
                have h2003 : S1980.1 530 = .inr (11, [.ref 531, .int (iI (o 1)), .ref 532, .int (iI (o 3)), .int (iI (o 4)), .int (iI (o 5)), .int (iI (o 6)), .int (iI at1982), .int (iI en1983), .int (iI tk1984), .int (iI nu1985), .int (iI dg1986), .long nm1987, .ref 533, .ref 534, .ref 535, .ref 536, .ref 537, .ref 538, .ref 539, .ref 540, .ref 541, .ref 542, .ref 543, .ref 544, .ref 545, .ref 546, .ref 547, .int (iI (o 28)), .int (iI (o 29)), .int (iI (o 30)), .int (iI (o 31)), .int (iI (o 32)), .int (iI (o 33)), .ref 548, .ref 549, .ref 550, .ref 551, .int (iI (o 38)), .ref 552, .ref 553, .ref 554, .ref 555, .ref 556, .ref 557, .ref 558, .ref 559, .ref 560, .ref 561, .int (iI (o 49)), .ref 562, .ref 563, .ref 564, .ref 565, .ref 566, .ref 567, .ref 568, .ref 569, .int (iI (o 58)), .ref 570, .ref 571, .ref 572, .ref 573, .ref 574, .ref 575, .ref 576, .ref 577, .ref 578, .int (iI (o 68)), .int (iI (o 69)), .int (iI (o 70)), .ref 579]) := hM1992
                obtain ⟨⟨_, _⟩, ⟨_, _⟩, hk2004, ⟨_, _⟩, hk2004e, ⟨_, _⟩, ⟨_, _⟩⟩ := R_tk_f hX hp1989
                show X_T sc 158 (160, [(3, .int (iI 1)), (2, .int (iI ((8 * wi) + (wM wi)))), (0, .ref 530), (1, .int (iI wi))], [.int (iI (X_ix kn kc (ct (X_av n c)))), .int (iI ((4 * wi) + (wH wi))), .ref 547], S1980) _
                refine T_p xr_158_160 xn_158 (pc' := 164) (ls' := [(3, .int (iI 1)), (2, .int (iI ((8 * wi) + (wM wi)))), (0, .ref 530), (1, .int (iI wi))]) (st' := [.int (iI (X_ix kn kc (ct (X_av n c)))), .int (iI ((4 * wi) + (wH wi))), .ref 547]) rfl ?_
                have h2006 := (hf1993.1 547 (by first | decide | omega)).trans ((n1956 547 (by decide)).trans ((hf1949.1 547 (by first | decide | omega)).trans ((n1933 547 (by decide)).trans ((n1927 547 (by decide)).trans (hA547)))))
                refine T_ziast xr_158_164 h2006 (pc' := 165) rfl (fun S2007 h2008 n2009 e2010 => ?_)
                refine T_p xr_158_165 xn_158 (pc' := 166) (ls' := [(3, .int (iI 1)), (2, .int (iI ((8 * wi) + (wM wi)))), (0, .ref 530), (1, .int (iI wi))]) (st' := [.ref 530]) rfl ?_
                have h2011 := (n2009 530 (by decide)).trans (h2003)
                refine T_get xr_158_166 h2011 rfl (v := .ref 541) rfl (pc' := 169) rfl ?_
                refine T_p xr_158_169 xn_158 (pc' := 170) (ls' := [(3, .int (iI 1)), (2, .int (iI ((8 * wi) + (wM wi)))), (0, .ref 530), (1, .int (iI wi))]) (st' := [.int (iI wi), .ref 541]) rfl ?_
                refine T_p xr_158_170 xn_158 (pc' := 171) (ls' := [(3, .int (iI 1)), (2, .int (iI ((8 * wi) + (wM wi)))), (0, .ref 530), (1, .int (iI wi))]) (st' := [.int (iI wi), .ref 541, .int (iI wi), .ref 541]) rfl ?_
                have h2012 := (n2009 541 (by decide)).trans ((hf1993.1 541 (by first | decide | omega)).trans (h1959))
                refine T_ziald xr_158_171 h2012 (pc' := 172) rfl ?_
                refine T_p xr_158_172 xn_158 (pc' := 173) (ls' := [(3, .int (iI 1)), (2, .int (iI ((8 * wi) + (wM wi)))), (0, .ref 530), (1, .int (iI wi))]) (st' := [.int (iI 1), .int (iI (wH wi)), .int (iI wi), .ref 541]) rfl ?_
                refine T_ziadd xr_158_173 (z := (wH wi) + 1) rfl (pc' := 174) rfl ?_
                refine T_ziast xr_158_174 h2012 (pc' := 175) rfl (fun S2013 h2014 n2015 e2016 => ?_)
                refine T_vret xr_158_175 xf_158.2.2 ?_
                refine hQ _ _ ?_
                have h2017 := (n2015 530 (by decide)).trans (h2011)
                have h2018 := (n2015 540 (by decide)).trans ((n2009 540 (by decide)).trans ((hf1993.1 540 (by first | decide | omega)).trans ((n1956 540 (by decide)).trans ((hf1949.1 540 (by first | decide | omega)).trans ((n1933 540 (by decide)).trans (h1926))))))
                have h2019 := (n2015 545 (by decide)).trans ((n2009 545 (by decide)).trans ((hf1993.1 545 (by first | decide | omega)).trans ((n1956 545 (by decide)).trans ((hf1949.1 545 (by first | decide | omega)).trans (h1932)))))
                have h2020 := (n2015 546 (by decide)).trans ((n2009 546 (by decide)).trans ((hf1993.1 546 (by first | decide | omega)).trans (h1955)))
                have h2021 := (n2015 547 (by decide)).trans (h2008)
                refine Or.inl ⟨at1982, en1983, tk1984, nu1985, dg1986, nm1987, X_av n (X_av n c), X_aH d (X_ix kn kc (ct (X_av n c))), X_ug q (d 3 0) 0, (X_ug wM wi ((wM wi) + 1)), (X_ug wH wi ((wH wi) + 1)), (X_ug eP ((8 * wi) + (wM wi)) (0 : Int64)), (X_ug eH ((8 * wi) + (wM wi)) (wH wi)), (X_ug hK ((4 * wi) + (wH wi)) (X_ix kn kc (ct (X_av n c)))), rfl, hp1989, ?_, R_e_H (by omega) hE (by omega) (by omega) (by omega) (by omega) (by omega), by first | exact R_ob.rf | exact R_ob.rf.up (by omega), by first | exact R_ob.rf | exact R_ob.rf.up (by omega), by first | exact R_ob.rf | exact R_ob.rf.up (by omega), by first | exact R_ob.rf | exact R_ob.rf.up (by omega), by first | exact R_ob.rf | exact R_ob.rf.up (by omega), h2017, h2018, h2014, h2019, h2020, h2021, (((((((X_Fr.rf).tr (X_Fr.of n1927 e1928 (by first | decide | exact ⟨Nat.le_add_right _ _, Nat.add_le_add_left (by decide) _⟩ | omega))).tr (X_Fr.of n1933 e1934 (by first | decide | exact ⟨Nat.le_add_right _ _, Nat.add_le_add_left (by decide) _⟩ | omega))).tr (X_Fr.mono ⟨hf1949.1, hf1949.2⟩ (fun q hq => by first | exact hq | (rcases hq with rfl <;> decide) | (rcases hq with rfl | rfl <;> decide) | (rcases hq with rfl | rfl | rfl <;> decide) | (rcases hq with rfl | rfl | rfl | rfl <;> decide) | (rcases hq with rfl | rfl | rfl | rfl | rfl <;> decide) | (rcases hq with rfl | rfl | rfl | rfl | rfl | rfl <;> decide) | (rcases hq with rfl | rfl | rfl | rfl | rfl | rfl | rfl <;> decide) | omega))).tr (X_Fr.of n1956 e1957 (by first | decide | exact ⟨Nat.le_add_right _ _, Nat.add_le_add_left (by decide) _⟩ | omega))).tr (X_Fr.mono ⟨hf1993.1, hf1993.2⟩ (fun q hq => by first | exact hq | (rcases hq with rfl <;> decide) | (rcases hq with rfl | rfl <;> decide) | (rcases hq with rfl | rfl | rfl <;> decide) | (rcases hq with rfl | rfl | rfl | rfl <;> decide) | (rcases hq with rfl | rfl | rfl | rfl | rfl <;> decide) | (rcases hq with rfl | rfl | rfl | rfl | rfl | rfl <;> decide) | (rcases hq with rfl | rfl | rfl | rfl | rfl | rfl | rfl <;> decide) | omega))).tr (X_Fr.of n2009 e2010 (by first | decide | exact ⟨Nat.le_add_right _ _, Nat.add_le_add_left (by decide) _⟩ | omega))).tr (X_Fr.of n2015 e2016 (by first | decide | exact ⟨Nat.le_add_right _ _, Nat.add_le_add_left (by decide) _⟩ | omega))⟩
                · unfold sp_e1
                  (repeat (first | rw [if_pos hmay] | rw [if_pos (by assumption)] | rw [if_neg (by assumption)] | rw [if_neg (by omega)] | rw [if_pos (by omega)] | rw [if_neg (by rintro ⟨h1, h2, h3, h4⟩; first | omega | exact h4 ⟨by omega, by omega, (hq (by omega)).symm.trans (by first | assumption | exact Classical.not_not.mp (by assumption))⟩)]))
                  all_goals first | rfl | ((repeat' split) <;> first | rfl | (exfalso; omega) | contradiction)
              · skip
                rw [hv1997]
                have h2005 : S1980.1 530 = .inr (11, [.ref 531, .int (iI (o 1)), .ref 532, .int (iI (o 3)), .int (iI (o 4)), .int (iI f1995), .int (iI g1996), .int (iI at1940), .int (iI en1941), .int (iI tk1942), .int (iI nu1943), .int (iI dg1944), .long nm1945, .ref 533, .ref 534, .ref 535, .ref 536, .ref 537, .ref 538, .ref 539, .ref 540, .ref 541, .ref 542, .ref 543, .ref 544, .ref 545, .ref 546, .ref 547, .int (iI (o 28)), .int (iI (o 29)), .int (iI (o 30)), .int (iI (o 31)), .int (iI (o 32)), .int (iI (o 33)), .ref 548, .ref 549, .ref 550, .ref 551, .int (iI (o 38)), .ref 552, .ref 553, .ref 554, .ref 555, .ref 556, .ref 557, .ref 558, .ref 559, .ref 560, .ref 561, .int (iI (o 49)), .ref 562, .ref 563, .ref 564, .ref 565, .ref 566, .ref 567, .ref 568, .ref 569, .int (iI (o 58)), .ref 570, .ref 571, .ref 572, .ref 573, .ref 574, .ref 575, .ref 576, .ref 577, .ref 578, .int (iI (o 68)), .int (iI (o 69)), .int (iI (o 70)), .ref 579]) := hM2001
                show X_T sc 158 (160, [(3, .int (iI 1)), (2, .int (iI ((8 * wi) + (wM wi)))), (0, .ref 530), (1, .int (iI wi))], [.int (iI r1994), .int (iI ((4 * wi) + (wH wi))), .ref 547], S1980) _
                refine T_p xr_158_160 xn_158 (pc' := 164) (ls' := [(3, .int (iI 1)), (2, .int (iI ((8 * wi) + (wM wi)))), (0, .ref 530), (1, .int (iI wi))]) (st' := [.int (iI r1994), .int (iI ((4 * wi) + (wH wi))), .ref 547]) rfl ?_
                have h2022 := (hf2002.1 547 (by first | decide | omega)).trans ((n1956 547 (by decide)).trans ((hf1949.1 547 (by first | decide | omega)).trans ((n1933 547 (by decide)).trans ((n1927 547 (by decide)).trans (hA547)))))
                refine T_ziast xr_158_164 h2022 (pc' := 165) rfl (fun S2023 h2024 n2025 e2026 => ?_)
                refine T_p xr_158_165 xn_158 (pc' := 166) (ls' := [(3, .int (iI 1)), (2, .int (iI ((8 * wi) + (wM wi)))), (0, .ref 530), (1, .int (iI wi))]) (st' := [.ref 530]) rfl ?_
                have h2027 := (n2025 530 (by decide)).trans (h2005)
                refine T_get xr_158_166 h2027 rfl (v := .ref 541) rfl (pc' := 169) rfl ?_
                refine T_p xr_158_169 xn_158 (pc' := 170) (ls' := [(3, .int (iI 1)), (2, .int (iI ((8 * wi) + (wM wi)))), (0, .ref 530), (1, .int (iI wi))]) (st' := [.int (iI wi), .ref 541]) rfl ?_
                refine T_p xr_158_170 xn_158 (pc' := 171) (ls' := [(3, .int (iI 1)), (2, .int (iI ((8 * wi) + (wM wi)))), (0, .ref 530), (1, .int (iI wi))]) (st' := [.int (iI wi), .ref 541, .int (iI wi), .ref 541]) rfl ?_
                have h2028 := (n2025 541 (by decide)).trans ((hf2002.1 541 (by first | decide | omega)).trans (h1959))
                refine T_ziald xr_158_171 h2028 (pc' := 172) rfl ?_
                refine T_p xr_158_172 xn_158 (pc' := 173) (ls' := [(3, .int (iI 1)), (2, .int (iI ((8 * wi) + (wM wi)))), (0, .ref 530), (1, .int (iI wi))]) (st' := [.int (iI 1), .int (iI (wH wi)), .int (iI wi), .ref 541]) rfl ?_
                refine T_ziadd xr_158_173 (z := (wH wi) + 1) rfl (pc' := 174) rfl ?_
                refine T_ziast xr_158_174 h2028 (pc' := 175) rfl (fun S2029 h2030 n2031 e2032 => ?_)
                refine T_vret xr_158_175 xf_158.2.2 ?_
                refine hQ _ _ ?_
                have h2033 := (n2031 530 (by decide)).trans (h2027)
                have h2034 := (n2031 540 (by decide)).trans ((n2025 540 (by decide)).trans ((hf2002.1 540 (by first | decide | omega)).trans ((n1956 540 (by decide)).trans ((hf1949.1 540 (by first | decide | omega)).trans ((n1933 540 (by decide)).trans (h1926))))))
                have h2035 := (n2031 545 (by decide)).trans ((n2025 545 (by decide)).trans ((hf2002.1 545 (by first | decide | omega)).trans ((n1956 545 (by decide)).trans ((hf1949.1 545 (by first | decide | omega)).trans (h1932)))))
                have h2036 := (n2031 546 (by decide)).trans ((n2025 546 (by decide)).trans ((hf2002.1 546 (by first | decide | omega)).trans (h1955)))
                have h2037 := (n2031 547 (by decide)).trans (h2024)
                refine Or.inr ⟨at1940, en1941, tk1942, nu1943, dg1944, nm1945, f1995, g1996, (X_ug wM wi ((wM wi) + 1)), (X_ug wH wi ((wH wi) + 1)), (X_ug eP ((8 * wi) + (wM wi)) (0 : Int64)), (X_ug eH ((8 * wi) + (wM wi)) (wH wi)), (X_ug hK ((4 * wi) + (wH wi)) r1994), rfl, by omega, ?_, by first | exact R_ob.rf | exact R_ob.rf.up (by omega), by first | exact R_ob.rf | exact R_ob.rf.up (by omega), by first | exact R_ob.rf | exact R_ob.rf.up (by omega), by first | exact R_ob.rf | exact R_ob.rf.up (by omega), by first | exact R_ob.rf | exact R_ob.rf.up (by omega), h2033, h2034, h2030, h2035, h2036, h2037, (((((((X_Fr.rf).tr (X_Fr.of n1927 e1928 (by first | decide | exact ⟨Nat.le_add_right _ _, Nat.add_le_add_left (by decide) _⟩ | omega))).tr (X_Fr.of n1933 e1934 (by first | decide | exact ⟨Nat.le_add_right _ _, Nat.add_le_add_left (by decide) _⟩ | omega))).tr (X_Fr.mono ⟨hf1949.1, hf1949.2⟩ (fun q hq => by first | exact hq | (rcases hq with rfl <;> decide) | (rcases hq with rfl | rfl <;> decide) | (rcases hq with rfl | rfl | rfl <;> decide) | (rcases hq with rfl | rfl | rfl | rfl <;> decide) | (rcases hq with rfl | rfl | rfl | rfl | rfl <;> decide) | (rcases hq with rfl | rfl | rfl | rfl | rfl | rfl <;> decide) | (rcases hq with rfl | rfl | rfl | rfl | rfl | rfl | rfl <;> decide) | omega))).tr (X_Fr.of n1956 e1957 (by first | decide | exact ⟨Nat.le_add_right _ _, Nat.add_le_add_left (by decide) _⟩ | omega))).tr (X_Fr.mono ⟨hf2002.1, hf2002.2⟩ (fun q hq => by first | exact hq | (rcases hq with rfl <;> decide) | (rcases hq with rfl | rfl <;> decide) | (rcases hq with rfl | rfl | rfl <;> decide) | (rcases hq with rfl | rfl | rfl | rfl <;> decide) | (rcases hq with rfl | rfl | rfl | rfl | rfl <;> decide) | (rcases hq with rfl | rfl | rfl | rfl | rfl | rfl <;> decide) | (rcases hq with rfl | rfl | rfl | rfl | rfl | rfl | rfl <;> decide) | omega))).tr (X_Fr.of n2025 e2026 (by first | decide | exact ⟨Nat.le_add_right _ _, Nat.add_le_add_left (by decide) _⟩ | omega))).tr (X_Fr.of n2031 e2032 (by first | decide | exact ⟨Nat.le_add_right _ _, Nat.add_le_add_left (by decide) _⟩ | omega))⟩
                · unfold sp_e1
                  (repeat (first | rw [if_pos hmay] | rw [if_pos (by assumption)] | rw [if_neg (by assumption)] | rw [if_neg (by omega)] | rw [if_pos (by omega)] | rw [if_neg (by rintro ⟨h1, h2, h3, h4⟩; first | omega | exact h4 ⟨by omega, by omega, (hq (by omega)).symm.trans (by first | assumption | exact Classical.not_not.mp (by assumption))⟩)]))
                  all_goals first | rfl | ((repeat' split) <;> first | rfl | (exfalso; omega) | contradiction)
          · skip
            have c1924 : ¬ ((o 5) = 0) := c1924
            exact (show False by first | contradiction | omega).elim
        · skip
          have c1918 : ¬ ((wM wi) ≤ 0) := c1918
          refine T_p xr_158_60 xn_158 (pc' := 61) (ls' := [(3, .int (iI 1)), (2, .int (iI ((8 * wi) + (wM wi)))), (0, .ref 530), (1, .int (iI wi))]) (st' := [.ref 530]) rfl ?_
          refine T_get xr_158_61 hM rfl (v := .ref 545) rfl (pc' := 64) rfl ?_
          refine T_p xr_158_64 xn_158 (pc' := 65) (ls' := [(3, .int (iI 1)), (2, .int (iI ((8 * wi) + (wM wi)))), (0, .ref 530), (1, .int (iI wi))]) (st' := [.int (iI ((8 * wi) + (wM wi))), .ref 545]) rfl ?_
          refine T_p xr_158_65 xn_158 (pc' := 66) (ls' := [(3, .int (iI 1)), (2, .int (iI ((8 * wi) + (wM wi)))), (0, .ref 530), (1, .int (iI wi))]) (st' := [.int (iI 1), .int (iI ((8 * wi) + (wM wi))), .ref 545]) rfl ?_
          refine T_zisub xr_158_66 (z := ((8 * wi) + (wM wi)) - 1) rfl (pc' := 67) rfl ?_
          refine T_zlald xr_158_67 hA545 (pc' := 68) rfl ?_
          refine T_p xr_158_68 xn_158 (pc' := 69) (ls' := [(3, .int (iI 1)), (2, .int (iI ((8 * wi) + (wM wi)))), (0, .ref 530), (1, .int (iI wi))]) (st' := [.long (0 : Int64), .long (eP (((8 * wi) + (wM wi)) - 1))]) rfl ?_
          refine T_lc_ne xr_158_69 xr_158_70 (t := 77) (pc' := 73) rfl rfl (fun c2038 => ?_) (fun c2038 => ?_)
          · skip
            have c2038 : ¬ (eP (((8 * wi) + (wM wi)) - 1)) = (0 : Int64) := c2038
            refine T_p xr_158_77 xn_158 (pc' := 78) (ls' := [(3, .int (iI 1)), (2, .int (iI ((8 * wi) + (wM wi)))), (0, .ref 530), (1, .int (iI wi))]) (st' := [.ref 530]) rfl ?_
            refine T_cv (S := S) (q := 530) xr_158_78 xf_140.1 xf_140.2.1 xn_140 (as := []) (r := []) rfl hM (Nat.le_of_ble_eq_true rfl) (Nat.le_of_ble_eq_true rfl) (pc' := 81) rfl (ls' := [(0, .ref 530)]) rfl ?_
            refine T_mono (r_isGood sc S o nm hM (show 0 ≤ (o 5) ∧ (o 5) ≤ 5 from by omega)) (fun v2039 S2040 h2041 => ?_)
            rcases h2041 with ⟨hv2042, hf2043⟩
            rw [hv2042]
            rw [hf2043]
            show X_T sc 158 (81, [(3, .int (iI 1)), (2, .int (iI ((8 * wi) + (wM wi)))), (0, .ref 530), (1, .int (iI wi))], [.int (iI (bI ((o 5) = 0)))], S) _
            refine T_bif_ne xr_158_81 (t := 85) (pc' := 84) rfl rfl (fun c2044 => ?_) (fun c2044 => ?_)
            · skip
              have c2044 : ((o 5) = 0) := c2044
              have hmay : so c = 95 ∧ (d 3 0 < 8 ∧ d 4 0 < 4 ∧ ¬ X_hl d q (d 3 0 - 1)) := ⟨by omega, by omega, by omega, fun z => by first | exact absurd ((hq (by omega)).trans z.2.2) (by assumption) | (have := z.1; omega)⟩
              refine T_p xr_158_85 xn_158 (pc' := 86) (ls' := [(3, .int (iI 1)), (2, .int (iI ((8 * wi) + (wM wi)))), (0, .ref 530), (1, .int (iI wi))]) (st' := [.ref 530]) rfl ?_
              refine T_get xr_158_86 hM rfl (v := .ref 540) rfl (pc' := 89) rfl ?_
              refine T_p xr_158_89 xn_158 (pc' := 90) (ls' := [(3, .int (iI 1)), (2, .int (iI ((8 * wi) + (wM wi)))), (0, .ref 530), (1, .int (iI wi))]) (st' := [.int (iI wi), .ref 540]) rfl ?_
              refine T_p xr_158_90 xn_158 (pc' := 91) (ls' := [(3, .int (iI 1)), (2, .int (iI ((8 * wi) + (wM wi)))), (0, .ref 530), (1, .int (iI wi))]) (st' := [.int (iI wi), .ref 540, .int (iI wi), .ref 540]) rfl ?_
              refine T_ziald xr_158_91 hA540 (pc' := 92) rfl ?_
              refine T_p xr_158_92 xn_158 (pc' := 93) (ls' := [(3, .int (iI 1)), (2, .int (iI ((8 * wi) + (wM wi)))), (0, .ref 530), (1, .int (iI wi))]) (st' := [.int (iI 1), .int (iI (wM wi)), .int (iI wi), .ref 540]) rfl ?_
              refine T_ziadd xr_158_93 (z := (wM wi) + 1) rfl (pc' := 94) rfl ?_
              refine T_ziast xr_158_94 hA540 (pc' := 95) rfl (fun S2045 h2046 n2047 e2048 => ?_)
              refine T_p xr_158_95 xn_158 (pc' := 96) (ls' := [(3, .int (iI 1)), (2, .int (iI ((8 * wi) + (wM wi)))), (0, .ref 530), (1, .int (iI wi))]) (st' := [.ref 530]) rfl ?_
              have h2049 := (n2047 530 (by decide)).trans (hM)
              refine T_get xr_158_96 h2049 rfl (v := .ref 545) rfl (pc' := 99) rfl ?_
              refine T_p xr_158_99 xn_158 (pc' := 100) (ls' := [(3, .int (iI 1)), (2, .int (iI ((8 * wi) + (wM wi)))), (0, .ref 530), (1, .int (iI wi))]) (st' := [.int (iI ((8 * wi) + (wM wi))), .ref 545]) rfl ?_
              refine T_p xr_158_100 xn_158 (pc' := 101) (ls' := [(3, .int (iI 1)), (2, .int (iI ((8 * wi) + (wM wi)))), (0, .ref 530), (1, .int (iI wi))]) (st' := [.int (iI 1), .int (iI ((8 * wi) + (wM wi))), .ref 545]) rfl ?_
              refine T_zif_eqf xr_158_101 (t := 108) (pc' := 104) rfl rfl (by decide) ?_
              refine T_p xr_158_104 xn_158 (pc' := 105) (ls' := [(3, .int (iI 1)), (2, .int (iI ((8 * wi) + (wM wi)))), (0, .ref 530), (1, .int (iI wi))]) (st' := [.long (0 : Int64), .int (iI ((8 * wi) + (wM wi))), .ref 545]) rfl ?_
              refine T_p xr_158_105 xn_158 (pc' := 112) (ls' := [(3, .int (iI 1)), (2, .int (iI ((8 * wi) + (wM wi)))), (0, .ref 530), (1, .int (iI wi))]) (st' := [.long (0 : Int64), .int (iI ((8 * wi) + (wM wi))), .ref 545]) rfl ?_
              have h2050 := (n2047 545 (by decide)).trans (hA545)
              refine T_zlast xr_158_112 h2050 (pc' := 113) rfl (fun S2051 h2052 n2053 e2054 => ?_)
              refine T_p xr_158_113 xn_158 (pc' := 114) (ls' := [(3, .int (iI 1)), (2, .int (iI ((8 * wi) + (wM wi)))), (0, .ref 530), (1, .int (iI wi))]) (st' := [.ref 530]) rfl ?_
              have h2055 := (n2053 530 (by decide)).trans (h2049)
              refine T_cv (S := S2051) (q := 530) xr_158_114 xf_141.1 xf_141.2.1 xn_141 (as := []) (r := []) rfl h2055 (Nat.le_of_ble_eq_true rfl) (Nat.le_of_ble_eq_true rfl) (pc' := 117) rfl (ls' := [(0, .ref 530)]) rfl ?_
              have h2056 := (n2053 532 (by decide)).trans ((n2047 532 (by decide)).trans (hA532))
              refine T_mono (r_nx sc S2051 o nm tx tb len n so pl ct E c h2055 h2056 (show (o 3) = len from by first | assumption | omega) hl htx hX hT (by omega)) (fun v2057 S2058 h2059 => ?_)
              rcases h2059 with ⟨at2060, en2061, tk2062, nu2063, dg2064, nm2065, hv2066, hp2067, hM2068, hf2069⟩
              rw [hv2066]
              have h2070 : S2058.1 530 = .inr (11, [.ref 531, .int (iI (o 1)), .ref 532, .int (iI (o 3)), .int (iI (o 4)), .int (iI (o 5)), .int (iI (o 6)), .int (iI at2060), .int (iI en2061), .int (iI tk2062), .int (iI nu2063), .int (iI dg2064), .long nm2065, .ref 533, .ref 534, .ref 535, .ref 536, .ref 537, .ref 538, .ref 539, .ref 540, .ref 541, .ref 542, .ref 543, .ref 544, .ref 545, .ref 546, .ref 547, .int (iI (o 28)), .int (iI (o 29)), .int (iI (o 30)), .int (iI (o 31)), .int (iI (o 32)), .int (iI (o 33)), .ref 548, .ref 549, .ref 550, .ref 551, .int (iI (o 38)), .ref 552, .ref 553, .ref 554, .ref 555, .ref 556, .ref 557, .ref 558, .ref 559, .ref 560, .ref 561, .int (iI (o 49)), .ref 562, .ref 563, .ref 564, .ref 565, .ref 566, .ref 567, .ref 568, .ref 569, .int (iI (o 58)), .ref 570, .ref 571, .ref 572, .ref 573, .ref 574, .ref 575, .ref 576, .ref 577, .ref 578, .int (iI (o 68)), .int (iI (o 69)), .int (iI (o 70)), .ref 579]) := hM2068
              obtain ⟨⟨_, _⟩, ⟨_, _⟩, hk2071, ⟨_, _⟩, hk2071e, ⟨_, _⟩, ⟨_, _⟩⟩ := R_tk_f hX hp2067
              show X_T sc 158 (117, [(3, .int (iI 1)), (2, .int (iI ((8 * wi) + (wM wi)))), (0, .ref 530), (1, .int (iI wi))], [], S2058) _
              refine T_p xr_158_117 xn_158 (pc' := 118) (ls' := [(3, .int (iI 1)), (2, .int (iI ((8 * wi) + (wM wi)))), (0, .ref 530), (1, .int (iI wi))]) (st' := [.int (iI 1)]) rfl ?_
              refine T_zif_net xr_158_118 (t := 122) rfl (by decide) ?_
              refine T_p xr_158_122 xn_158 (pc' := 123) (ls' := [(3, .int (iI 1)), (2, .int (iI ((8 * wi) + (wM wi)))), (0, .ref 530), (1, .int (iI wi))]) (st' := [.ref 530]) rfl ?_
              refine T_get xr_158_123 h2070 rfl (v := .ref 546) rfl (pc' := 126) rfl ?_
              refine T_p xr_158_126 xn_158 (pc' := 127) (ls' := [(3, .int (iI 1)), (2, .int (iI ((8 * wi) + (wM wi)))), (0, .ref 530), (1, .int (iI wi))]) (st' := [.int (iI ((8 * wi) + (wM wi))), .ref 546]) rfl ?_
              refine T_p xr_158_127 xn_158 (pc' := 128) (ls' := [(3, .int (iI 1)), (2, .int (iI ((8 * wi) + (wM wi)))), (0, .ref 530), (1, .int (iI wi))]) (st' := [.ref 530, .int (iI ((8 * wi) + (wM wi))), .ref 546]) rfl ?_
              refine T_get xr_158_128 h2070 rfl (v := .ref 541) rfl (pc' := 131) rfl ?_
              refine T_p xr_158_131 xn_158 (pc' := 132) (ls' := [(3, .int (iI 1)), (2, .int (iI ((8 * wi) + (wM wi)))), (0, .ref 530), (1, .int (iI wi))]) (st' := [.int (iI wi), .ref 541, .int (iI ((8 * wi) + (wM wi))), .ref 546]) rfl ?_
              have h2072 := (hf2069.1 541 (by first | decide | omega)).trans ((n2053 541 (by decide)).trans ((n2047 541 (by decide)).trans (hA541)))
              refine T_ziald xr_158_132 h2072 (pc' := 133) rfl ?_
              have h2073 := (hf2069.1 546 (by first | decide | omega)).trans ((n2053 546 (by decide)).trans ((n2047 546 (by decide)).trans (hA546)))
              refine T_ziast xr_158_133 h2073 (pc' := 134) rfl (fun S2074 h2075 n2076 e2077 => ?_)
              refine T_p xr_158_134 xn_158 (pc' := 135) (ls' := [(3, .int (iI 1)), (2, .int (iI ((8 * wi) + (wM wi)))), (0, .ref 530), (1, .int (iI wi))]) (st' := [.ref 530]) rfl ?_
              have h2078 := (n2076 530 (by decide)).trans (h2070)
              refine T_get xr_158_135 h2078 rfl (v := .ref 547) rfl (pc' := 138) rfl ?_
              refine T_p xr_158_138 xn_158 (pc' := 139) (ls' := [(3, .int (iI 1)), (2, .int (iI ((8 * wi) + (wM wi)))), (0, .ref 530), (1, .int (iI wi))]) (st' := [.int (iI 4), .ref 547]) rfl ?_
              refine T_p xr_158_139 xn_158 (pc' := 140) (ls' := [(3, .int (iI 1)), (2, .int (iI ((8 * wi) + (wM wi)))), (0, .ref 530), (1, .int (iI wi))]) (st' := [.int (iI wi), .int (iI 4), .ref 547]) rfl ?_
              refine T_zimul xr_158_140 (z := 4 * wi) rfl (pc' := 141) rfl ?_
              refine T_p xr_158_141 xn_158 (pc' := 142) (ls' := [(3, .int (iI 1)), (2, .int (iI ((8 * wi) + (wM wi)))), (0, .ref 530), (1, .int (iI wi))]) (st' := [.ref 530, .int (iI (4 * wi)), .ref 547]) rfl ?_
              refine T_get xr_158_142 h2078 rfl (v := .ref 541) rfl (pc' := 145) rfl ?_
              refine T_p xr_158_145 xn_158 (pc' := 146) (ls' := [(3, .int (iI 1)), (2, .int (iI ((8 * wi) + (wM wi)))), (0, .ref 530), (1, .int (iI wi))]) (st' := [.int (iI wi), .ref 541, .int (iI (4 * wi)), .ref 547]) rfl ?_
              have h2079 := (n2076 541 (by decide)).trans (h2072)
              refine T_ziald xr_158_146 h2079 (pc' := 147) rfl ?_
              refine T_ziadd xr_158_147 (z := (4 * wi) + (wH wi)) rfl (pc' := 148) rfl ?_
              refine T_p xr_158_148 xn_158 (pc' := 149) (ls' := [(3, .int (iI 1)), (2, .int (iI ((8 * wi) + (wM wi)))), (0, .ref 530), (1, .int (iI wi))]) (st' := [.ref 530, .int (iI ((4 * wi) + (wH wi))), .ref 547]) rfl ?_
              refine T_get xr_158_149 h2078 rfl (v := .int (iI tk2062)) rfl (pc' := 152) rfl ?_
              refine T_p xr_158_152 xn_158 (pc' := 153) (ls' := [(3, .int (iI 1)), (2, .int (iI ((8 * wi) + (wM wi)))), (0, .ref 530), (1, .int (iI wi))]) (st' := [.int (iI 2), .int (iI tk2062), .int (iI ((4 * wi) + (wH wi))), .ref 547]) rfl ?_
              refine T_zicmp_ne xr_158_153 (t := 163) (pc' := 156) rfl rfl (fun c2080 => ?_) (fun c2080 => ?_)
              · skip
                have c2080 : ¬ tk2062 = 2 := c2080
                refine T_p xr_158_163 xn_158 (pc' := 164) (ls' := [(3, .int (iI 1)), (2, .int (iI ((8 * wi) + (wM wi)))), (0, .ref 530), (1, .int (iI wi))]) (st' := [.int (iI 0), .int (iI ((4 * wi) + (wH wi))), .ref 547]) rfl ?_
                have h2081 := (n2076 547 (by decide)).trans ((hf2069.1 547 (by first | decide | omega)).trans ((n2053 547 (by decide)).trans ((n2047 547 (by decide)).trans (hA547))))
                refine T_ziast xr_158_164 h2081 (pc' := 165) rfl (fun S2082 h2083 n2084 e2085 => ?_)
                refine T_p xr_158_165 xn_158 (pc' := 166) (ls' := [(3, .int (iI 1)), (2, .int (iI ((8 * wi) + (wM wi)))), (0, .ref 530), (1, .int (iI wi))]) (st' := [.ref 530]) rfl ?_
                have h2086 := (n2084 530 (by decide)).trans (h2078)
                refine T_get xr_158_166 h2086 rfl (v := .ref 541) rfl (pc' := 169) rfl ?_
                refine T_p xr_158_169 xn_158 (pc' := 170) (ls' := [(3, .int (iI 1)), (2, .int (iI ((8 * wi) + (wM wi)))), (0, .ref 530), (1, .int (iI wi))]) (st' := [.int (iI wi), .ref 541]) rfl ?_
                refine T_p xr_158_170 xn_158 (pc' := 171) (ls' := [(3, .int (iI 1)), (2, .int (iI ((8 * wi) + (wM wi)))), (0, .ref 530), (1, .int (iI wi))]) (st' := [.int (iI wi), .ref 541, .int (iI wi), .ref 541]) rfl ?_
                have h2087 := (n2084 541 (by decide)).trans (h2079)
                refine T_ziald xr_158_171 h2087 (pc' := 172) rfl ?_
                refine T_p xr_158_172 xn_158 (pc' := 173) (ls' := [(3, .int (iI 1)), (2, .int (iI ((8 * wi) + (wM wi)))), (0, .ref 530), (1, .int (iI wi))]) (st' := [.int (iI 1), .int (iI (wH wi)), .int (iI wi), .ref 541]) rfl ?_
                refine T_ziadd xr_158_173 (z := (wH wi) + 1) rfl (pc' := 174) rfl ?_
                refine T_ziast xr_158_174 h2087 (pc' := 175) rfl (fun S2088 h2089 n2090 e2091 => ?_)
                refine T_vret xr_158_175 xf_158.2.2 ?_
                refine hQ _ _ ?_
                have h2092 := (n2090 530 (by decide)).trans (h2086)
                have h2093 := (n2090 540 (by decide)).trans ((n2084 540 (by decide)).trans ((n2076 540 (by decide)).trans ((hf2069.1 540 (by first | decide | omega)).trans ((n2053 540 (by decide)).trans (h2046)))))
                have h2094 := (n2090 545 (by decide)).trans ((n2084 545 (by decide)).trans ((n2076 545 (by decide)).trans ((hf2069.1 545 (by first | decide | omega)).trans (h2052))))
                have h2095 := (n2090 546 (by decide)).trans ((n2084 546 (by decide)).trans (h2075))
                have h2096 := (n2090 547 (by decide)).trans (h2083)
                refine Or.inl ⟨at2060, en2061, tk2062, nu2063, dg2064, nm2065, X_av n c, X_aH d 0, X_ug q (d 3 0) 0, (X_ug wM wi ((wM wi) + 1)), (X_ug wH wi ((wH wi) + 1)), (X_ug eP ((8 * wi) + (wM wi)) (0 : Int64)), (X_ug eH ((8 * wi) + (wM wi)) (wH wi)), (X_ug hK ((4 * wi) + (wH wi)) 0), rfl, hp2067, ?_, R_e_H (by omega) hE (by omega) (by omega) (by omega) (by omega) (by omega), by first | exact R_ob.rf | exact R_ob.rf.up (by omega), by first | exact R_ob.rf | exact R_ob.rf.up (by omega), by first | exact R_ob.rf | exact R_ob.rf.up (by omega), by first | exact R_ob.rf | exact R_ob.rf.up (by omega), by first | exact R_ob.rf | exact R_ob.rf.up (by omega), h2092, h2093, h2089, h2094, h2095, h2096, ((((((X_Fr.rf).tr (X_Fr.of n2047 e2048 (by first | decide | exact ⟨Nat.le_add_right _ _, Nat.add_le_add_left (by decide) _⟩ | omega))).tr (X_Fr.of n2053 e2054 (by first | decide | exact ⟨Nat.le_add_right _ _, Nat.add_le_add_left (by decide) _⟩ | omega))).tr (X_Fr.mono ⟨hf2069.1, hf2069.2⟩ (fun q hq => by first | exact hq | (rcases hq with rfl <;> decide) | (rcases hq with rfl | rfl <;> decide) | (rcases hq with rfl | rfl | rfl <;> decide) | (rcases hq with rfl | rfl | rfl | rfl <;> decide) | (rcases hq with rfl | rfl | rfl | rfl | rfl <;> decide) | (rcases hq with rfl | rfl | rfl | rfl | rfl | rfl <;> decide) | (rcases hq with rfl | rfl | rfl | rfl | rfl | rfl | rfl <;> decide) | omega))).tr (X_Fr.of n2076 e2077 (by first | decide | exact ⟨Nat.le_add_right _ _, Nat.add_le_add_left (by decide) _⟩ | omega))).tr (X_Fr.of n2084 e2085 (by first | decide | exact ⟨Nat.le_add_right _ _, Nat.add_le_add_left (by decide) _⟩ | omega))).tr (X_Fr.of n2090 e2091 (by first | decide | exact ⟨Nat.le_add_right _ _, Nat.add_le_add_left (by decide) _⟩ | omega))⟩
                · unfold sp_e1
                  (repeat (first | rw [if_pos hmay] | rw [if_pos (by assumption)] | rw [if_neg (by assumption)] | rw [if_neg (by omega)] | rw [if_pos (by omega)] | rw [if_neg (by rintro ⟨h1, h2, h3, h4⟩; first | omega | exact h4 ⟨by omega, by omega, (hq (by omega)).symm.trans (by first | assumption | exact Classical.not_not.mp (by assumption))⟩)]))
                  all_goals first | rfl | ((repeat' split) <;> first | rfl | (exfalso; omega) | contradiction)
              · skip
                have c2080 : ¬ (¬ tk2062 = 2) := c2080
                refine T_p xr_158_156 xn_158 (pc' := 157) (ls' := [(3, .int (iI 1)), (2, .int (iI ((8 * wi) + (wM wi)))), (0, .ref 530), (1, .int (iI wi))]) (st' := [.ref 530, .int (iI ((4 * wi) + (wH wi))), .ref 547]) rfl ?_
                refine T_cv (S := S2074) (q := 530) xr_158_157 xf_152.1 xf_152.2.1 xn_152 (as := []) (r := [.int (iI ((4 * wi) + (wH wi))), .ref 547]) rfl h2078 (Nat.le_of_ble_eq_true rfl) (Nat.le_of_ble_eq_true rfl) (pc' := 160) rfl (ls' := [(0, .ref 530)]) rfl ?_
                have h2097 := (n2076 532 (by decide)).trans ((hf2069.1 532 (by first | decide | omega)).trans (h2056))
                have h2098 := (n2076 534 (by decide)).trans ((hf2069.1 534 (by first | decide | omega)).trans ((n2053 534 (by decide)).trans ((n2047 534 (by decide)).trans (hA534))))
                refine T_mono (r_aKind sc S2074 (X_ou (X_ou (X_ou (X_ou (X_ou o 7 at2060) 8 en2061) 9 tk2062) 10 nu2063) 11 dg2064) nm2065 tx kN tb len n so pl ct E (X_av n c) kn kc h2078 h2097 h2098 (show (o 3) = len from by first | assumption | omega) hl htx hX hp2067 (show (o 5) = 0 from by omega) (show (o 29) = kc from by omega) (by omega) (show 0 ≤ (o 4) ∧ (o 4) ≤ 1 from by omega) hN) (fun v2099 S2100 h2101 => ?_)
                rcases h2101 with ⟨at2102, en2103, tk2104, nu2105, dg2106, nm2107, hv2108, hp2109, hp2110, hp2111, hM2112, hf2113⟩ | ⟨r2114, f2115, g2116, hv2117, hp2118, hp2119, hp2120, hM2121, hf2122⟩
                · skip
                  rw [hv2108]
                  have h2123 : S2100.1 530 = .inr (11, [.ref 531, .int (iI (o 1)), .ref 532, .int (iI (o 3)), .int (iI (o 4)), .int (iI (o 5)), .int (iI (o 6)), .int (iI at2102), .int (iI en2103), .int (iI tk2104), .int (iI nu2105), .int (iI dg2106), .long nm2107, .ref 533, .ref 534, .ref 535, .ref 536, .ref 537, .ref 538, .ref 539, .ref 540, .ref 541, .ref 542, .ref 543, .ref 544, .ref 545, .ref 546, .ref 547, .int (iI (o 28)), .int (iI (o 29)), .int (iI (o 30)), .int (iI (o 31)), .int (iI (o 32)), .int (iI (o 33)), .ref 548, .ref 549, .ref 550, .ref 551, .int (iI (o 38)), .ref 552, .ref 553, .ref 554, .ref 555, .ref 556, .ref 557, .ref 558, .ref 559, .ref 560, .ref 561, .int (iI (o 49)), .ref 562, .ref 563, .ref 564, .ref 565, .ref 566, .ref 567, .ref 568, .ref 569, .int (iI (o 58)), .ref 570, .ref 571, .ref 572, .ref 573, .ref 574, .ref 575, .ref 576, .ref 577, .ref 578, .int (iI (o 68)), .int (iI (o 69)), .int (iI (o 70)), .ref 579]) := hM2112
                  obtain ⟨⟨_, _⟩, ⟨_, _⟩, hk2124, ⟨_, _⟩, hk2124e, ⟨_, _⟩, ⟨_, _⟩⟩ := R_tk_f hX hp2109
                  show X_T sc 158 (160, [(3, .int (iI 1)), (2, .int (iI ((8 * wi) + (wM wi)))), (0, .ref 530), (1, .int (iI wi))], [.int (iI (X_ix kn kc (ct (X_av n c)))), .int (iI ((4 * wi) + (wH wi))), .ref 547], S2100) _
                  refine T_p xr_158_160 xn_158 (pc' := 164) (ls' := [(3, .int (iI 1)), (2, .int (iI ((8 * wi) + (wM wi)))), (0, .ref 530), (1, .int (iI wi))]) (st' := [.int (iI (X_ix kn kc (ct (X_av n c)))), .int (iI ((4 * wi) + (wH wi))), .ref 547]) rfl ?_
                  have h2126 := (hf2113.1 547 (by first | decide | omega)).trans ((n2076 547 (by decide)).trans ((hf2069.1 547 (by first | decide | omega)).trans ((n2053 547 (by decide)).trans ((n2047 547 (by decide)).trans (hA547)))))
                  refine T_ziast xr_158_164 h2126 (pc' := 165) rfl (fun S2127 h2128 n2129 e2130 => ?_)
                  refine T_p xr_158_165 xn_158 (pc' := 166) (ls' := [(3, .int (iI 1)), (2, .int (iI ((8 * wi) + (wM wi)))), (0, .ref 530), (1, .int (iI wi))]) (st' := [.ref 530]) rfl ?_
                  have h2131 := (n2129 530 (by decide)).trans (h2123)
                  refine T_get xr_158_166 h2131 rfl (v := .ref 541) rfl (pc' := 169) rfl ?_
                  refine T_p xr_158_169 xn_158 (pc' := 170) (ls' := [(3, .int (iI 1)), (2, .int (iI ((8 * wi) + (wM wi)))), (0, .ref 530), (1, .int (iI wi))]) (st' := [.int (iI wi), .ref 541]) rfl ?_
                  refine T_p xr_158_170 xn_158 (pc' := 171) (ls' := [(3, .int (iI 1)), (2, .int (iI ((8 * wi) + (wM wi)))), (0, .ref 530), (1, .int (iI wi))]) (st' := [.int (iI wi), .ref 541, .int (iI wi), .ref 541]) rfl ?_
                  have h2132 := (n2129 541 (by decide)).trans ((hf2113.1 541 (by first | decide | omega)).trans (h2079))
                  refine T_ziald xr_158_171 h2132 (pc' := 172) rfl ?_
                  refine T_p xr_158_172 xn_158 (pc' := 173) (ls' := [(3, .int (iI 1)), (2, .int (iI ((8 * wi) + (wM wi)))), (0, .ref 530), (1, .int (iI wi))]) (st' := [.int (iI 1), .int (iI (wH wi)), .int (iI wi), .ref 541]) rfl ?_
                  refine T_ziadd xr_158_173 (z := (wH wi) + 1) rfl (pc' := 174) rfl ?_
                  refine T_ziast xr_158_174 h2132 (pc' := 175) rfl (fun S2133 h2134 n2135 e2136 => ?_)
                  refine T_vret xr_158_175 xf_158.2.2 ?_
                  refine hQ _ _ ?_
                  have h2137 := (n2135 530 (by decide)).trans (h2131)
                  have h2138 := (n2135 540 (by decide)).trans ((n2129 540 (by decide)).trans ((hf2113.1 540 (by first | decide | omega)).trans ((n2076 540 (by decide)).trans ((hf2069.1 540 (by first | decide | omega)).trans ((n2053 540 (by decide)).trans (h2046))))))
                  have h2139 := (n2135 545 (by decide)).trans ((n2129 545 (by decide)).trans ((hf2113.1 545 (by first | decide | omega)).trans ((n2076 545 (by decide)).trans ((hf2069.1 545 (by first | decide | omega)).trans (h2052)))))
                  have h2140 := (n2135 546 (by decide)).trans ((n2129 546 (by decide)).trans ((hf2113.1 546 (by first | decide | omega)).trans (h2075)))
                  have h2141 := (n2135 547 (by decide)).trans (h2128)
                  refine Or.inl ⟨at2102, en2103, tk2104, nu2105, dg2106, nm2107, X_av n (X_av n c), X_aH d (X_ix kn kc (ct (X_av n c))), X_ug q (d 3 0) 0, (X_ug wM wi ((wM wi) + 1)), (X_ug wH wi ((wH wi) + 1)), (X_ug eP ((8 * wi) + (wM wi)) (0 : Int64)), (X_ug eH ((8 * wi) + (wM wi)) (wH wi)), (X_ug hK ((4 * wi) + (wH wi)) (X_ix kn kc (ct (X_av n c)))), rfl, hp2109, ?_, R_e_H (by omega) hE (by omega) (by omega) (by omega) (by omega) (by omega), by first | exact R_ob.rf | exact R_ob.rf.up (by omega), by first | exact R_ob.rf | exact R_ob.rf.up (by omega), by first | exact R_ob.rf | exact R_ob.rf.up (by omega), by first | exact R_ob.rf | exact R_ob.rf.up (by omega), by first | exact R_ob.rf | exact R_ob.rf.up (by omega), h2137, h2138, h2134, h2139, h2140, h2141, (((((((X_Fr.rf).tr (X_Fr.of n2047 e2048 (by first | decide | exact ⟨Nat.le_add_right _ _, Nat.add_le_add_left (by decide) _⟩ | omega))).tr (X_Fr.of n2053 e2054 (by first | decide | exact ⟨Nat.le_add_right _ _, Nat.add_le_add_left (by decide) _⟩ | omega))).tr (X_Fr.mono ⟨hf2069.1, hf2069.2⟩ (fun q hq => by first | exact hq | (rcases hq with rfl <;> decide) | (rcases hq with rfl | rfl <;> decide) | (rcases hq with rfl | rfl | rfl <;> decide) | (rcases hq with rfl | rfl | rfl | rfl <;> decide) | (rcases hq with rfl | rfl | rfl | rfl | rfl <;> decide) | (rcases hq with rfl | rfl | rfl | rfl | rfl | rfl <;> decide) | (rcases hq with rfl | rfl | rfl | rfl | rfl | rfl | rfl <;> decide) | omega))).tr (X_Fr.of n2076 e2077 (by first | decide | exact ⟨Nat.le_add_right _ _, Nat.add_le_add_left (by decide) _⟩ | omega))).tr (X_Fr.mono ⟨hf2113.1, hf2113.2⟩ (fun q hq => by first | exact hq | (rcases hq with rfl <;> decide) | (rcases hq with rfl | rfl <;> decide) | (rcases hq with rfl | rfl | rfl <;> decide) | (rcases hq with rfl | rfl | rfl | rfl <;> decide) | (rcases hq with rfl | rfl | rfl | rfl | rfl <;> decide) | (rcases hq with rfl | rfl | rfl | rfl | rfl | rfl <;> decide) | (rcases hq with rfl | rfl | rfl | rfl | rfl | rfl | rfl <;> decide) | omega))).tr (X_Fr.of n2129 e2130 (by first | decide | exact ⟨Nat.le_add_right _ _, Nat.add_le_add_left (by decide) _⟩ | omega))).tr (X_Fr.of n2135 e2136 (by first | decide | exact ⟨Nat.le_add_right _ _, Nat.add_le_add_left (by decide) _⟩ | omega))⟩
                  · unfold sp_e1
                    (repeat (first | rw [if_pos hmay] | rw [if_pos (by assumption)] | rw [if_neg (by assumption)] | rw [if_neg (by omega)] | rw [if_pos (by omega)] | rw [if_neg (by rintro ⟨h1, h2, h3, h4⟩; first | omega | exact h4 ⟨by omega, by omega, (hq (by omega)).symm.trans (by first | assumption | exact Classical.not_not.mp (by assumption))⟩)]))
                    all_goals first | rfl | ((repeat' split) <;> first | rfl | (exfalso; omega) | contradiction)
                · skip
                  rw [hv2117]
                  have h2125 : S2100.1 530 = .inr (11, [.ref 531, .int (iI (o 1)), .ref 532, .int (iI (o 3)), .int (iI (o 4)), .int (iI f2115), .int (iI g2116), .int (iI at2060), .int (iI en2061), .int (iI tk2062), .int (iI nu2063), .int (iI dg2064), .long nm2065, .ref 533, .ref 534, .ref 535, .ref 536, .ref 537, .ref 538, .ref 539, .ref 540, .ref 541, .ref 542, .ref 543, .ref 544, .ref 545, .ref 546, .ref 547, .int (iI (o 28)), .int (iI (o 29)), .int (iI (o 30)), .int (iI (o 31)), .int (iI (o 32)), .int (iI (o 33)), .ref 548, .ref 549, .ref 550, .ref 551, .int (iI (o 38)), .ref 552, .ref 553, .ref 554, .ref 555, .ref 556, .ref 557, .ref 558, .ref 559, .ref 560, .ref 561, .int (iI (o 49)), .ref 562, .ref 563, .ref 564, .ref 565, .ref 566, .ref 567, .ref 568, .ref 569, .int (iI (o 58)), .ref 570, .ref 571, .ref 572, .ref 573, .ref 574, .ref 575, .ref 576, .ref 577, .ref 578, .int (iI (o 68)), .int (iI (o 69)), .int (iI (o 70)), .ref 579]) := hM2121
                  show X_T sc 158 (160, [(3, .int (iI 1)), (2, .int (iI ((8 * wi) + (wM wi)))), (0, .ref 530), (1, .int (iI wi))], [.int (iI r2114), .int (iI ((4 * wi) + (wH wi))), .ref 547], S2100) _
                  refine T_p xr_158_160 xn_158 (pc' := 164) (ls' := [(3, .int (iI 1)), (2, .int (iI ((8 * wi) + (wM wi)))), (0, .ref 530), (1, .int (iI wi))]) (st' := [.int (iI r2114), .int (iI ((4 * wi) + (wH wi))), .ref 547]) rfl ?_
                  have h2142 := (hf2122.1 547 (by first | decide | omega)).trans ((n2076 547 (by decide)).trans ((hf2069.1 547 (by first | decide | omega)).trans ((n2053 547 (by decide)).trans ((n2047 547 (by decide)).trans (hA547)))))
                  refine T_ziast xr_158_164 h2142 (pc' := 165) rfl (fun S2143 h2144 n2145 e2146 => ?_)
                  refine T_p xr_158_165 xn_158 (pc' := 166) (ls' := [(3, .int (iI 1)), (2, .int (iI ((8 * wi) + (wM wi)))), (0, .ref 530), (1, .int (iI wi))]) (st' := [.ref 530]) rfl ?_
                  have h2147 := (n2145 530 (by decide)).trans (h2125)
                  refine T_get xr_158_166 h2147 rfl (v := .ref 541) rfl (pc' := 169) rfl ?_
                  refine T_p xr_158_169 xn_158 (pc' := 170) (ls' := [(3, .int (iI 1)), (2, .int (iI ((8 * wi) + (wM wi)))), (0, .ref 530), (1, .int (iI wi))]) (st' := [.int (iI wi), .ref 541]) rfl ?_
                  refine T_p xr_158_170 xn_158 (pc' := 171) (ls' := [(3, .int (iI 1)), (2, .int (iI ((8 * wi) + (wM wi)))), (0, .ref 530), (1, .int (iI wi))]) (st' := [.int (iI wi), .ref 541, .int (iI wi), .ref 541]) rfl ?_
                  have h2148 := (n2145 541 (by decide)).trans ((hf2122.1 541 (by first | decide | omega)).trans (h2079))
                  refine T_ziald xr_158_171 h2148 (pc' := 172) rfl ?_
                  refine T_p xr_158_172 xn_158 (pc' := 173) (ls' := [(3, .int (iI 1)), (2, .int (iI ((8 * wi) + (wM wi)))), (0, .ref 530), (1, .int (iI wi))]) (st' := [.int (iI 1), .int (iI (wH wi)), .int (iI wi), .ref 541]) rfl ?_
                  refine T_ziadd xr_158_173 (z := (wH wi) + 1) rfl (pc' := 174) rfl ?_
                  refine T_ziast xr_158_174 h2148 (pc' := 175) rfl (fun S2149 h2150 n2151 e2152 => ?_)
                  refine T_vret xr_158_175 xf_158.2.2 ?_
                  refine hQ _ _ ?_
                  have h2153 := (n2151 530 (by decide)).trans (h2147)
                  have h2154 := (n2151 540 (by decide)).trans ((n2145 540 (by decide)).trans ((hf2122.1 540 (by first | decide | omega)).trans ((n2076 540 (by decide)).trans ((hf2069.1 540 (by first | decide | omega)).trans ((n2053 540 (by decide)).trans (h2046))))))
                  have h2155 := (n2151 545 (by decide)).trans ((n2145 545 (by decide)).trans ((hf2122.1 545 (by first | decide | omega)).trans ((n2076 545 (by decide)).trans ((hf2069.1 545 (by first | decide | omega)).trans (h2052)))))
                  have h2156 := (n2151 546 (by decide)).trans ((n2145 546 (by decide)).trans ((hf2122.1 546 (by first | decide | omega)).trans (h2075)))
                  have h2157 := (n2151 547 (by decide)).trans (h2144)
                  refine Or.inr ⟨at2060, en2061, tk2062, nu2063, dg2064, nm2065, f2115, g2116, (X_ug wM wi ((wM wi) + 1)), (X_ug wH wi ((wH wi) + 1)), (X_ug eP ((8 * wi) + (wM wi)) (0 : Int64)), (X_ug eH ((8 * wi) + (wM wi)) (wH wi)), (X_ug hK ((4 * wi) + (wH wi)) r2114), rfl, by omega, ?_, by first | exact R_ob.rf | exact R_ob.rf.up (by omega), by first | exact R_ob.rf | exact R_ob.rf.up (by omega), by first | exact R_ob.rf | exact R_ob.rf.up (by omega), by first | exact R_ob.rf | exact R_ob.rf.up (by omega), by first | exact R_ob.rf | exact R_ob.rf.up (by omega), h2153, h2154, h2150, h2155, h2156, h2157, (((((((X_Fr.rf).tr (X_Fr.of n2047 e2048 (by first | decide | exact ⟨Nat.le_add_right _ _, Nat.add_le_add_left (by decide) _⟩ | omega))).tr (X_Fr.of n2053 e2054 (by first | decide | exact ⟨Nat.le_add_right _ _, Nat.add_le_add_left (by decide) _⟩ | omega))).tr (X_Fr.mono ⟨hf2069.1, hf2069.2⟩ (fun q hq => by first | exact hq | (rcases hq with rfl <;> decide) | (rcases hq with rfl | rfl <;> decide) | (rcases hq with rfl | rfl | rfl <;> decide) | (rcases hq with rfl | rfl | rfl | rfl <;> decide) | (rcases hq with rfl | rfl | rfl | rfl | rfl <;> decide) | (rcases hq with rfl | rfl | rfl | rfl | rfl | rfl <;> decide) | (rcases hq with rfl | rfl | rfl | rfl | rfl | rfl | rfl <;> decide) | omega))).tr (X_Fr.of n2076 e2077 (by first | decide | exact ⟨Nat.le_add_right _ _, Nat.add_le_add_left (by decide) _⟩ | omega))).tr (X_Fr.mono ⟨hf2122.1, hf2122.2⟩ (fun q hq => by first | exact hq | (rcases hq with rfl <;> decide) | (rcases hq with rfl | rfl <;> decide) | (rcases hq with rfl | rfl | rfl <;> decide) | (rcases hq with rfl | rfl | rfl | rfl <;> decide) | (rcases hq with rfl | rfl | rfl | rfl | rfl <;> decide) | (rcases hq with rfl | rfl | rfl | rfl | rfl | rfl <;> decide) | (rcases hq with rfl | rfl | rfl | rfl | rfl | rfl | rfl <;> decide) | omega))).tr (X_Fr.of n2145 e2146 (by first | decide | exact ⟨Nat.le_add_right _ _, Nat.add_le_add_left (by decide) _⟩ | omega))).tr (X_Fr.of n2151 e2152 (by first | decide | exact ⟨Nat.le_add_right _ _, Nat.add_le_add_left (by decide) _⟩ | omega))⟩
                  · unfold sp_e1
                    (repeat (first | rw [if_pos hmay] | rw [if_pos (by assumption)] | rw [if_neg (by assumption)] | rw [if_neg (by omega)] | rw [if_pos (by omega)] | rw [if_neg (by rintro ⟨h1, h2, h3, h4⟩; first | omega | exact h4 ⟨by omega, by omega, (hq (by omega)).symm.trans (by first | assumption | exact Classical.not_not.mp (by assumption))⟩)]))
                    all_goals first | rfl | ((repeat' split) <;> first | rfl | (exfalso; omega) | contradiction)
            · skip
              have c2044 : ¬ ((o 5) = 0) := c2044
              exact (show False by first | contradiction | omega).elim
          · skip
            have c2038 : ¬ (¬ (eP (((8 * wi) + (wM wi)) - 1)) = (0 : Int64)) := c2038
            refine T_p xr_158_73 xn_158 (pc' := 74) (ls' := [(3, .int (iI 1)), (2, .int (iI ((8 * wi) + (wM wi)))), (0, .ref 530), (1, .int (iI wi))]) (st' := [.ref 530]) rfl ?_
            refine T_cv (S := S) (q := 530) xr_158_74 xf_147.1 xf_147.2.1 xn_147 (as := []) (r := []) rfl hM (Nat.le_of_ble_eq_true rfl) (Nat.le_of_ble_eq_true rfl) (pc' := 77) rfl (ls' := [(0, .ref 530)]) rfl ?_
            refine T_mono (r_wrong sc S o nm tx tb len n so pl ct E c hM hA532 (show (o 3) = len from by first | assumption | omega) hl htx hX hT (show 0 ≤ (o 5) ∧ (o 5) ≤ 5 from by omega)) (fun v2158 S2159 h2160 => ?_)
            rcases h2160 with ⟨f2161, g2162, hv2163, hp2164, hM2165, hf2166⟩
            rw [hv2163]
            have h2167 : S2159.1 530 = .inr (11, [.ref 531, .int (iI (o 1)), .ref 532, .int (iI (o 3)), .int (iI (o 4)), .int (iI f2161), .int (iI g2162), .int (iI (o 7)), .int (iI (o 8)), .int (iI (o 9)), .int (iI (o 10)), .int (iI (o 11)), .long nm, .ref 533, .ref 534, .ref 535, .ref 536, .ref 537, .ref 538, .ref 539, .ref 540, .ref 541, .ref 542, .ref 543, .ref 544, .ref 545, .ref 546, .ref 547, .int (iI (o 28)), .int (iI (o 29)), .int (iI (o 30)), .int (iI (o 31)), .int (iI (o 32)), .int (iI (o 33)), .ref 548, .ref 549, .ref 550, .ref 551, .int (iI (o 38)), .ref 552, .ref 553, .ref 554, .ref 555, .ref 556, .ref 557, .ref 558, .ref 559, .ref 560, .ref 561, .int (iI (o 49)), .ref 562, .ref 563, .ref 564, .ref 565, .ref 566, .ref 567, .ref 568, .ref 569, .int (iI (o 58)), .ref 570, .ref 571, .ref 572, .ref 573, .ref 574, .ref 575, .ref 576, .ref 577, .ref 578, .int (iI (o 68)), .int (iI (o 69)), .int (iI (o 70)), .ref 579]) := hM2165
            show X_T sc 158 (77, [(3, .int (iI 1)), (2, .int (iI ((8 * wi) + (wM wi)))), (0, .ref 530), (1, .int (iI wi))], [], S2159) _
            refine T_p xr_158_77 xn_158 (pc' := 78) (ls' := [(3, .int (iI 1)), (2, .int (iI ((8 * wi) + (wM wi)))), (0, .ref 530), (1, .int (iI wi))]) (st' := [.ref 530]) rfl ?_
            refine T_cv (S := S2159) (q := 530) xr_158_78 xf_140.1 xf_140.2.1 xn_140 (as := []) (r := []) rfl h2167 (Nat.le_of_ble_eq_true rfl) (Nat.le_of_ble_eq_true rfl) (pc' := 81) rfl (ls' := [(0, .ref 530)]) rfl ?_
            refine T_mono (r_isGood sc S2159 (X_ou (X_ou o 5 f2161) 6 g2162) nm h2167 (show 0 ≤ f2161 ∧ f2161 ≤ 5 from by omega)) (fun v2168 S2169 h2170 => ?_)
            rcases h2170 with ⟨hv2171, hf2172⟩
            rw [hv2171]
            rw [hf2172]
            show X_T sc 158 (81, [(3, .int (iI 1)), (2, .int (iI ((8 * wi) + (wM wi)))), (0, .ref 530), (1, .int (iI wi))], [.int (iI (bI (f2161 = 0)))], S2159) _
            refine T_bif_ne xr_158_81 (t := 85) (pc' := 84) rfl rfl (fun c2173 => ?_) (fun c2173 => ?_)
            · skip
              have c2173 : (f2161 = 0) := c2173
              exact (show False by first | contradiction | omega).elim
            · skip
              have c2173 : ¬ (f2161 = 0) := c2173
              refine T_vret xr_158_84 xf_158.2.2 ?_
              refine hQ _ _ ?_
              have h2174 := (hf2166.1 540 (by first | decide | omega)).trans (hA540)
              have h2175 := (hf2166.1 541 (by first | decide | omega)).trans (hA541)
              have h2176 := (hf2166.1 545 (by first | decide | omega)).trans (hA545)
              have h2177 := (hf2166.1 546 (by first | decide | omega)).trans (hA546)
              have h2178 := (hf2166.1 547 (by first | decide | omega)).trans (hA547)
              refine Or.inr ⟨o 7, o 8, o 9, o 10, o 11, nm, f2161, g2162, wM, wH, eP, eH, hK, rfl, by omega, ?_, by first | exact R_ob.rf | exact R_ob.rf.up (by omega), by first | exact R_ob.rf | exact R_ob.rf.up (by omega), by first | exact R_ob.rf | exact R_ob.rf.up (by omega), by first | exact R_ob.rf | exact R_ob.rf.up (by omega), by first | exact R_ob.rf | exact R_ob.rf.up (by omega), h2167, h2174, h2175, h2176, h2177, h2178, (X_Fr.rf).tr (X_Fr.mono ⟨hf2166.1, hf2166.2⟩ (fun q hq => by first | exact hq | (rcases hq with rfl <;> decide) | (rcases hq with rfl | rfl <;> decide) | (rcases hq with rfl | rfl | rfl <;> decide) | (rcases hq with rfl | rfl | rfl | rfl <;> decide) | (rcases hq with rfl | rfl | rfl | rfl | rfl <;> decide) | (rcases hq with rfl | rfl | rfl | rfl | rfl | rfl <;> decide) | (rcases hq with rfl | rfl | rfl | rfl | rfl | rfl | rfl <;> decide) | omega))⟩
              · unfold sp_e1
                (repeat (first | rw [if_pos (by assumption)] | rw [if_neg (by assumption)] | rw [if_neg (by omega)] | rw [if_pos (by omega)] | rw [if_neg (by rintro ⟨h1, h2, h3, h4⟩; first | omega | exact h4 ⟨by omega, by omega, (hq (by omega)).symm.trans (by first | assumption | exact Classical.not_not.mp (by assumption))⟩)]))
                all_goals first | rfl | ((repeat' split) <;> first | rfl | (exfalso; omega) | contradiction)
set_option maxHeartbeats 8000000 in
theorem r_readSteps (sc : X_Sc) (S : X_S) (o : Nat → Int) (nm : Int64) (tx : Int → Int) (wH : Int → Int) (wS : Int → Int) (sO : Int → Int) (sN : Int → Int) (tb : Int → Int) (len : Int) (n : Int) (so : Int → Int) (pl : Int → Int) (ct : Int → Int64) (E : Int → Int) (c : Int) (wi : Int) (d : Nat → Int → Int) (hM : M_o S o nm) (hA532 : S.1 532 = .inl (.byte, 2000, .inl fun k : Nat => iI (tx (k : Int)))) (hA541 : S.1 541 = .inl (.int, 60, .inl fun k : Nat => iI (wH (k : Int)))) (hA542 : S.1 542 = .inl (.int, 60, .inl fun k : Nat => iI (wS (k : Int)))) (hA543 : S.1 543 = .inl (.int, 1800, .inl fun k : Nat => iI (sO (k : Int)))) (hA544 : S.1 544 = .inl (.int, 1800, .inl fun k : Nat => iI (sN (k : Int)))) (hlen : o 3 = len) (hl : 0 ≤ len ∧ len ≤ 2000) (htx : ∀ k, 0 ≤ k → k < len → tx k = tb k) (hX : X_TxE tb len n so pl ct E) (hT : R_tk n so pl ct E c (o 7) (o 8) (o 9) (o 10) (o 11) nm) (h5 : o 5 = 0) (hw : 0 ≤ wi ∧ wi < 60) (hwh : wH wi = d 4 0) (hsz : 0 ≤ d 4 0 ∧ d 4 0 ≤ 4) : X_T sc 159 (0, [(0, .ref 530), (1, .int (iI wi))], [], S) (fun v S' => (∃ (at1 : Int) (en1 : Int) (tk1 : Int) (nu1 : Int) (dg1 : Int) (nm1 : Int64) (g1 : Int) (c2 : Int) (d2 : Nat → Int → Int) (wS1 : Int → Int) (sO1 : Int → Int) (sN1 : Int → Int), v = none ∧ R_tk n so pl ct E c2 at1 en1 tk1 nu1 dg1 nm1 ∧ sp_sl n so ct 30 c (X_wu d 5 (fun _ => 0)) 0 = some (c2, d2, 1) ∧ so c2 = 59 ∧ R_s wi d2 wS1 sO1 sN1 ∧ R_ob 1 wi wS wS1 ∧ R_ob 30 wi sO sO1 ∧ R_ob 30 wi sN sN1 ∧ M_o S' (X_ou (X_ou (X_ou (X_ou (X_ou (X_ou o 7 at1) 8 en1) 9 tk1) 10 nu1) 11 dg1) 6 g1) nm1 ∧ S'.1 542 = .inl (.int, 60, .inl fun k : Nat => iI (wS1 (k : Int))) ∧ S'.1 543 = .inl (.int, 1800, .inl fun k : Nat => iI (sO1 (k : Int))) ∧ S'.1 544 = .inl (.int, 1800, .inl fun k : Nat => iI (sN1 (k : Int))) ∧ (X_Fr (fun q => q = 530 ∨ q = 542 ∨ q = 543 ∨ q = 544) S S')) ∨ (∃ (at1 : Int) (en1 : Int) (tk1 : Int) (nu1 : Int) (dg1 : Int) (nm1 : Int64) (f1 : Int) (g1 : Int) (wS1 : Int → Int) (sO1 : Int → Int) (sN1 : Int → Int), v = none ∧ (1 ≤ f1 ∧ f1 ≤ 5) ∧ (sp_sl n so ct 30 c (X_wu d 5 (fun _ => 0)) 0 = none ∨ ∃ (c2 : Int) (d2 : Nat → Int → Int) (p2 : Int), sp_sl n so ct 30 c (X_wu d 5 (fun _ => 0)) 0 = some (c2, d2, p2) ∧ (¬ so c2 = 59 ∨ ¬ p2 = 1)) ∧ R_ob 1 wi wS wS1 ∧ R_ob 30 wi sO sO1 ∧ R_ob 30 wi sN sN1 ∧ M_o S' (X_ou (X_ou (X_ou (X_ou (X_ou (X_ou (X_ou o 7 at1) 8 en1) 9 tk1) 10 nu1) 11 dg1) 5 f1) 6 g1) nm1 ∧ S'.1 542 = .inl (.int, 60, .inl fun k : Nat => iI (wS1 (k : Int))) ∧ S'.1 543 = .inl (.int, 1800, .inl fun k : Nat => iI (sO1 (k : Int))) ∧ S'.1 544 = .inl (.int, 1800, .inl fun k : Nat => iI (sN1 (k : Int))) ∧ (X_Fr (fun q => q = 530 ∨ q = 542 ∨ q = 543 ∨ q = 544) S S'))) := by
  obtain ⟨⟨hc0, hcn⟩, ⟨hs0, hs1⟩, hk0, ⟨ha0, ha1⟩, hk0e, ⟨_, _⟩, ⟨_, _⟩⟩ := R_tk_f hX hT
  have hn2 := hX.2.1
  refine X_QI (fun Q hQ => ?_)
  refine T_p xr_159_0 xn_159 (pc' := 1) (ls' := [(0, .ref 530), (1, .int (iI wi))]) (st' := [.int (iI 0)]) rfl ?_
  refine T_p xr_159_1 xn_159 (pc' := 2) (ls' := [(2, .int (iI 0)), (0, .ref 530), (1, .int (iI wi))]) (st' := []) rfl ?_
  refine T_p xr_159_2 xn_159 (pc' := 3) (ls' := [(2, .int (iI 0)), (0, .ref 530), (1, .int (iI wi))]) (st' := [.ref 530]) rfl ?_
  refine T_get xr_159_3 hM rfl (v := .ref 542) rfl (pc' := 6) rfl ?_
  refine T_p xr_159_6 xn_159 (pc' := 7) (ls' := [(2, .int (iI 0)), (0, .ref 530), (1, .int (iI wi))]) (st' := [.int (iI wi), .ref 542]) rfl ?_
  refine T_p xr_159_7 xn_159 (pc' := 8) (ls' := [(2, .int (iI 0)), (0, .ref 530), (1, .int (iI wi))]) (st' := [.int (iI 0), .int (iI wi), .ref 542]) rfl ?_
  refine T_ziast xr_159_8 hA542 (pc' := 9) rfl (fun S2179 h2180 n2181 e2182 => ?_)
  have h2188 := (n2181 530 (by decide)).trans (hM)
  have h2189 := (n2181 543 (by decide)).trans (hA543)
  have h2190 := (n2181 544 (by decide)).trans (hA544)
  have L2183 : ∀ (m2185 : Nat) (S2191 : X_S) (f1 : Int) (g1 : Int) (at1 : Int) (en1 : Int) (tk1 : Int) (nu1 : Int) (dg1 : Int) (nm1 : Int64) (c1 : Int) (d1 : Nat → Int → Int) (pile : Int) (wS1 : Int → Int) (sO1 : Int → Int) (sN1 : Int → Int) (hM1 : S2191.1 530 = .inr (11, [.ref 531, .int (iI (o 1)), .ref 532, .int (iI (o 3)), .int (iI (o 4)), .int (iI f1), .int (iI g1), .int (iI at1), .int (iI en1), .int (iI tk1), .int (iI nu1), .int (iI dg1), .long nm1, .ref 533, .ref 534, .ref 535, .ref 536, .ref 537, .ref 538, .ref 539, .ref 540, .ref 541, .ref 542, .ref 543, .ref 544, .ref 545, .ref 546, .ref 547, .int (iI (o 28)), .int (iI (o 29)), .int (iI (o 30)), .int (iI (o 31)), .int (iI (o 32)), .int (iI (o 33)), .ref 548, .ref 549, .ref 550, .ref 551, .int (iI (o 38)), .ref 552, .ref 553, .ref 554, .ref 555, .ref 556, .ref 557, .ref 558, .ref 559, .ref 560, .ref 561, .int (iI (o 49)), .ref 562, .ref 563, .ref 564, .ref 565, .ref 566, .ref 567, .ref 568, .ref 569, .int (iI (o 58)), .ref 570, .ref 571, .ref 572, .ref 573, .ref 574, .ref 575, .ref 576, .ref 577, .ref 578, .int (iI (o 68)), .int (iI (o 69)), .int (iI (o 70)), .ref 579])) (hA1 : S2191.1 542 = .inl (.int, 60, .inl fun k : Nat => iI (wS1 (k : Int)))) (hA2 : S2191.1 543 = .inl (.int, 1800, .inl fun k : Nat => iI (sO1 (k : Int)))) (hA3 : S2191.1 544 = .inl (.int, 1800, .inl fun k : Nat => iI (sN1 (k : Int)))) (hF2187 : X_Fr (fun q => q = 530 ∨ q = 542 ∨ q = 543 ∨ q = 544) S2179 S2191) (hf1 : 0 ≤ f1 ∧ f1 ≤ 5) (hpr : -2 ≤ pile ∧ pile ≤ 17) (hgd : f1 = 0 → R_tk n so pl ct E c1 at1 en1 tk1 nu1 dg1 nm1 ∧ R_s wi d1 wS1 sO1 sN1 ∧ sp_sl n so ct (30 - d1 5 0).toNat c1 d1 pile = sp_sl n so ct 30 c (X_wu d 5 (fun _ => 0)) 0 ∧ (0 ≤ pile ∧ pile ≤ 16) ∧ (0 ≤ d1 5 0 ∧ d1 5 0 ≤ 30) ∧ d1 4 0 = d 4 0) (hbd : ¬ f1 = 0 → sp_sl n so ct 30 c (X_wu d 5 (fun _ => 0)) 0 = none) (hob1 : R_ob 1 wi wS wS1) (hob2 : R_ob 30 wi sO sO1) (hob3 : R_ob 30 wi sN sN1) (hm2186 : (if f1 = 0 then 32 - d1 5 0 else 0) < m2185), X_T sc 159 (9, [(2, .int (iI pile)), (0, .ref 530), (1, .int (iI wi))], [], S2191) Q := by
    intro m2185
    induction m2185 with
    | zero =>
      intro S2191 f1 g1 at1 en1 tk1 nu1 dg1 nm1 c1 d1 pile wS1 sO1 sN1 hM1 hA1 hA2 hA3 hF2187 hf1 hpr hgd hbd hob1 hob2 hob3 hm2186
      exact (show False by omega).elim
    | succ m2185 ih2184 =>
      intro S2191 f1 g1 at1 en1 tk1 nu1 dg1 nm1 c1 d1 pile wS1 sO1 sN1 hM1 hA1 hA2 hA3 hF2187 hf1 hpr hgd hbd hob1 hob2 hob3 hm2186
      refine T_p xr_159_9 xn_159 (pc' := 10) (ls' := [(2, .int (iI pile)), (0, .ref 530), (1, .int (iI wi))]) (st' := [.ref 530]) rfl ?_
      refine T_cv (S := S2191) (q := 530) xr_159_10 xf_140.1 xf_140.2.1 xn_140 (as := []) (r := []) rfl hM1 (Nat.le_of_ble_eq_true rfl) (Nat.le_of_ble_eq_true rfl) (pc' := 13) rfl (ls' := [(0, .ref 530)]) rfl ?_
      refine T_mono (r_isGood sc S2191 (X_ou (X_ou (X_ou (X_ou (X_ou (X_ou (X_ou o 5 f1) 6 g1) 7 at1) 8 en1) 9 tk1) 10 nu1) 11 dg1) nm1 hM1 (show 0 ≤ f1 ∧ f1 ≤ 5 from by omega)) (fun v2192 S2193 h2194 => ?_)
      rcases h2194 with ⟨hv2195, hf2196⟩
      rw [hv2195]
      rw [hf2196]
      show X_T sc 159 (13, [(2, .int (iI pile)), (0, .ref 530), (1, .int (iI wi))], [.int (iI (bI (f1 = 0)))], S2191) _
      refine T_bif_eq xr_159_13 (t := 309) (pc' := 16) rfl rfl (fun c2197 => ?_) (fun c2197 => ?_)
      · skip
        have c2197 : ¬ (f1 = 0) := c2197
        refine T_p xr_159_309 xn_159 (pc' := 310) (ls' := [(2, .int (iI pile)), (0, .ref 530), (1, .int (iI wi))]) (st' := [.ref 530]) rfl ?_
        refine T_cv (S := S2191) (q := 530) xr_159_310 xf_140.1 xf_140.2.1 xn_140 (as := []) (r := []) rfl hM1 (Nat.le_of_ble_eq_true rfl) (Nat.le_of_ble_eq_true rfl) (pc' := 313) rfl (ls' := [(0, .ref 530)]) rfl ?_
        refine T_mono (r_isGood sc S2191 (X_ou (X_ou (X_ou (X_ou (X_ou (X_ou (X_ou o 5 f1) 6 g1) 7 at1) 8 en1) 9 tk1) 10 nu1) 11 dg1) nm1 hM1 (show 0 ≤ f1 ∧ f1 ≤ 5 from by omega)) (fun v2198 S2199 h2200 => ?_)
        rcases h2200 with ⟨hv2201, hf2202⟩
        rw [hv2201]
        rw [hf2202]
        show X_T sc 159 (313, [(2, .int (iI pile)), (0, .ref 530), (1, .int (iI wi))], [.int (iI (bI (f1 = 0)))], S2191) _
        refine T_bif_eq xr_159_313 (t := 330) (pc' := 316) rfl rfl (fun c2203 => ?_) (fun c2203 => ?_)
        · skip
          have c2203 : ¬ (f1 = 0) := c2203
          refine T_vret xr_159_330 xf_159.2.2 ?_
          refine hQ _ _ ?_
          refine Or.inr ⟨at1, en1, tk1, nu1, dg1, nm1, f1, g1, wS1, sO1, sN1, rfl, by omega, ?_, by first | exact hob1 | exact hob1.up (by omega) | exact (hob1.up (by omega)).up (by omega), by first | exact hob2 | exact hob2.up (by omega) | exact (hob2.up (by omega)).up (by omega), by first | exact hob3 | exact hob3.up (by omega) | exact (hob3.up (by omega)).up (by omega), hM1, hA1, hA2, hA3, ((X_Fr.rf).tr (X_Fr.of n2181 e2182 (by first | decide | exact ⟨Nat.le_add_right _ _, Nat.add_le_add_left (by decide) _⟩ | omega))).tr (X_Fr.mono ⟨hF2187.1, hF2187.2⟩ (fun q hq => by first | exact hq | (rcases hq with rfl <;> decide) | (rcases hq with rfl | rfl <;> decide) | (rcases hq with rfl | rfl | rfl <;> decide) | (rcases hq with rfl | rfl | rfl | rfl <;> decide) | (rcases hq with rfl | rfl | rfl | rfl | rfl <;> decide) | (rcases hq with rfl | rfl | rfl | rfl | rfl | rfl <;> decide) | (rcases hq with rfl | rfl | rfl | rfl | rfl | rfl | rfl <;> decide) | omega))⟩
          have e := hbd (by omega)
          exact Or.inl e
        · skip
          have c2203 : (f1 = 0) := c2203
          exact (show False by first | contradiction | omega).elim
      · skip
        have c2197 : (f1 = 0) := c2197
        obtain rfl : f1 = 0 := by omega
        obtain ⟨hT1, hS1, hR, hp16, hd1, hd4⟩ := hgd rfl
        obtain ⟨⟨_, _⟩, ⟨_, _⟩, hk1, ⟨_, _⟩, hk1e, ⟨_, _⟩, ⟨_, _⟩⟩ := R_tk_f hX hT1
        have hS1a := hS1.1
        have hM2204 : S2191.1 530 = .inr (11, [.ref 531, .int (iI (o 1)), .ref 532, .int (iI (o 3)), .int (iI (o 4)), .int (iI (o 5)), .int (iI g1), .int (iI at1), .int (iI en1), .int (iI tk1), .int (iI nu1), .int (iI dg1), .long nm1, .ref 533, .ref 534, .ref 535, .ref 536, .ref 537, .ref 538, .ref 539, .ref 540, .ref 541, .ref 542, .ref 543, .ref 544, .ref 545, .ref 546, .ref 547, .int (iI (o 28)), .int (iI (o 29)), .int (iI (o 30)), .int (iI (o 31)), .int (iI (o 32)), .int (iI (o 33)), .ref 548, .ref 549, .ref 550, .ref 551, .int (iI (o 38)), .ref 552, .ref 553, .ref 554, .ref 555, .ref 556, .ref 557, .ref 558, .ref 559, .ref 560, .ref 561, .int (iI (o 49)), .ref 562, .ref 563, .ref 564, .ref 565, .ref 566, .ref 567, .ref 568, .ref 569, .int (iI (o 58)), .ref 570, .ref 571, .ref 572, .ref 573, .ref 574, .ref 575, .ref 576, .ref 577, .ref 578, .int (iI (o 68)), .int (iI (o 69)), .int (iI (o 70)), .ref 579]) := by rw [h5]; exact hM1
        refine T_p xr_159_16 xn_159 (pc' := 17) (ls' := [(2, .int (iI pile)), (0, .ref 530), (1, .int (iI wi))]) (st' := [.ref 530]) rfl ?_
        refine T_p xr_159_17 xn_159 (pc' := 19) (ls' := [(2, .int (iI pile)), (0, .ref 530), (1, .int (iI wi))]) (st' := [.int (iI 59), .ref 530]) rfl ?_
        refine T_cv (S := S2191) (q := 530) xr_159_19 xf_145.1 xf_145.2.1 xn_145 (as := [.int (iI 59)]) (r := []) rfl hM2204 (Nat.le_of_ble_eq_true rfl) (Nat.le_of_ble_eq_true rfl) (pc' := 22) rfl (ls' := [(0, .ref 530), (1, .int (iI 59))]) rfl ?_
        have h2205 := (hF2187.1 532 (by first | decide | omega)).trans ((n2181 532 (by decide)).trans (hA532))
        refine T_mono (r_is sc S2191 (X_ou (X_ou (X_ou (X_ou (X_ou (X_ou o 6 g1) 7 at1) 8 en1) 9 tk1) 10 nu1) 11 dg1) nm1 tx tb len n so pl ct E c1 59 hM2204 h2205 (show (o 3) = len from by first | assumption | omega) hl htx hX hT1 (by omega)) (fun v2206 S2207 h2208 => ?_)
        rcases h2208 with ⟨hv2209, hf2210⟩
        rw [hv2209]
        rw [hf2210]
        show X_T sc 159 (22, [(2, .int (iI pile)), (0, .ref 530), (1, .int (iI wi))], [.int (iI (bI (so c1 = 59)))], S2191) _
        refine T_bif_ne xr_159_22 (t := 309) (pc' := 25) rfl rfl (fun c2211 => ?_) (fun c2211 => ?_)
        · skip
          have c2211 : (so c1 = 59) := c2211
          refine T_p xr_159_309 xn_159 (pc' := 310) (ls' := [(2, .int (iI pile)), (0, .ref 530), (1, .int (iI wi))]) (st' := [.ref 530]) rfl ?_
          refine T_cv (S := S2191) (q := 530) xr_159_310 xf_140.1 xf_140.2.1 xn_140 (as := []) (r := []) rfl hM2204 (Nat.le_of_ble_eq_true rfl) (Nat.le_of_ble_eq_true rfl) (pc' := 313) rfl (ls' := [(0, .ref 530)]) rfl ?_
          refine T_mono (r_isGood sc S2191 (X_ou (X_ou (X_ou (X_ou (X_ou (X_ou o 6 g1) 7 at1) 8 en1) 9 tk1) 10 nu1) 11 dg1) nm1 hM2204 (show 0 ≤ (o 5) ∧ (o 5) ≤ 5 from by omega)) (fun v2212 S2213 h2214 => ?_)
          rcases h2214 with ⟨hv2215, hf2216⟩
          rw [hv2215]
          rw [hf2216]
          show X_T sc 159 (313, [(2, .int (iI pile)), (0, .ref 530), (1, .int (iI wi))], [.int (iI (bI ((o 5) = 0)))], S2191) _
          refine T_bif_eq xr_159_313 (t := 330) (pc' := 316) rfl rfl (fun c2217 => ?_) (fun c2217 => ?_)
          · skip
            have c2217 : ¬ ((o 5) = 0) := c2217
            exact (show False by first | contradiction | omega).elim
          · skip
            have c2217 : ((o 5) = 0) := c2217
            refine T_p xr_159_316 xn_159 (pc' := 317) (ls' := [(2, .int (iI pile)), (0, .ref 530), (1, .int (iI wi))]) (st' := [.int (iI pile)]) rfl ?_
            refine T_p xr_159_317 xn_159 (pc' := 318) (ls' := [(2, .int (iI pile)), (0, .ref 530), (1, .int (iI wi))]) (st' := [.int (iI 1), .int (iI pile)]) rfl ?_
            refine T_zicmp_eq xr_159_318 (t := 330) (pc' := 321) rfl rfl (fun c2218 => ?_) (fun c2218 => ?_)
            · skip
              have c2218 : pile = 1 := c2218
              refine T_vret xr_159_330 xf_159.2.2 ?_
              refine hQ _ _ ?_
              refine Or.inl ⟨at1, en1, tk1, nu1, dg1, nm1, g1, c1, d1, wS1, sO1, sN1, rfl, hT1, ?_, by omega, hS1, by first | exact hob1 | exact hob1.up (by omega) | exact (hob1.up (by omega)).up (by omega), by first | exact hob2 | exact hob2.up (by omega) | exact (hob2.up (by omega)).up (by omega), by first | exact hob3 | exact hob3.up (by omega) | exact (hob3.up (by omega)).up (by omega), hM2204, hA1, hA2, hA3, ((X_Fr.rf).tr (X_Fr.of n2181 e2182 (by first | decide | exact ⟨Nat.le_add_right _ _, Nat.add_le_add_left (by decide) _⟩ | omega))).tr (X_Fr.mono ⟨hF2187.1, hF2187.2⟩ (fun q hq => by first | exact hq | (rcases hq with rfl <;> decide) | (rcases hq with rfl | rfl <;> decide) | (rcases hq with rfl | rfl | rfl <;> decide) | (rcases hq with rfl | rfl | rfl | rfl <;> decide) | (rcases hq with rfl | rfl | rfl | rfl | rfl <;> decide) | (rcases hq with rfl | rfl | rfl | rfl | rfl | rfl <;> decide) | (rcases hq with rfl | rfl | rfl | rfl | rfl | rfl | rfl <;> decide) | omega))⟩
              rw [← hR, show (30 - d1 5 0).toNat = (30 - d1 5 0).toNat from rfl]
              rw [show pile = 1 by omega]
              cases (30 - d1 5 0).toNat with
              | zero => rfl
              | succ k => exact if_pos (by omega)
            · skip
              have c2218 : ¬ (pile = 1) := c2218
              refine T_p xr_159_321 xn_159 (pc' := 322) (ls' := [(2, .int (iI pile)), (0, .ref 530), (1, .int (iI wi))]) (st' := [.ref 530]) rfl ?_
              refine T_p xr_159_322 xn_159 (pc' := 323) (ls' := [(2, .int (iI pile)), (0, .ref 530), (1, .int (iI wi))]) (st' := [.int (iI 5), .ref 530]) rfl ?_
              refine T_p xr_159_323 xn_159 (pc' := 324) (ls' := [(2, .int (iI pile)), (0, .ref 530), (1, .int (iI wi))]) (st' := [.ref 530, .int (iI 5), .ref 530]) rfl ?_
              refine T_get xr_159_324 hM2204 rfl (v := .int (iI at1)) rfl (pc' := 327) rfl ?_
              refine T_cv (S := S2191) (q := 530) xr_159_327 xf_139.1 xf_139.2.1 xn_139 (as := [.int (iI 5), .int (iI at1)]) (r := []) rfl hM2204 (Nat.le_of_ble_eq_true rfl) (Nat.le_of_ble_eq_true rfl) (pc' := 330) rfl (ls' := [(0, .ref 530), (1, .int (iI 5)), (2, .int (iI at1))]) rfl ?_
              refine T_mono (r_fails sc S2191 (X_ou (X_ou (X_ou (X_ou (X_ou (X_ou o 6 g1) 7 at1) 8 en1) 9 tk1) 10 nu1) 11 dg1) nm1 5 at1 hM2204 (show 0 ≤ (o 5) ∧ (o 5) ≤ 5 from by omega) (by omega)) (fun v2219 S2220 h2221 => ?_)
              rcases h2221 with ⟨f2222, g2223, hv2224, hp2225, hM2226, hf2227⟩
              rw [hv2224]
              have h2228 : S2220.1 530 = .inr (11, [.ref 531, .int (iI (o 1)), .ref 532, .int (iI (o 3)), .int (iI (o 4)), .int (iI f2222), .int (iI g2223), .int (iI at1), .int (iI en1), .int (iI tk1), .int (iI nu1), .int (iI dg1), .long nm1, .ref 533, .ref 534, .ref 535, .ref 536, .ref 537, .ref 538, .ref 539, .ref 540, .ref 541, .ref 542, .ref 543, .ref 544, .ref 545, .ref 546, .ref 547, .int (iI (o 28)), .int (iI (o 29)), .int (iI (o 30)), .int (iI (o 31)), .int (iI (o 32)), .int (iI (o 33)), .ref 548, .ref 549, .ref 550, .ref 551, .int (iI (o 38)), .ref 552, .ref 553, .ref 554, .ref 555, .ref 556, .ref 557, .ref 558, .ref 559, .ref 560, .ref 561, .int (iI (o 49)), .ref 562, .ref 563, .ref 564, .ref 565, .ref 566, .ref 567, .ref 568, .ref 569, .int (iI (o 58)), .ref 570, .ref 571, .ref 572, .ref 573, .ref 574, .ref 575, .ref 576, .ref 577, .ref 578, .int (iI (o 68)), .int (iI (o 69)), .int (iI (o 70)), .ref 579]) := hM2226
              have hp2225 : ((o 5) = 0 → f2222 = 5) ∧ (¬ (o 5) = 0 → f2222 = (o 5)) := hp2225
              have hf2229 : f2222 = 5 := hp2225.1 h5
              show X_T sc 159 (330, [(2, .int (iI pile)), (0, .ref 530), (1, .int (iI wi))], [], S2220) _
              refine T_vret xr_159_330 xf_159.2.2 ?_
              refine hQ _ _ ?_
              have h2230 := (hf2227.1 542 (by first | decide | omega)).trans (hA1)
              have h2231 := (hf2227.1 543 (by first | decide | omega)).trans (hA2)
              have h2232 := (hf2227.1 544 (by first | decide | omega)).trans (hA3)
              refine Or.inr ⟨at1, en1, tk1, nu1, dg1, nm1, f2222, g2223, wS1, sO1, sN1, rfl, by omega, ?_, by first | exact hob1 | exact hob1.up (by omega) | exact (hob1.up (by omega)).up (by omega), by first | exact hob2 | exact hob2.up (by omega) | exact (hob2.up (by omega)).up (by omega), by first | exact hob3 | exact hob3.up (by omega) | exact (hob3.up (by omega)).up (by omega), h2228, h2230, h2231, h2232, (((X_Fr.rf).tr (X_Fr.of n2181 e2182 (by first | decide | exact ⟨Nat.le_add_right _ _, Nat.add_le_add_left (by decide) _⟩ | omega))).tr (X_Fr.mono ⟨hF2187.1, hF2187.2⟩ (fun q hq => by first | exact hq | (rcases hq with rfl <;> decide) | (rcases hq with rfl | rfl <;> decide) | (rcases hq with rfl | rfl | rfl <;> decide) | (rcases hq with rfl | rfl | rfl | rfl <;> decide) | (rcases hq with rfl | rfl | rfl | rfl | rfl <;> decide) | (rcases hq with rfl | rfl | rfl | rfl | rfl | rfl <;> decide) | (rcases hq with rfl | rfl | rfl | rfl | rfl | rfl | rfl <;> decide) | omega))).tr (X_Fr.mono ⟨hf2227.1, hf2227.2⟩ (fun q hq => by first | exact hq | (rcases hq with rfl <;> decide) | (rcases hq with rfl | rfl <;> decide) | (rcases hq with rfl | rfl | rfl <;> decide) | (rcases hq with rfl | rfl | rfl | rfl <;> decide) | (rcases hq with rfl | rfl | rfl | rfl | rfl <;> decide) | (rcases hq with rfl | rfl | rfl | rfl | rfl | rfl <;> decide) | (rcases hq with rfl | rfl | rfl | rfl | rfl | rfl | rfl <;> decide) | omega))⟩
              refine Or.inr ⟨c1, d1, pile, ?_, Or.inr (by omega)⟩
              rw [← hR]
              cases (30 - d1 5 0).toNat with
              | zero => rfl
              | succ k => exact if_pos (by omega)
        · skip
          have c2211 : ¬ (so c1 = 59) := c2211
          refine T_p xr_159_25 xn_159 (pc' := 26) (ls' := [(2, .int (iI pile)), (0, .ref 530), (1, .int (iI wi))]) (st' := [.ref 530]) rfl ?_
          refine T_get xr_159_26 hM2204 rfl (v := .int (iI at1)) rfl (pc' := 29) rfl ?_
          refine T_p xr_159_29 xn_159 (pc' := 30) (ls' := [(3, .int (iI at1)), (2, .int (iI pile)), (0, .ref 530), (1, .int (iI wi))]) (st' := []) rfl ?_
          refine T_p xr_159_30 xn_159 (pc' := 31) (ls' := [(3, .int (iI at1)), (2, .int (iI pile)), (0, .ref 530), (1, .int (iI wi))]) (st' := [.ref 530]) rfl ?_
          refine T_get xr_159_31 hM2204 rfl (v := .int (iI tk1)) rfl (pc' := 34) rfl ?_
          refine T_p xr_159_34 xn_159 (pc' := 35) (ls' := [(3, .int (iI at1)), (2, .int (iI pile)), (0, .ref 530), (1, .int (iI wi))]) (st' := [.int (iI 4), .int (iI tk1)]) rfl ?_
          refine T_zicmp_ne xr_159_35 (t := 43) (pc' := 38) rfl rfl (fun c2233 => ?_) (fun c2233 => ?_)
          · skip
            have c2233 : ¬ tk1 = 4 := c2233
            refine T_p xr_159_43 xn_159 (pc' := 44) (ls' := [(3, .int (iI at1)), (2, .int (iI pile)), (0, .ref 530), (1, .int (iI wi))]) (st' := [.ref 530]) rfl ?_
            refine T_get xr_159_44 hM2204 rfl (v := .int (iI tk1)) rfl (pc' := 47) rfl ?_
            refine T_p xr_159_47 xn_159 (pc' := 49) (ls' := [(3, .int (iI at1)), (2, .int (iI pile)), (0, .ref 530), (1, .int (iI wi))]) (st' := [.int (iI 6), .int (iI tk1)]) rfl ?_
            refine T_zicmp_ne xr_159_49 (t := 63) (pc' := 52) rfl rfl (fun c2234 => ?_) (fun c2234 => ?_)
            · skip
              have c2234 : ¬ tk1 = 6 := c2234
              refine T_p xr_159_63 xn_159 (pc' := 64) (ls' := [(3, .int (iI at1)), (2, .int (iI pile)), (0, .ref 530), (1, .int (iI wi))]) (st' := [.int (iI 0)]) rfl ?_
              refine T_p xr_159_64 xn_159 (pc' := 66) (ls' := [(4, .int (iI 0)), (3, .int (iI at1)), (2, .int (iI pile)), (0, .ref 530), (1, .int (iI wi))]) (st' := []) rfl ?_
              refine T_p xr_159_66 xn_159 (pc' := 68) (ls' := [(4, .int (iI 0)), (3, .int (iI at1)), (2, .int (iI pile)), (0, .ref 530), (1, .int (iI wi))]) (st' := [.int (iI 0)]) rfl ?_
              refine T_zif_eqt xr_159_68 (t := 103) rfl (by decide) ?_
              refine T_p xr_159_103 xn_159 (pc' := 104) (ls' := [(4, .int (iI 0)), (3, .int (iI at1)), (2, .int (iI pile)), (0, .ref 530), (1, .int (iI wi))]) (st' := [.ref 530]) rfl ?_
              refine T_cv (S := S2191) (q := 530) xr_159_104 xf_147.1 xf_147.2.1 xn_147 (as := []) (r := []) rfl hM2204 (Nat.le_of_ble_eq_true rfl) (Nat.le_of_ble_eq_true rfl) (pc' := 107) rfl (ls' := [(0, .ref 530)]) rfl ?_
              refine T_mono (r_wrong sc S2191 (X_ou (X_ou (X_ou (X_ou (X_ou (X_ou o 6 g1) 7 at1) 8 en1) 9 tk1) 10 nu1) 11 dg1) nm1 tx tb len n so pl ct E c1 hM2204 h2205 (show (o 3) = len from by first | assumption | omega) hl htx hX hT1 (show 0 ≤ (o 5) ∧ (o 5) ≤ 5 from by omega)) (fun v2235 S2236 h2237 => ?_)
              rcases h2237 with ⟨f2238, g2239, hv2240, hp2241, hM2242, hf2243⟩
              rw [hv2240]
              have h2244 : S2236.1 530 = .inr (11, [.ref 531, .int (iI (o 1)), .ref 532, .int (iI (o 3)), .int (iI (o 4)), .int (iI f2238), .int (iI g2239), .int (iI at1), .int (iI en1), .int (iI tk1), .int (iI nu1), .int (iI dg1), .long nm1, .ref 533, .ref 534, .ref 535, .ref 536, .ref 537, .ref 538, .ref 539, .ref 540, .ref 541, .ref 542, .ref 543, .ref 544, .ref 545, .ref 546, .ref 547, .int (iI (o 28)), .int (iI (o 29)), .int (iI (o 30)), .int (iI (o 31)), .int (iI (o 32)), .int (iI (o 33)), .ref 548, .ref 549, .ref 550, .ref 551, .int (iI (o 38)), .ref 552, .ref 553, .ref 554, .ref 555, .ref 556, .ref 557, .ref 558, .ref 559, .ref 560, .ref 561, .int (iI (o 49)), .ref 562, .ref 563, .ref 564, .ref 565, .ref 566, .ref 567, .ref 568, .ref 569, .int (iI (o 58)), .ref 570, .ref 571, .ref 572, .ref 573, .ref 574, .ref 575, .ref 576, .ref 577, .ref 578, .int (iI (o 68)), .int (iI (o 69)), .int (iI (o 70)), .ref 579]) := hM2242
              show X_T sc 159 (107, [(4, .int (iI 0)), (3, .int (iI at1)), (2, .int (iI pile)), (0, .ref 530), (1, .int (iI wi))], [], S2236) _
              refine T_p xr_159_107 xn_159 (pc' := 108) (ls' := [(4, .int (iI 0)), (3, .int (iI at1)), (2, .int (iI pile)), (0, .ref 530), (1, .int (iI wi))]) (st' := [.ref 530]) rfl ?_
              refine T_cv (S := S2236) (q := 530) xr_159_108 xf_140.1 xf_140.2.1 xn_140 (as := []) (r := []) rfl h2244 (Nat.le_of_ble_eq_true rfl) (Nat.le_of_ble_eq_true rfl) (pc' := 111) rfl (ls' := [(0, .ref 530)]) rfl ?_
              refine T_mono (r_isGood sc S2236 (X_ou (X_ou (X_ou (X_ou (X_ou (X_ou (X_ou o 5 f2238) 6 g2239) 7 at1) 8 en1) 9 tk1) 10 nu1) 11 dg1) nm1 h2244 (show 0 ≤ f2238 ∧ f2238 ≤ 5 from by omega)) (fun v2245 S2246 h2247 => ?_)
              rcases h2247 with ⟨hv2248, hf2249⟩
              rw [hv2248]
              rw [hf2249]
              show X_T sc 159 (111, [(4, .int (iI 0)), (3, .int (iI at1)), (2, .int (iI pile)), (0, .ref 530), (1, .int (iI wi))], [.int (iI (bI (f2238 = 0)))], S2236) _
              refine T_bif_ne xr_159_111 (t := 115) (pc' := 114) rfl rfl (fun c2250 => ?_) (fun c2250 => ?_)
              · skip
                have c2250 : (f2238 = 0) := c2250
                exact (show False by first | contradiction | omega).elim
              · skip
                have c2250 : ¬ (f2238 = 0) := c2250
                refine T_vret xr_159_114 xf_159.2.2 ?_
                refine hQ _ _ ?_
                have h2251 := (hf2243.1 542 (by first | decide | omega)).trans (hA1)
                have h2252 := (hf2243.1 543 (by first | decide | omega)).trans (hA2)
                have h2253 := (hf2243.1 544 (by first | decide | omega)).trans (hA3)
                refine Or.inr ⟨at1, en1, tk1, nu1, dg1, nm1, f2238, g2239, wS1, sO1, sN1, rfl, by omega, ?_, by first | exact hob1 | exact hob1.up (by omega) | exact (hob1.up (by omega)).up (by omega), by first | exact hob2 | exact hob2.up (by omega) | exact (hob2.up (by omega)).up (by omega), by first | exact hob3 | exact hob3.up (by omega) | exact (hob3.up (by omega)).up (by omega), h2244, h2251, h2252, h2253, (((X_Fr.rf).tr (X_Fr.of n2181 e2182 (by first | decide | exact ⟨Nat.le_add_right _ _, Nat.add_le_add_left (by decide) _⟩ | omega))).tr (X_Fr.mono ⟨hF2187.1, hF2187.2⟩ (fun q hq => by first | exact hq | (rcases hq with rfl <;> decide) | (rcases hq with rfl | rfl <;> decide) | (rcases hq with rfl | rfl | rfl <;> decide) | (rcases hq with rfl | rfl | rfl | rfl <;> decide) | (rcases hq with rfl | rfl | rfl | rfl | rfl <;> decide) | (rcases hq with rfl | rfl | rfl | rfl | rfl | rfl <;> decide) | (rcases hq with rfl | rfl | rfl | rfl | rfl | rfl | rfl <;> decide) | omega))).tr (X_Fr.mono ⟨hf2243.1, hf2243.2⟩ (fun q hq => by first | exact hq | (rcases hq with rfl <;> decide) | (rcases hq with rfl | rfl <;> decide) | (rcases hq with rfl | rfl | rfl <;> decide) | (rcases hq with rfl | rfl | rfl | rfl <;> decide) | (rcases hq with rfl | rfl | rfl | rfl | rfl <;> decide) | (rcases hq with rfl | rfl | rfl | rfl | rfl | rfl <;> decide) | (rcases hq with rfl | rfl | rfl | rfl | rfl | rfl | rfl <;> decide) | omega))⟩
                by_cases h30 : d1 5 0 = 30
                · right
                  refine ⟨c1, d1, pile, ?_, Or.inl (by assumption)⟩
                  rw [← hR, show (30 - d1 5 0).toNat = 0 by omega]
                  rfl
                · left
                  have hs : sp_step n so ct c1 d1 pile = none := by
                    first | exact sp_step_of (by unfold X_isOp; omega) (by omega) | exact sp_step_x (by omega) (by omega) (by unfold X_isOp; omega)
                  rw [← hR, show (30 - d1 5 0).toNat = (30 - (d1 5 0 + 1)).toNat + 1 by omega]
                  show (if so c1 = 59 then _ else _) = none
                  rw [if_neg (by assumption), hs]
                  rfl
            · skip
              have c2234 : ¬ (¬ tk1 = 6) := c2234
              refine T_p xr_159_52 xn_159 (pc' := 53) (ls' := [(3, .int (iI at1)), (2, .int (iI pile)), (0, .ref 530), (1, .int (iI wi))]) (st' := [.ref 530]) rfl ?_
              refine T_p xr_159_53 xn_159 (pc' := 54) (ls' := [(3, .int (iI at1)), (2, .int (iI pile)), (0, .ref 530), (1, .int (iI wi))]) (st' := [.ref 530, .ref 530]) rfl ?_
              refine T_get xr_159_54 hM2204 rfl (v := .int (iI at1)) rfl (pc' := 57) rfl ?_
              refine T_cv (S := S2191) (q := 530) xr_159_57 xf_136.1 xf_136.2.1 xn_136 (as := [.int (iI at1)]) (r := []) rfl hM2204 (Nat.le_of_ble_eq_true rfl) (Nat.le_of_ble_eq_true rfl) (pc' := 60) rfl (ls' := [(0, .ref 530), (1, .int (iI at1))]) rfl ?_
              refine T_mono (r_sign sc S2191 (X_ou (X_ou (X_ou (X_ou (X_ou (X_ou o 6 g1) 7 at1) 8 en1) 9 tk1) 10 nu1) 11 dg1) nm1 tx tb len at1 hM2204 h2205 (show (o 3) = len from by first | assumption | omega) hl htx (by omega)) (fun v2254 S2255 h2256 => ?_)
              rcases h2256 with ⟨hv2257, hf2258⟩
              rw [hv2257]
              rw [hf2258]
              have hg2259 := X_sg_r (tb := tb) (len := len) (k := at1) (by omega)
              have hg2260 := X_sg_c (tb := tb) (len := len) (k := at1)
              show X_T sc 159 (60, [(3, .int (iI at1)), (2, .int (iI pile)), (0, .ref 530), (1, .int (iI wi))], [.int (iI (X_sg tb len at1))], S2191) _
              have hs7 := R_tk_s hX ⟨by omega, by omega⟩ (show 7 ≤ so c1 by omega)
              have hsg := R_tk_sg hX ⟨by omega, by omega⟩ (show 7 ≤ so c1 by omega)
              unfold X_isSg at hsg
              have hpl := hT1.2.1
              rw [← hpl] at hs7
              refine T_ie (y := iI (so c1)) (by congr 1; omega) ?_
              refine T_p xr_159_60 xn_159 (pc' := 64) (ls' := [(3, .int (iI at1)), (2, .int (iI pile)), (0, .ref 530), (1, .int (iI wi))]) (st' := [.int (iI (so c1))]) rfl ?_
              refine T_p xr_159_64 xn_159 (pc' := 66) (ls' := [(4, .int (iI (so c1))), (3, .int (iI at1)), (2, .int (iI pile)), (0, .ref 530), (1, .int (iI wi))]) (st' := []) rfl ?_
              refine T_p xr_159_66 xn_159 (pc' := 68) (ls' := [(4, .int (iI (so c1))), (3, .int (iI at1)), (2, .int (iI pile)), (0, .ref 530), (1, .int (iI wi))]) (st' := [.int (iI (so c1))]) rfl ?_
              refine T_zif_eq xr_159_68 (t := 103) (pc' := 71) rfl rfl (fun c2261 => ?_) (fun c2261 => ?_)
              · skip
                have c2261 : (so c1) = 0 := c2261
                refine T_p xr_159_103 xn_159 (pc' := 104) (ls' := [(4, .int (iI (so c1))), (3, .int (iI at1)), (2, .int (iI pile)), (0, .ref 530), (1, .int (iI wi))]) (st' := [.ref 530]) rfl ?_
                refine T_cv (S := S2191) (q := 530) xr_159_104 xf_147.1 xf_147.2.1 xn_147 (as := []) (r := []) rfl hM2204 (Nat.le_of_ble_eq_true rfl) (Nat.le_of_ble_eq_true rfl) (pc' := 107) rfl (ls' := [(0, .ref 530)]) rfl ?_
                refine T_mono (r_wrong sc S2191 (X_ou (X_ou (X_ou (X_ou (X_ou (X_ou o 6 g1) 7 at1) 8 en1) 9 tk1) 10 nu1) 11 dg1) nm1 tx tb len n so pl ct E c1 hM2204 h2205 (show (o 3) = len from by first | assumption | omega) hl htx hX hT1 (show 0 ≤ (o 5) ∧ (o 5) ≤ 5 from by omega)) (fun v2262 S2263 h2264 => ?_)
                rcases h2264 with ⟨f2265, g2266, hv2267, hp2268, hM2269, hf2270⟩
                rw [hv2267]
                have h2271 : S2263.1 530 = .inr (11, [.ref 531, .int (iI (o 1)), .ref 532, .int (iI (o 3)), .int (iI (o 4)), .int (iI f2265), .int (iI g2266), .int (iI at1), .int (iI en1), .int (iI tk1), .int (iI nu1), .int (iI dg1), .long nm1, .ref 533, .ref 534, .ref 535, .ref 536, .ref 537, .ref 538, .ref 539, .ref 540, .ref 541, .ref 542, .ref 543, .ref 544, .ref 545, .ref 546, .ref 547, .int (iI (o 28)), .int (iI (o 29)), .int (iI (o 30)), .int (iI (o 31)), .int (iI (o 32)), .int (iI (o 33)), .ref 548, .ref 549, .ref 550, .ref 551, .int (iI (o 38)), .ref 552, .ref 553, .ref 554, .ref 555, .ref 556, .ref 557, .ref 558, .ref 559, .ref 560, .ref 561, .int (iI (o 49)), .ref 562, .ref 563, .ref 564, .ref 565, .ref 566, .ref 567, .ref 568, .ref 569, .int (iI (o 58)), .ref 570, .ref 571, .ref 572, .ref 573, .ref 574, .ref 575, .ref 576, .ref 577, .ref 578, .int (iI (o 68)), .int (iI (o 69)), .int (iI (o 70)), .ref 579]) := hM2269
                show X_T sc 159 (107, [(4, .int (iI (so c1))), (3, .int (iI at1)), (2, .int (iI pile)), (0, .ref 530), (1, .int (iI wi))], [], S2263) _
                refine T_p xr_159_107 xn_159 (pc' := 108) (ls' := [(4, .int (iI (so c1))), (3, .int (iI at1)), (2, .int (iI pile)), (0, .ref 530), (1, .int (iI wi))]) (st' := [.ref 530]) rfl ?_
                refine T_cv (S := S2263) (q := 530) xr_159_108 xf_140.1 xf_140.2.1 xn_140 (as := []) (r := []) rfl h2271 (Nat.le_of_ble_eq_true rfl) (Nat.le_of_ble_eq_true rfl) (pc' := 111) rfl (ls' := [(0, .ref 530)]) rfl ?_
                refine T_mono (r_isGood sc S2263 (X_ou (X_ou (X_ou (X_ou (X_ou (X_ou (X_ou o 5 f2265) 6 g2266) 7 at1) 8 en1) 9 tk1) 10 nu1) 11 dg1) nm1 h2271 (show 0 ≤ f2265 ∧ f2265 ≤ 5 from by omega)) (fun v2272 S2273 h2274 => ?_)
                rcases h2274 with ⟨hv2275, hf2276⟩
                rw [hv2275]
                rw [hf2276]
                show X_T sc 159 (111, [(4, .int (iI (so c1))), (3, .int (iI at1)), (2, .int (iI pile)), (0, .ref 530), (1, .int (iI wi))], [.int (iI (bI (f2265 = 0)))], S2263) _
                refine T_bif_ne xr_159_111 (t := 115) (pc' := 114) rfl rfl (fun c2277 => ?_) (fun c2277 => ?_)
                · skip
                  have c2277 : (f2265 = 0) := c2277
                  exact (show False by first | contradiction | omega).elim
                · skip
                  have c2277 : ¬ (f2265 = 0) := c2277
                  refine T_vret xr_159_114 xf_159.2.2 ?_
                  refine hQ _ _ ?_
                  have h2278 := (hf2270.1 542 (by first | decide | omega)).trans (hA1)
                  have h2279 := (hf2270.1 543 (by first | decide | omega)).trans (hA2)
                  have h2280 := (hf2270.1 544 (by first | decide | omega)).trans (hA3)
                  refine Or.inr ⟨at1, en1, tk1, nu1, dg1, nm1, f2265, g2266, wS1, sO1, sN1, rfl, by omega, ?_, by first | exact hob1 | exact hob1.up (by omega) | exact (hob1.up (by omega)).up (by omega), by first | exact hob2 | exact hob2.up (by omega) | exact (hob2.up (by omega)).up (by omega), by first | exact hob3 | exact hob3.up (by omega) | exact (hob3.up (by omega)).up (by omega), h2271, h2278, h2279, h2280, (((X_Fr.rf).tr (X_Fr.of n2181 e2182 (by first | decide | exact ⟨Nat.le_add_right _ _, Nat.add_le_add_left (by decide) _⟩ | omega))).tr (X_Fr.mono ⟨hF2187.1, hF2187.2⟩ (fun q hq => by first | exact hq | (rcases hq with rfl <;> decide) | (rcases hq with rfl | rfl <;> decide) | (rcases hq with rfl | rfl | rfl <;> decide) | (rcases hq with rfl | rfl | rfl | rfl <;> decide) | (rcases hq with rfl | rfl | rfl | rfl | rfl <;> decide) | (rcases hq with rfl | rfl | rfl | rfl | rfl | rfl <;> decide) | (rcases hq with rfl | rfl | rfl | rfl | rfl | rfl | rfl <;> decide) | omega))).tr (X_Fr.mono ⟨hf2270.1, hf2270.2⟩ (fun q hq => by first | exact hq | (rcases hq with rfl <;> decide) | (rcases hq with rfl | rfl <;> decide) | (rcases hq with rfl | rfl | rfl <;> decide) | (rcases hq with rfl | rfl | rfl | rfl <;> decide) | (rcases hq with rfl | rfl | rfl | rfl | rfl <;> decide) | (rcases hq with rfl | rfl | rfl | rfl | rfl | rfl <;> decide) | (rcases hq with rfl | rfl | rfl | rfl | rfl | rfl | rfl <;> decide) | omega))⟩
                  by_cases h30 : d1 5 0 = 30
                  · right
                    refine ⟨c1, d1, pile, ?_, Or.inl (by assumption)⟩
                    rw [← hR, show (30 - d1 5 0).toNat = 0 by omega]
                    rfl
                  · left
                    have hs : sp_step n so ct c1 d1 pile = none := by
                      first | exact sp_step_of (by unfold X_isOp; omega) (by omega) | exact sp_step_x (by omega) (by omega) (by unfold X_isOp; omega)
                    rw [← hR, show (30 - d1 5 0).toNat = (30 - (d1 5 0 + 1)).toNat + 1 by omega]
                    show (if so c1 = 59 then _ else _) = none
                    rw [if_neg (by assumption), hs]
                    rfl
              · skip
                have c2261 : ¬ ((so c1) = 0) := c2261
                refine T_p xr_159_71 xn_159 (pc' := 73) (ls' := [(4, .int (iI (so c1))), (3, .int (iI at1)), (2, .int (iI pile)), (0, .ref 530), (1, .int (iI wi))]) (st' := [.int (iI (so c1))]) rfl ?_
                refine T_p xr_159_73 xn_159 (pc' := 75) (ls' := [(4, .int (iI (so c1))), (3, .int (iI at1)), (2, .int (iI pile)), (0, .ref 530), (1, .int (iI wi))]) (st' := [.int (iI 61), .int (iI (so c1))]) rfl ?_
                refine T_zicmp_eq xr_159_75 (t := 103) (pc' := 78) rfl rfl (fun c2281 => ?_) (fun c2281 => ?_)
                · skip
                  have c2281 : (so c1) = 61 := c2281
                  refine T_p xr_159_103 xn_159 (pc' := 104) (ls' := [(4, .int (iI (so c1))), (3, .int (iI at1)), (2, .int (iI pile)), (0, .ref 530), (1, .int (iI wi))]) (st' := [.ref 530]) rfl ?_
                  refine T_cv (S := S2191) (q := 530) xr_159_104 xf_147.1 xf_147.2.1 xn_147 (as := []) (r := []) rfl hM2204 (Nat.le_of_ble_eq_true rfl) (Nat.le_of_ble_eq_true rfl) (pc' := 107) rfl (ls' := [(0, .ref 530)]) rfl ?_
                  refine T_mono (r_wrong sc S2191 (X_ou (X_ou (X_ou (X_ou (X_ou (X_ou o 6 g1) 7 at1) 8 en1) 9 tk1) 10 nu1) 11 dg1) nm1 tx tb len n so pl ct E c1 hM2204 h2205 (show (o 3) = len from by first | assumption | omega) hl htx hX hT1 (show 0 ≤ (o 5) ∧ (o 5) ≤ 5 from by omega)) (fun v2282 S2283 h2284 => ?_)
                  rcases h2284 with ⟨f2285, g2286, hv2287, hp2288, hM2289, hf2290⟩
                  rw [hv2287]
                  have h2291 : S2283.1 530 = .inr (11, [.ref 531, .int (iI (o 1)), .ref 532, .int (iI (o 3)), .int (iI (o 4)), .int (iI f2285), .int (iI g2286), .int (iI at1), .int (iI en1), .int (iI tk1), .int (iI nu1), .int (iI dg1), .long nm1, .ref 533, .ref 534, .ref 535, .ref 536, .ref 537, .ref 538, .ref 539, .ref 540, .ref 541, .ref 542, .ref 543, .ref 544, .ref 545, .ref 546, .ref 547, .int (iI (o 28)), .int (iI (o 29)), .int (iI (o 30)), .int (iI (o 31)), .int (iI (o 32)), .int (iI (o 33)), .ref 548, .ref 549, .ref 550, .ref 551, .int (iI (o 38)), .ref 552, .ref 553, .ref 554, .ref 555, .ref 556, .ref 557, .ref 558, .ref 559, .ref 560, .ref 561, .int (iI (o 49)), .ref 562, .ref 563, .ref 564, .ref 565, .ref 566, .ref 567, .ref 568, .ref 569, .int (iI (o 58)), .ref 570, .ref 571, .ref 572, .ref 573, .ref 574, .ref 575, .ref 576, .ref 577, .ref 578, .int (iI (o 68)), .int (iI (o 69)), .int (iI (o 70)), .ref 579]) := hM2289
                  show X_T sc 159 (107, [(4, .int (iI (so c1))), (3, .int (iI at1)), (2, .int (iI pile)), (0, .ref 530), (1, .int (iI wi))], [], S2283) _
                  refine T_p xr_159_107 xn_159 (pc' := 108) (ls' := [(4, .int (iI (so c1))), (3, .int (iI at1)), (2, .int (iI pile)), (0, .ref 530), (1, .int (iI wi))]) (st' := [.ref 530]) rfl ?_
                  refine T_cv (S := S2283) (q := 530) xr_159_108 xf_140.1 xf_140.2.1 xn_140 (as := []) (r := []) rfl h2291 (Nat.le_of_ble_eq_true rfl) (Nat.le_of_ble_eq_true rfl) (pc' := 111) rfl (ls' := [(0, .ref 530)]) rfl ?_
                  refine T_mono (r_isGood sc S2283 (X_ou (X_ou (X_ou (X_ou (X_ou (X_ou (X_ou o 5 f2285) 6 g2286) 7 at1) 8 en1) 9 tk1) 10 nu1) 11 dg1) nm1 h2291 (show 0 ≤ f2285 ∧ f2285 ≤ 5 from by omega)) (fun v2292 S2293 h2294 => ?_)
                  rcases h2294 with ⟨hv2295, hf2296⟩
                  rw [hv2295]
                  rw [hf2296]
                  show X_T sc 159 (111, [(4, .int (iI (so c1))), (3, .int (iI at1)), (2, .int (iI pile)), (0, .ref 530), (1, .int (iI wi))], [.int (iI (bI (f2285 = 0)))], S2283) _
                  refine T_bif_ne xr_159_111 (t := 115) (pc' := 114) rfl rfl (fun c2297 => ?_) (fun c2297 => ?_)
                  · skip
                    have c2297 : (f2285 = 0) := c2297
                    exact (show False by first | contradiction | omega).elim
                  · skip
                    have c2297 : ¬ (f2285 = 0) := c2297
                    refine T_vret xr_159_114 xf_159.2.2 ?_
                    refine hQ _ _ ?_
                    have h2298 := (hf2290.1 542 (by first | decide | omega)).trans (hA1)
                    have h2299 := (hf2290.1 543 (by first | decide | omega)).trans (hA2)
                    have h2300 := (hf2290.1 544 (by first | decide | omega)).trans (hA3)
                    refine Or.inr ⟨at1, en1, tk1, nu1, dg1, nm1, f2285, g2286, wS1, sO1, sN1, rfl, by omega, ?_, by first | exact hob1 | exact hob1.up (by omega) | exact (hob1.up (by omega)).up (by omega), by first | exact hob2 | exact hob2.up (by omega) | exact (hob2.up (by omega)).up (by omega), by first | exact hob3 | exact hob3.up (by omega) | exact (hob3.up (by omega)).up (by omega), h2291, h2298, h2299, h2300, (((X_Fr.rf).tr (X_Fr.of n2181 e2182 (by first | decide | exact ⟨Nat.le_add_right _ _, Nat.add_le_add_left (by decide) _⟩ | omega))).tr (X_Fr.mono ⟨hF2187.1, hF2187.2⟩ (fun q hq => by first | exact hq | (rcases hq with rfl <;> decide) | (rcases hq with rfl | rfl <;> decide) | (rcases hq with rfl | rfl | rfl <;> decide) | (rcases hq with rfl | rfl | rfl | rfl <;> decide) | (rcases hq with rfl | rfl | rfl | rfl | rfl <;> decide) | (rcases hq with rfl | rfl | rfl | rfl | rfl | rfl <;> decide) | (rcases hq with rfl | rfl | rfl | rfl | rfl | rfl | rfl <;> decide) | omega))).tr (X_Fr.mono ⟨hf2290.1, hf2290.2⟩ (fun q hq => by first | exact hq | (rcases hq with rfl <;> decide) | (rcases hq with rfl | rfl <;> decide) | (rcases hq with rfl | rfl | rfl <;> decide) | (rcases hq with rfl | rfl | rfl | rfl <;> decide) | (rcases hq with rfl | rfl | rfl | rfl | rfl <;> decide) | (rcases hq with rfl | rfl | rfl | rfl | rfl | rfl <;> decide) | (rcases hq with rfl | rfl | rfl | rfl | rfl | rfl | rfl <;> decide) | omega))⟩
                    by_cases h30 : d1 5 0 = 30
                    · right
                      refine ⟨c1, d1, pile, ?_, Or.inl (by assumption)⟩
                      rw [← hR, show (30 - d1 5 0).toNat = 0 by omega]
                      rfl
                    · left
                      have hs : sp_step n so ct c1 d1 pile = none := by
                        first | exact sp_step_of (by unfold X_isOp; omega) (by omega) | exact sp_step_x (by omega) (by omega) (by unfold X_isOp; omega)
                      rw [← hR, show (30 - d1 5 0).toNat = (30 - (d1 5 0 + 1)).toNat + 1 by omega]
                      show (if so c1 = 59 then _ else _) = none
                      rw [if_neg (by assumption), hs]
                      rfl
                · skip
                  have c2281 : ¬ ((so c1) = 61) := c2281
                  refine T_p xr_159_78 xn_159 (pc' := 80) (ls' := [(4, .int (iI (so c1))), (3, .int (iI at1)), (2, .int (iI pile)), (0, .ref 530), (1, .int (iI wi))]) (st' := [.int (iI (so c1))]) rfl ?_
                  refine T_p xr_159_80 xn_159 (pc' := 82) (ls' := [(4, .int (iI (so c1))), (3, .int (iI at1)), (2, .int (iI pile)), (0, .ref 530), (1, .int (iI wi))]) (st' := [.int (iI 58), .int (iI (so c1))]) rfl ?_
                  refine T_zicmp_eq xr_159_82 (t := 103) (pc' := 85) rfl rfl (fun c2301 => ?_) (fun c2301 => ?_)
                  · skip
                    have c2301 : (so c1) = 58 := c2301
                    refine T_p xr_159_103 xn_159 (pc' := 104) (ls' := [(4, .int (iI (so c1))), (3, .int (iI at1)), (2, .int (iI pile)), (0, .ref 530), (1, .int (iI wi))]) (st' := [.ref 530]) rfl ?_
                    refine T_cv (S := S2191) (q := 530) xr_159_104 xf_147.1 xf_147.2.1 xn_147 (as := []) (r := []) rfl hM2204 (Nat.le_of_ble_eq_true rfl) (Nat.le_of_ble_eq_true rfl) (pc' := 107) rfl (ls' := [(0, .ref 530)]) rfl ?_
                    refine T_mono (r_wrong sc S2191 (X_ou (X_ou (X_ou (X_ou (X_ou (X_ou o 6 g1) 7 at1) 8 en1) 9 tk1) 10 nu1) 11 dg1) nm1 tx tb len n so pl ct E c1 hM2204 h2205 (show (o 3) = len from by first | assumption | omega) hl htx hX hT1 (show 0 ≤ (o 5) ∧ (o 5) ≤ 5 from by omega)) (fun v2302 S2303 h2304 => ?_)
                    rcases h2304 with ⟨f2305, g2306, hv2307, hp2308, hM2309, hf2310⟩
                    rw [hv2307]
                    have h2311 : S2303.1 530 = .inr (11, [.ref 531, .int (iI (o 1)), .ref 532, .int (iI (o 3)), .int (iI (o 4)), .int (iI f2305), .int (iI g2306), .int (iI at1), .int (iI en1), .int (iI tk1), .int (iI nu1), .int (iI dg1), .long nm1, .ref 533, .ref 534, .ref 535, .ref 536, .ref 537, .ref 538, .ref 539, .ref 540, .ref 541, .ref 542, .ref 543, .ref 544, .ref 545, .ref 546, .ref 547, .int (iI (o 28)), .int (iI (o 29)), .int (iI (o 30)), .int (iI (o 31)), .int (iI (o 32)), .int (iI (o 33)), .ref 548, .ref 549, .ref 550, .ref 551, .int (iI (o 38)), .ref 552, .ref 553, .ref 554, .ref 555, .ref 556, .ref 557, .ref 558, .ref 559, .ref 560, .ref 561, .int (iI (o 49)), .ref 562, .ref 563, .ref 564, .ref 565, .ref 566, .ref 567, .ref 568, .ref 569, .int (iI (o 58)), .ref 570, .ref 571, .ref 572, .ref 573, .ref 574, .ref 575, .ref 576, .ref 577, .ref 578, .int (iI (o 68)), .int (iI (o 69)), .int (iI (o 70)), .ref 579]) := hM2309
                    show X_T sc 159 (107, [(4, .int (iI (so c1))), (3, .int (iI at1)), (2, .int (iI pile)), (0, .ref 530), (1, .int (iI wi))], [], S2303) _
                    refine T_p xr_159_107 xn_159 (pc' := 108) (ls' := [(4, .int (iI (so c1))), (3, .int (iI at1)), (2, .int (iI pile)), (0, .ref 530), (1, .int (iI wi))]) (st' := [.ref 530]) rfl ?_
                    refine T_cv (S := S2303) (q := 530) xr_159_108 xf_140.1 xf_140.2.1 xn_140 (as := []) (r := []) rfl h2311 (Nat.le_of_ble_eq_true rfl) (Nat.le_of_ble_eq_true rfl) (pc' := 111) rfl (ls' := [(0, .ref 530)]) rfl ?_
                    refine T_mono (r_isGood sc S2303 (X_ou (X_ou (X_ou (X_ou (X_ou (X_ou (X_ou o 5 f2305) 6 g2306) 7 at1) 8 en1) 9 tk1) 10 nu1) 11 dg1) nm1 h2311 (show 0 ≤ f2305 ∧ f2305 ≤ 5 from by omega)) (fun v2312 S2313 h2314 => ?_)
                    rcases h2314 with ⟨hv2315, hf2316⟩
                    rw [hv2315]
                    rw [hf2316]
                    show X_T sc 159 (111, [(4, .int (iI (so c1))), (3, .int (iI at1)), (2, .int (iI pile)), (0, .ref 530), (1, .int (iI wi))], [.int (iI (bI (f2305 = 0)))], S2303) _
                    refine T_bif_ne xr_159_111 (t := 115) (pc' := 114) rfl rfl (fun c2317 => ?_) (fun c2317 => ?_)
                    · skip
                      have c2317 : (f2305 = 0) := c2317
                      exact (show False by first | contradiction | omega).elim
                    · skip
                      have c2317 : ¬ (f2305 = 0) := c2317
                      refine T_vret xr_159_114 xf_159.2.2 ?_
                      refine hQ _ _ ?_
                      have h2318 := (hf2310.1 542 (by first | decide | omega)).trans (hA1)
                      have h2319 := (hf2310.1 543 (by first | decide | omega)).trans (hA2)
                      have h2320 := (hf2310.1 544 (by first | decide | omega)).trans (hA3)
                      refine Or.inr ⟨at1, en1, tk1, nu1, dg1, nm1, f2305, g2306, wS1, sO1, sN1, rfl, by omega, ?_, by first | exact hob1 | exact hob1.up (by omega) | exact (hob1.up (by omega)).up (by omega), by first | exact hob2 | exact hob2.up (by omega) | exact (hob2.up (by omega)).up (by omega), by first | exact hob3 | exact hob3.up (by omega) | exact (hob3.up (by omega)).up (by omega), h2311, h2318, h2319, h2320, (((X_Fr.rf).tr (X_Fr.of n2181 e2182 (by first | decide | exact ⟨Nat.le_add_right _ _, Nat.add_le_add_left (by decide) _⟩ | omega))).tr (X_Fr.mono ⟨hF2187.1, hF2187.2⟩ (fun q hq => by first | exact hq | (rcases hq with rfl <;> decide) | (rcases hq with rfl | rfl <;> decide) | (rcases hq with rfl | rfl | rfl <;> decide) | (rcases hq with rfl | rfl | rfl | rfl <;> decide) | (rcases hq with rfl | rfl | rfl | rfl | rfl <;> decide) | (rcases hq with rfl | rfl | rfl | rfl | rfl | rfl <;> decide) | (rcases hq with rfl | rfl | rfl | rfl | rfl | rfl | rfl <;> decide) | omega))).tr (X_Fr.mono ⟨hf2310.1, hf2310.2⟩ (fun q hq => by first | exact hq | (rcases hq with rfl <;> decide) | (rcases hq with rfl | rfl <;> decide) | (rcases hq with rfl | rfl | rfl <;> decide) | (rcases hq with rfl | rfl | rfl | rfl <;> decide) | (rcases hq with rfl | rfl | rfl | rfl | rfl <;> decide) | (rcases hq with rfl | rfl | rfl | rfl | rfl | rfl <;> decide) | (rcases hq with rfl | rfl | rfl | rfl | rfl | rfl | rfl <;> decide) | omega))⟩
                      by_cases h30 : d1 5 0 = 30
                      · right
                        refine ⟨c1, d1, pile, ?_, Or.inl (by assumption)⟩
                        rw [← hR, show (30 - d1 5 0).toNat = 0 by omega]
                        rfl
                      · left
                        have hs : sp_step n so ct c1 d1 pile = none := by
                          first | exact sp_step_of (by unfold X_isOp; omega) (by omega) | exact sp_step_x (by omega) (by omega) (by unfold X_isOp; omega)
                        rw [← hR, show (30 - d1 5 0).toNat = (30 - (d1 5 0 + 1)).toNat + 1 by omega]
                        show (if so c1 = 59 then _ else _) = none
                        rw [if_neg (by assumption), hs]
                        rfl
                  · skip
                    have c2301 : ¬ ((so c1) = 58) := c2301
                    refine T_p xr_159_85 xn_159 (pc' := 87) (ls' := [(4, .int (iI (so c1))), (3, .int (iI at1)), (2, .int (iI pile)), (0, .ref 530), (1, .int (iI wi))]) (st' := [.int (iI (so c1))]) rfl ?_
                    refine T_p xr_159_87 xn_159 (pc' := 89) (ls' := [(4, .int (iI (so c1))), (3, .int (iI at1)), (2, .int (iI pile)), (0, .ref 530), (1, .int (iI wi))]) (st' := [.int (iI 95), .int (iI (so c1))]) rfl ?_
                    refine T_zicmp_eq xr_159_89 (t := 103) (pc' := 92) rfl rfl (fun c2321 => ?_) (fun c2321 => ?_)
                    · skip
                      have c2321 : (so c1) = 95 := c2321
                      refine T_p xr_159_103 xn_159 (pc' := 104) (ls' := [(4, .int (iI (so c1))), (3, .int (iI at1)), (2, .int (iI pile)), (0, .ref 530), (1, .int (iI wi))]) (st' := [.ref 530]) rfl ?_
                      refine T_cv (S := S2191) (q := 530) xr_159_104 xf_147.1 xf_147.2.1 xn_147 (as := []) (r := []) rfl hM2204 (Nat.le_of_ble_eq_true rfl) (Nat.le_of_ble_eq_true rfl) (pc' := 107) rfl (ls' := [(0, .ref 530)]) rfl ?_
                      refine T_mono (r_wrong sc S2191 (X_ou (X_ou (X_ou (X_ou (X_ou (X_ou o 6 g1) 7 at1) 8 en1) 9 tk1) 10 nu1) 11 dg1) nm1 tx tb len n so pl ct E c1 hM2204 h2205 (show (o 3) = len from by first | assumption | omega) hl htx hX hT1 (show 0 ≤ (o 5) ∧ (o 5) ≤ 5 from by omega)) (fun v2322 S2323 h2324 => ?_)
                      rcases h2324 with ⟨f2325, g2326, hv2327, hp2328, hM2329, hf2330⟩
                      rw [hv2327]
                      have h2331 : S2323.1 530 = .inr (11, [.ref 531, .int (iI (o 1)), .ref 532, .int (iI (o 3)), .int (iI (o 4)), .int (iI f2325), .int (iI g2326), .int (iI at1), .int (iI en1), .int (iI tk1), .int (iI nu1), .int (iI dg1), .long nm1, .ref 533, .ref 534, .ref 535, .ref 536, .ref 537, .ref 538, .ref 539, .ref 540, .ref 541, .ref 542, .ref 543, .ref 544, .ref 545, .ref 546, .ref 547, .int (iI (o 28)), .int (iI (o 29)), .int (iI (o 30)), .int (iI (o 31)), .int (iI (o 32)), .int (iI (o 33)), .ref 548, .ref 549, .ref 550, .ref 551, .int (iI (o 38)), .ref 552, .ref 553, .ref 554, .ref 555, .ref 556, .ref 557, .ref 558, .ref 559, .ref 560, .ref 561, .int (iI (o 49)), .ref 562, .ref 563, .ref 564, .ref 565, .ref 566, .ref 567, .ref 568, .ref 569, .int (iI (o 58)), .ref 570, .ref 571, .ref 572, .ref 573, .ref 574, .ref 575, .ref 576, .ref 577, .ref 578, .int (iI (o 68)), .int (iI (o 69)), .int (iI (o 70)), .ref 579]) := hM2329
                      show X_T sc 159 (107, [(4, .int (iI (so c1))), (3, .int (iI at1)), (2, .int (iI pile)), (0, .ref 530), (1, .int (iI wi))], [], S2323) _
                      refine T_p xr_159_107 xn_159 (pc' := 108) (ls' := [(4, .int (iI (so c1))), (3, .int (iI at1)), (2, .int (iI pile)), (0, .ref 530), (1, .int (iI wi))]) (st' := [.ref 530]) rfl ?_
                      refine T_cv (S := S2323) (q := 530) xr_159_108 xf_140.1 xf_140.2.1 xn_140 (as := []) (r := []) rfl h2331 (Nat.le_of_ble_eq_true rfl) (Nat.le_of_ble_eq_true rfl) (pc' := 111) rfl (ls' := [(0, .ref 530)]) rfl ?_
                      refine T_mono (r_isGood sc S2323 (X_ou (X_ou (X_ou (X_ou (X_ou (X_ou (X_ou o 5 f2325) 6 g2326) 7 at1) 8 en1) 9 tk1) 10 nu1) 11 dg1) nm1 h2331 (show 0 ≤ f2325 ∧ f2325 ≤ 5 from by omega)) (fun v2332 S2333 h2334 => ?_)
                      rcases h2334 with ⟨hv2335, hf2336⟩
                      rw [hv2335]
                      rw [hf2336]
                      show X_T sc 159 (111, [(4, .int (iI (so c1))), (3, .int (iI at1)), (2, .int (iI pile)), (0, .ref 530), (1, .int (iI wi))], [.int (iI (bI (f2325 = 0)))], S2323) _
                      refine T_bif_ne xr_159_111 (t := 115) (pc' := 114) rfl rfl (fun c2337 => ?_) (fun c2337 => ?_)
                      · skip
                        have c2337 : (f2325 = 0) := c2337
                        exact (show False by first | contradiction | omega).elim
                      · skip
                        have c2337 : ¬ (f2325 = 0) := c2337
                        refine T_vret xr_159_114 xf_159.2.2 ?_
                        refine hQ _ _ ?_
                        have h2338 := (hf2330.1 542 (by first | decide | omega)).trans (hA1)
                        have h2339 := (hf2330.1 543 (by first | decide | omega)).trans (hA2)
                        have h2340 := (hf2330.1 544 (by first | decide | omega)).trans (hA3)
                        refine Or.inr ⟨at1, en1, tk1, nu1, dg1, nm1, f2325, g2326, wS1, sO1, sN1, rfl, by omega, ?_, by first | exact hob1 | exact hob1.up (by omega) | exact (hob1.up (by omega)).up (by omega), by first | exact hob2 | exact hob2.up (by omega) | exact (hob2.up (by omega)).up (by omega), by first | exact hob3 | exact hob3.up (by omega) | exact (hob3.up (by omega)).up (by omega), h2331, h2338, h2339, h2340, (((X_Fr.rf).tr (X_Fr.of n2181 e2182 (by first | decide | exact ⟨Nat.le_add_right _ _, Nat.add_le_add_left (by decide) _⟩ | omega))).tr (X_Fr.mono ⟨hF2187.1, hF2187.2⟩ (fun q hq => by first | exact hq | (rcases hq with rfl <;> decide) | (rcases hq with rfl | rfl <;> decide) | (rcases hq with rfl | rfl | rfl <;> decide) | (rcases hq with rfl | rfl | rfl | rfl <;> decide) | (rcases hq with rfl | rfl | rfl | rfl | rfl <;> decide) | (rcases hq with rfl | rfl | rfl | rfl | rfl | rfl <;> decide) | (rcases hq with rfl | rfl | rfl | rfl | rfl | rfl | rfl <;> decide) | omega))).tr (X_Fr.mono ⟨hf2330.1, hf2330.2⟩ (fun q hq => by first | exact hq | (rcases hq with rfl <;> decide) | (rcases hq with rfl | rfl <;> decide) | (rcases hq with rfl | rfl | rfl <;> decide) | (rcases hq with rfl | rfl | rfl | rfl <;> decide) | (rcases hq with rfl | rfl | rfl | rfl | rfl <;> decide) | (rcases hq with rfl | rfl | rfl | rfl | rfl | rfl <;> decide) | (rcases hq with rfl | rfl | rfl | rfl | rfl | rfl | rfl <;> decide) | omega))⟩
                        by_cases h30 : d1 5 0 = 30
                        · right
                          refine ⟨c1, d1, pile, ?_, Or.inl (by assumption)⟩
                          rw [← hR, show (30 - d1 5 0).toNat = 0 by omega]
                          rfl
                        · left
                          have hs : sp_step n so ct c1 d1 pile = none := by
                            first | exact sp_step_of (by unfold X_isOp; omega) (by omega) | exact sp_step_x (by omega) (by omega) (by unfold X_isOp; omega)
                          rw [← hR, show (30 - d1 5 0).toNat = (30 - (d1 5 0 + 1)).toNat + 1 by omega]
                          show (if so c1 = 59 then _ else _) = none
                          rw [if_neg (by assumption), hs]
                          rfl
                    · skip
                      have c2321 : ¬ ((so c1) = 95) := c2321
                      refine T_p xr_159_92 xn_159 (pc' := 93) (ls' := [(4, .int (iI (so c1))), (3, .int (iI at1)), (2, .int (iI pile)), (0, .ref 530), (1, .int (iI wi))]) (st' := [.ref 530]) rfl ?_
                      refine T_get xr_159_93 hM2204 rfl (v := .ref 542) rfl (pc' := 96) rfl ?_
                      refine T_p xr_159_96 xn_159 (pc' := 97) (ls' := [(4, .int (iI (so c1))), (3, .int (iI at1)), (2, .int (iI pile)), (0, .ref 530), (1, .int (iI wi))]) (st' := [.int (iI wi), .ref 542]) rfl ?_
                      refine T_ziald xr_159_97 hA1 (pc' := 98) rfl ?_
                      refine T_p xr_159_98 xn_159 (pc' := 100) (ls' := [(4, .int (iI (so c1))), (3, .int (iI at1)), (2, .int (iI pile)), (0, .ref 530), (1, .int (iI wi))]) (st' := [.int (iI 30), .int (iI (wS1 wi))]) rfl ?_
                      refine T_zicmp_ne xr_159_100 (t := 107) (pc' := 103) rfl rfl (fun c2341 => ?_) (fun c2341 => ?_)
                      · skip
                        have c2341 : ¬ (wS1 wi) = 30 := c2341
                        refine T_p xr_159_107 xn_159 (pc' := 108) (ls' := [(4, .int (iI (so c1))), (3, .int (iI at1)), (2, .int (iI pile)), (0, .ref 530), (1, .int (iI wi))]) (st' := [.ref 530]) rfl ?_
                        refine T_cv (S := S2191) (q := 530) xr_159_108 xf_140.1 xf_140.2.1 xn_140 (as := []) (r := []) rfl hM2204 (Nat.le_of_ble_eq_true rfl) (Nat.le_of_ble_eq_true rfl) (pc' := 111) rfl (ls' := [(0, .ref 530)]) rfl ?_
                        refine T_mono (r_isGood sc S2191 (X_ou (X_ou (X_ou (X_ou (X_ou (X_ou o 6 g1) 7 at1) 8 en1) 9 tk1) 10 nu1) 11 dg1) nm1 hM2204 (show 0 ≤ (o 5) ∧ (o 5) ≤ 5 from by omega)) (fun v2342 S2343 h2344 => ?_)
                        rcases h2344 with ⟨hv2345, hf2346⟩
                        rw [hv2345]
                        rw [hf2346]
                        show X_T sc 159 (111, [(4, .int (iI (so c1))), (3, .int (iI at1)), (2, .int (iI pile)), (0, .ref 530), (1, .int (iI wi))], [.int (iI (bI ((o 5) = 0)))], S2191) _
                        refine T_bif_ne xr_159_111 (t := 115) (pc' := 114) rfl rfl (fun c2347 => ?_) (fun c2347 => ?_)
                        · skip
                          have c2347 : ((o 5) = 0) := c2347
                          refine T_p xr_159_115 xn_159 (pc' := 117) (ls' := [(4, .int (iI (so c1))), (3, .int (iI at1)), (2, .int (iI pile)), (0, .ref 530), (1, .int (iI wi))]) (st' := [.int (iI 30)]) rfl ?_
                          refine T_p xr_159_117 xn_159 (pc' := 118) (ls' := [(4, .int (iI (so c1))), (3, .int (iI at1)), (2, .int (iI pile)), (0, .ref 530), (1, .int (iI wi))]) (st' := [.int (iI wi), .int (iI 30)]) rfl ?_
                          refine T_zimul xr_159_118 (z := 30 * wi) rfl (pc' := 119) rfl ?_
                          refine T_p xr_159_119 xn_159 (pc' := 120) (ls' := [(4, .int (iI (so c1))), (3, .int (iI at1)), (2, .int (iI pile)), (0, .ref 530), (1, .int (iI wi))]) (st' := [.ref 530, .int (iI (30 * wi))]) rfl ?_
                          refine T_get xr_159_120 hM2204 rfl (v := .ref 542) rfl (pc' := 123) rfl ?_
                          refine T_p xr_159_123 xn_159 (pc' := 124) (ls' := [(4, .int (iI (so c1))), (3, .int (iI at1)), (2, .int (iI pile)), (0, .ref 530), (1, .int (iI wi))]) (st' := [.int (iI wi), .ref 542, .int (iI (30 * wi))]) rfl ?_
                          refine T_ziald xr_159_124 hA1 (pc' := 125) rfl ?_
                          refine T_ziadd xr_159_125 (z := (30 * wi) + (wS1 wi)) rfl (pc' := 126) rfl ?_
                          refine T_p xr_159_126 xn_159 (pc' := 128) (ls' := [(5, .int (iI ((30 * wi) + (wS1 wi)))), (4, .int (iI (so c1))), (3, .int (iI at1)), (2, .int (iI pile)), (0, .ref 530), (1, .int (iI wi))]) (st' := []) rfl ?_
                          refine T_p xr_159_128 xn_159 (pc' := 129) (ls' := [(5, .int (iI ((30 * wi) + (wS1 wi)))), (4, .int (iI (so c1))), (3, .int (iI at1)), (2, .int (iI pile)), (0, .ref 530), (1, .int (iI wi))]) (st' := [.ref 530]) rfl ?_
                          refine T_get xr_159_129 hM2204 rfl (v := .ref 543) rfl (pc' := 132) rfl ?_
                          refine T_p xr_159_132 xn_159 (pc' := 134) (ls' := [(5, .int (iI ((30 * wi) + (wS1 wi)))), (4, .int (iI (so c1))), (3, .int (iI at1)), (2, .int (iI pile)), (0, .ref 530), (1, .int (iI wi))]) (st' := [.int (iI ((30 * wi) + (wS1 wi))), .ref 543]) rfl ?_
                          refine T_p xr_159_134 xn_159 (pc' := 136) (ls' := [(5, .int (iI ((30 * wi) + (wS1 wi)))), (4, .int (iI (so c1))), (3, .int (iI at1)), (2, .int (iI pile)), (0, .ref 530), (1, .int (iI wi))]) (st' := [.int (iI (so c1)), .int (iI ((30 * wi) + (wS1 wi))), .ref 543]) rfl ?_
                          refine T_ziast xr_159_136 hA2 (pc' := 137) rfl (fun S2348 h2349 n2350 e2351 => ?_)
                          refine T_p xr_159_137 xn_159 (pc' := 138) (ls' := [(5, .int (iI ((30 * wi) + (wS1 wi)))), (4, .int (iI (so c1))), (3, .int (iI at1)), (2, .int (iI pile)), (0, .ref 530), (1, .int (iI wi))]) (st' := [.ref 530]) rfl ?_
                          have h2352 := (n2350 530 (by decide)).trans (hM2204)
                          refine T_get xr_159_138 h2352 rfl (v := .ref 544) rfl (pc' := 141) rfl ?_
                          refine T_p xr_159_141 xn_159 (pc' := 143) (ls' := [(5, .int (iI ((30 * wi) + (wS1 wi)))), (4, .int (iI (so c1))), (3, .int (iI at1)), (2, .int (iI pile)), (0, .ref 530), (1, .int (iI wi))]) (st' := [.int (iI ((30 * wi) + (wS1 wi))), .ref 544]) rfl ?_
                          refine T_p xr_159_143 xn_159 (pc' := 144) (ls' := [(5, .int (iI ((30 * wi) + (wS1 wi)))), (4, .int (iI (so c1))), (3, .int (iI at1)), (2, .int (iI pile)), (0, .ref 530), (1, .int (iI wi))]) (st' := [.ref 530, .int (iI ((30 * wi) + (wS1 wi))), .ref 544]) rfl ?_
                          refine T_get xr_159_144 h2352 rfl (v := .int (iI nu1)) rfl (pc' := 147) rfl ?_
                          have h2353 := (n2350 544 (by decide)).trans (hA3)
                          refine T_ziast xr_159_147 h2353 (pc' := 148) rfl (fun S2354 h2355 n2356 e2357 => ?_)
                          refine T_p xr_159_148 xn_159 (pc' := 149) (ls' := [(5, .int (iI ((30 * wi) + (wS1 wi)))), (4, .int (iI (so c1))), (3, .int (iI at1)), (2, .int (iI pile)), (0, .ref 530), (1, .int (iI wi))]) (st' := [.ref 530]) rfl ?_
                          have h2358 := (n2356 530 (by decide)).trans (h2352)
                          refine T_cv (S := S2354) (q := 530) xr_159_149 xf_141.1 xf_141.2.1 xn_141 (as := []) (r := []) rfl h2358 (Nat.le_of_ble_eq_true rfl) (Nat.le_of_ble_eq_true rfl) (pc' := 152) rfl (ls' := [(0, .ref 530)]) rfl ?_
                          have h2359 := (n2356 532 (by decide)).trans ((n2350 532 (by decide)).trans (h2205))
                          refine T_mono (r_nx sc S2354 (X_ou (X_ou (X_ou (X_ou (X_ou (X_ou o 6 g1) 7 at1) 8 en1) 9 tk1) 10 nu1) 11 dg1) nm1 tx tb len n so pl ct E c1 h2358 h2359 (show (o 3) = len from by first | assumption | omega) hl htx hX hT1 (by omega)) (fun v2360 S2361 h2362 => ?_)
                          rcases h2362 with ⟨at2363, en2364, tk2365, nu2366, dg2367, nm2368, hv2369, hp2370, hM2371, hf2372⟩
                          rw [hv2369]
                          have h2373 : S2361.1 530 = .inr (11, [.ref 531, .int (iI (o 1)), .ref 532, .int (iI (o 3)), .int (iI (o 4)), .int (iI (o 5)), .int (iI g1), .int (iI at2363), .int (iI en2364), .int (iI tk2365), .int (iI nu2366), .int (iI dg2367), .long nm2368, .ref 533, .ref 534, .ref 535, .ref 536, .ref 537, .ref 538, .ref 539, .ref 540, .ref 541, .ref 542, .ref 543, .ref 544, .ref 545, .ref 546, .ref 547, .int (iI (o 28)), .int (iI (o 29)), .int (iI (o 30)), .int (iI (o 31)), .int (iI (o 32)), .int (iI (o 33)), .ref 548, .ref 549, .ref 550, .ref 551, .int (iI (o 38)), .ref 552, .ref 553, .ref 554, .ref 555, .ref 556, .ref 557, .ref 558, .ref 559, .ref 560, .ref 561, .int (iI (o 49)), .ref 562, .ref 563, .ref 564, .ref 565, .ref 566, .ref 567, .ref 568, .ref 569, .int (iI (o 58)), .ref 570, .ref 571, .ref 572, .ref 573, .ref 574, .ref 575, .ref 576, .ref 577, .ref 578, .int (iI (o 68)), .int (iI (o 69)), .int (iI (o 70)), .ref 579]) := hM2371
                          obtain ⟨⟨_, _⟩, ⟨_, _⟩, hk2374, ⟨_, _⟩, hk2374e, ⟨_, _⟩, ⟨_, _⟩⟩ := R_tk_f hX hp2370
                          show X_T sc 159 (152, [(5, .int (iI ((30 * wi) + (wS1 wi)))), (4, .int (iI (so c1))), (3, .int (iI at1)), (2, .int (iI pile)), (0, .ref 530), (1, .int (iI wi))], [], S2361) _
                          refine T_p xr_159_152 xn_159 (pc' := 154) (ls' := [(5, .int (iI ((30 * wi) + (wS1 wi)))), (4, .int (iI (so c1))), (3, .int (iI at1)), (2, .int (iI pile)), (0, .ref 530), (1, .int (iI wi))]) (st' := [.int (iI (so c1))]) rfl ?_
                          refine T_p xr_159_154 xn_159 (pc' := 156) (ls' := [(5, .int (iI ((30 * wi) + (wS1 wi)))), (4, .int (iI (so c1))), (3, .int (iI at1)), (2, .int (iI pile)), (0, .ref 530), (1, .int (iI wi))]) (st' := [.int (iI 64), .int (iI (so c1))]) rfl ?_
                          refine T_zicmp_ne xr_159_156 (t := 204) (pc' := 159) rfl rfl (fun c2375 => ?_) (fun c2375 => ?_)
                          · skip
                            have c2375 : ¬ (so c1) = 64 := c2375
                            refine T_p xr_159_204 xn_159 (pc' := 206) (ls' := [(5, .int (iI ((30 * wi) + (wS1 wi)))), (4, .int (iI (so c1))), (3, .int (iI at1)), (2, .int (iI pile)), (0, .ref 530), (1, .int (iI wi))]) (st' := [.int (iI (so c1))]) rfl ?_
                            refine T_p xr_159_206 xn_159 (pc' := 208) (ls' := [(5, .int (iI ((30 * wi) + (wS1 wi)))), (4, .int (iI (so c1))), (3, .int (iI at1)), (2, .int (iI pile)), (0, .ref 530), (1, .int (iI wi))]) (st' := [.int (iI 110), .int (iI (so c1))]) rfl ?_
                            refine T_zicmp_eq xr_159_208 (t := 218) (pc' := 211) rfl rfl (fun c2376 => ?_) (fun c2376 => ?_)
                            · skip
                              have c2376 : (so c1) = 110 := c2376
                              exact (show False by omega).elim
                            · skip
                              have c2376 : ¬ ((so c1) = 110) := c2376
                              refine T_p xr_159_211 xn_159 (pc' := 213) (ls' := [(5, .int (iI ((30 * wi) + (wS1 wi)))), (4, .int (iI (so c1))), (3, .int (iI at1)), (2, .int (iI pile)), (0, .ref 530), (1, .int (iI wi))]) (st' := [.int (iI (so c1))]) rfl ?_
                              refine T_p xr_159_213 xn_159 (pc' := 215) (ls' := [(5, .int (iI ((30 * wi) + (wS1 wi)))), (4, .int (iI (so c1))), (3, .int (iI at1)), (2, .int (iI pile)), (0, .ref 530), (1, .int (iI wi))]) (st' := [.int (iI 64), .int (iI (so c1))]) rfl ?_
                              refine T_zicmp_ne xr_159_215 (t := 222) (pc' := 218) rfl rfl (fun c2377 => ?_) (fun c2377 => ?_)
                              · skip
                                have c2377 : ¬ (so c1) = 64 := c2377
                                refine T_p xr_159_222 xn_159 (pc' := 223) (ls' := [(5, .int (iI ((30 * wi) + (wS1 wi)))), (4, .int (iI (so c1))), (3, .int (iI at1)), (2, .int (iI pile)), (0, .ref 530), (1, .int (iI wi))]) (st' := [.int (iI 0)]) rfl ?_
                                refine T_p xr_159_223 xn_159 (pc' := 225) (ls' := [(6, .int (iI 0)), (5, .int (iI ((30 * wi) + (wS1 wi)))), (4, .int (iI (so c1))), (3, .int (iI at1)), (2, .int (iI pile)), (0, .ref 530), (1, .int (iI wi))]) (st' := []) rfl ?_
                                refine T_p xr_159_225 xn_159 (pc' := 227) (ls' := [(6, .int (iI 0)), (5, .int (iI ((30 * wi) + (wS1 wi)))), (4, .int (iI (so c1))), (3, .int (iI at1)), (2, .int (iI pile)), (0, .ref 530), (1, .int (iI wi))]) (st' := [.int (iI 0)]) rfl ?_
                                refine T_zif_eqt xr_159_227 (t := 272) rfl (by decide) ?_
                                refine T_p xr_159_272 xn_159 (pc' := 273) (ls' := [(6, .int (iI 0)), (5, .int (iI ((30 * wi) + (wS1 wi)))), (4, .int (iI (so c1))), (3, .int (iI at1)), (2, .int (iI pile)), (0, .ref 530), (1, .int (iI wi))]) (st' := [.int (iI pile)]) rfl ?_
                                refine T_p xr_159_273 xn_159 (pc' := 274) (ls' := [(6, .int (iI 0)), (5, .int (iI ((30 * wi) + (wS1 wi)))), (4, .int (iI (so c1))), (3, .int (iI at1)), (2, .int (iI pile)), (0, .ref 530), (1, .int (iI wi))]) (st' := [.int (iI 2), .int (iI pile)]) rfl ?_
                                refine T_zicmp_ge xr_159_274 (t := 283) (pc' := 277) rfl rfl (fun c2378 => ?_) (fun c2378 => ?_)
                                · skip
                                  have c2378 : 2 ≤ pile := c2378
                                  refine T_p xr_159_283 xn_159 (pc' := 284) (ls' := [(6, .int (iI 0)), (5, .int (iI ((30 * wi) + (wS1 wi)))), (4, .int (iI (so c1))), (3, .int (iI at1)), (2, .int (iI pile)), (0, .ref 530), (1, .int (iI wi))]) (st' := [.int (iI pile)]) rfl ?_
                                  refine T_p xr_159_284 xn_159 (pc' := 286) (ls' := [(6, .int (iI 0)), (5, .int (iI ((30 * wi) + (wS1 wi)))), (4, .int (iI (so c1))), (3, .int (iI at1)), (2, .int (iI pile)), (0, .ref 530), (1, .int (iI wi))]) (st' := [.int (iI 0), .int (iI pile)]) rfl ?_
                                  refine T_zif_eqt xr_159_286 (t := 293) rfl (by decide) ?_
                                  refine T_p xr_159_293 xn_159 (pc' := 294) (ls' := [(6, .int (iI 0)), (5, .int (iI ((30 * wi) + (wS1 wi)))), (4, .int (iI (so c1))), (3, .int (iI at1)), (2, .int (iI pile)), (0, .ref 530), (1, .int (iI wi))]) (st' := [.int (iI (-1)), .int (iI pile)]) rfl ?_
                                  refine T_ziadd xr_159_294 (z := pile + (-1)) rfl (pc' := 295) rfl ?_
                                  refine T_p xr_159_295 xn_159 (pc' := 296) (ls' := [(2, .int (iI (pile + (-1)))), (6, .int (iI 0)), (5, .int (iI ((30 * wi) + (wS1 wi)))), (4, .int (iI (so c1))), (3, .int (iI at1)), (0, .ref 530), (1, .int (iI wi))]) (st' := []) rfl ?_
                                  refine T_p xr_159_296 xn_159 (pc' := 297) (ls' := [(2, .int (iI (pile + (-1)))), (6, .int (iI 0)), (5, .int (iI ((30 * wi) + (wS1 wi)))), (4, .int (iI (so c1))), (3, .int (iI at1)), (0, .ref 530), (1, .int (iI wi))]) (st' := [.ref 530]) rfl ?_
                                  refine T_get xr_159_297 h2373 rfl (v := .ref 542) rfl (pc' := 300) rfl ?_
                                  refine T_p xr_159_300 xn_159 (pc' := 301) (ls' := [(2, .int (iI (pile + (-1)))), (6, .int (iI 0)), (5, .int (iI ((30 * wi) + (wS1 wi)))), (4, .int (iI (so c1))), (3, .int (iI at1)), (0, .ref 530), (1, .int (iI wi))]) (st' := [.int (iI wi), .ref 542]) rfl ?_
                                  refine T_p xr_159_301 xn_159 (pc' := 302) (ls' := [(2, .int (iI (pile + (-1)))), (6, .int (iI 0)), (5, .int (iI ((30 * wi) + (wS1 wi)))), (4, .int (iI (so c1))), (3, .int (iI at1)), (0, .ref 530), (1, .int (iI wi))]) (st' := [.int (iI wi), .ref 542, .int (iI wi), .ref 542]) rfl ?_
                                  have h2379 := (hf2372.1 542 (by first | decide | omega)).trans ((n2356 542 (by decide)).trans ((n2350 542 (by decide)).trans (hA1)))
                                  refine T_ziald xr_159_302 h2379 (pc' := 303) rfl ?_
                                  refine T_p xr_159_303 xn_159 (pc' := 304) (ls' := [(2, .int (iI (pile + (-1)))), (6, .int (iI 0)), (5, .int (iI ((30 * wi) + (wS1 wi)))), (4, .int (iI (so c1))), (3, .int (iI at1)), (0, .ref 530), (1, .int (iI wi))]) (st' := [.int (iI 1), .int (iI (wS1 wi)), .int (iI wi), .ref 542]) rfl ?_
                                  refine T_ziadd xr_159_304 (z := (wS1 wi) + 1) rfl (pc' := 305) rfl ?_
                                  refine T_ziast xr_159_305 h2379 (pc' := 306) rfl (fun S2380 h2381 n2382 e2383 => ?_)
                                  refine T_p xr_159_306 xn_159 (pc' := 9) (ls' := [(2, .int (iI (pile + (-1)))), (6, .int (iI 0)), (5, .int (iI ((30 * wi) + (wS1 wi)))), (4, .int (iI (so c1))), (3, .int (iI at1)), (0, .ref 530), (1, .int (iI wi))]) (st' := []) rfl ?_
                                  have h2384 := (n2382 530 (by decide)).trans (h2373)
                                  have h2385 := (n2382 543 (by decide)).trans ((hf2372.1 543 (by first | decide | omega)).trans ((n2356 543 (by decide)).trans (h2349)))
                                  have h2386 := (n2382 544 (by decide)).trans ((hf2372.1 544 (by first | decide | omega)).trans (h2355))
                                  have h52387 : (X_aS d1 (so c1) (X_vl ct c1)) 5 0 = d1 5 0 + 1 := rfl
                                  have hs2388 : sp_step n so ct c1 d1 pile = some (X_av n c1, X_aS d1 (so c1) (X_vl ct c1), pile + (-1)) := by
                                    exact sp_step_o (by unfold X_isOp; omega) (by omega)
                                  refine T_sub (ls := [(2, .int (iI (pile + (-1)))), (0, .ref 530), (1, .int (iI wi))]) ⟨rfl, rfl, rfl, trivial⟩ rfl rfl ?_
                                  exact ih2184 S2380 (o 5) g1 at2363 en2364 tk2365 nu2366 dg2367 nm2368 (X_av n c1) (X_aS d1 (so c1) (X_vl ct c1)) (pile + (-1)) (X_ug wS1 wi ((wS1 wi) + 1)) (X_ug sO1 ((30 * wi) + (wS1 wi)) (so c1)) (X_ug sN1 ((30 * wi) + (wS1 wi)) nu1) h2384 h2381 h2385 h2386 (hF2187.tr (((((X_Fr.rf).tr (X_Fr.of n2350 e2351 (by first | decide | exact ⟨Nat.le_add_right _ _, Nat.add_le_add_left (by decide) _⟩ | omega))).tr (X_Fr.of n2356 e2357 (by first | decide | exact ⟨Nat.le_add_right _ _, Nat.add_le_add_left (by decide) _⟩ | omega))).tr (X_Fr.mono ⟨hf2372.1, hf2372.2⟩ (fun q hq => by first | exact hq | (rcases hq with rfl <;> decide) | (rcases hq with rfl | rfl <;> decide) | (rcases hq with rfl | rfl | rfl <;> decide) | (rcases hq with rfl | rfl | rfl | rfl <;> decide) | (rcases hq with rfl | rfl | rfl | rfl | rfl <;> decide) | (rcases hq with rfl | rfl | rfl | rfl | rfl | rfl <;> decide) | (rcases hq with rfl | rfl | rfl | rfl | rfl | rfl | rfl <;> decide) | omega))).tr (X_Fr.of n2382 e2383 (by first | decide | exact ⟨Nat.le_add_right _ _, Nat.add_le_add_left (by decide) _⟩ | omega)))) (by omega) (by omega) (fun _ => ⟨hp2370, R_s_S (s := so c1) (v := X_vl ct c1) (by omega) ⟨fun _ => by omega, fun z => by omega⟩ hS1 (by omega) (by omega) (by first | rfl | (unfold X_op; rw [if_neg (by omega)])) ⟨X_ug_s _ _ _, fun i hi => X_ug_n _ _ hi⟩, (by
                                        rw [← hR, show (30 - d1 5 0).toNat = (30 - (d1 5 0 + 1)).toNat + 1 by omega]
                                        show _ = (if so c1 = 59 then _ else _)
                                        rw [if_neg (by assumption), hs2388]
                                        rfl), (by omega), (by show 0 ≤ d1 5 0 + 1 ∧ d1 5 0 + 1 ≤ 30; omega), hd4⟩) (fun z => absurd h5 z) (hob1.up (by omega)) (hob2.up (by omega)) (hob3.up (by omega)) (by omega)
                                · skip
                                  have c2378 : ¬ (2 ≤ pile) := c2378
                                  refine T_p xr_159_277 xn_159 (pc' := 278) (ls' := [(6, .int (iI 0)), (5, .int (iI ((30 * wi) + (wS1 wi)))), (4, .int (iI (so c1))), (3, .int (iI at1)), (2, .int (iI pile)), (0, .ref 530), (1, .int (iI wi))]) (st' := [.ref 530]) rfl ?_
                                  refine T_p xr_159_278 xn_159 (pc' := 279) (ls' := [(6, .int (iI 0)), (5, .int (iI ((30 * wi) + (wS1 wi)))), (4, .int (iI (so c1))), (3, .int (iI at1)), (2, .int (iI pile)), (0, .ref 530), (1, .int (iI wi))]) (st' := [.int (iI 5), .ref 530]) rfl ?_
                                  refine T_p xr_159_279 xn_159 (pc' := 280) (ls' := [(6, .int (iI 0)), (5, .int (iI ((30 * wi) + (wS1 wi)))), (4, .int (iI (so c1))), (3, .int (iI at1)), (2, .int (iI pile)), (0, .ref 530), (1, .int (iI wi))]) (st' := [.int (iI at1), .int (iI 5), .ref 530]) rfl ?_
                                  refine T_cv (S := S2361) (q := 530) xr_159_280 xf_139.1 xf_139.2.1 xn_139 (as := [.int (iI 5), .int (iI at1)]) (r := []) rfl h2373 (Nat.le_of_ble_eq_true rfl) (Nat.le_of_ble_eq_true rfl) (pc' := 283) rfl (ls' := [(0, .ref 530), (1, .int (iI 5)), (2, .int (iI at1))]) rfl ?_
                                  refine T_mono (r_fails sc S2361 (X_ou (X_ou (X_ou (X_ou (X_ou (X_ou o 6 g1) 7 at2363) 8 en2364) 9 tk2365) 10 nu2366) 11 dg2367) nm2368 5 at1 h2373 (show 0 ≤ (o 5) ∧ (o 5) ≤ 5 from by omega) (by omega)) (fun v2389 S2390 h2391 => ?_)
                                  rcases h2391 with ⟨f2392, g2393, hv2394, hp2395, hM2396, hf2397⟩
                                  rw [hv2394]
                                  have h2398 : S2390.1 530 = .inr (11, [.ref 531, .int (iI (o 1)), .ref 532, .int (iI (o 3)), .int (iI (o 4)), .int (iI f2392), .int (iI g2393), .int (iI at2363), .int (iI en2364), .int (iI tk2365), .int (iI nu2366), .int (iI dg2367), .long nm2368, .ref 533, .ref 534, .ref 535, .ref 536, .ref 537, .ref 538, .ref 539, .ref 540, .ref 541, .ref 542, .ref 543, .ref 544, .ref 545, .ref 546, .ref 547, .int (iI (o 28)), .int (iI (o 29)), .int (iI (o 30)), .int (iI (o 31)), .int (iI (o 32)), .int (iI (o 33)), .ref 548, .ref 549, .ref 550, .ref 551, .int (iI (o 38)), .ref 552, .ref 553, .ref 554, .ref 555, .ref 556, .ref 557, .ref 558, .ref 559, .ref 560, .ref 561, .int (iI (o 49)), .ref 562, .ref 563, .ref 564, .ref 565, .ref 566, .ref 567, .ref 568, .ref 569, .int (iI (o 58)), .ref 570, .ref 571, .ref 572, .ref 573, .ref 574, .ref 575, .ref 576, .ref 577, .ref 578, .int (iI (o 68)), .int (iI (o 69)), .int (iI (o 70)), .ref 579]) := hM2396
                                  have hp2395 : ((o 5) = 0 → f2392 = 5) ∧ (¬ (o 5) = 0 → f2392 = (o 5)) := hp2395
                                  have hf2399 : f2392 = 5 := hp2395.1 h5
                                  show X_T sc 159 (283, [(6, .int (iI 0)), (5, .int (iI ((30 * wi) + (wS1 wi)))), (4, .int (iI (so c1))), (3, .int (iI at1)), (2, .int (iI pile)), (0, .ref 530), (1, .int (iI wi))], [], S2390) _
                                  refine T_p xr_159_283 xn_159 (pc' := 284) (ls' := [(6, .int (iI 0)), (5, .int (iI ((30 * wi) + (wS1 wi)))), (4, .int (iI (so c1))), (3, .int (iI at1)), (2, .int (iI pile)), (0, .ref 530), (1, .int (iI wi))]) (st' := [.int (iI pile)]) rfl ?_
                                  refine T_p xr_159_284 xn_159 (pc' := 286) (ls' := [(6, .int (iI 0)), (5, .int (iI ((30 * wi) + (wS1 wi)))), (4, .int (iI (so c1))), (3, .int (iI at1)), (2, .int (iI pile)), (0, .ref 530), (1, .int (iI wi))]) (st' := [.int (iI 0), .int (iI pile)]) rfl ?_
                                  refine T_zif_eqt xr_159_286 (t := 293) rfl (by decide) ?_
                                  refine T_p xr_159_293 xn_159 (pc' := 294) (ls' := [(6, .int (iI 0)), (5, .int (iI ((30 * wi) + (wS1 wi)))), (4, .int (iI (so c1))), (3, .int (iI at1)), (2, .int (iI pile)), (0, .ref 530), (1, .int (iI wi))]) (st' := [.int (iI (-1)), .int (iI pile)]) rfl ?_
                                  refine T_ziadd xr_159_294 (z := pile + (-1)) rfl (pc' := 295) rfl ?_
                                  refine T_p xr_159_295 xn_159 (pc' := 296) (ls' := [(2, .int (iI (pile + (-1)))), (6, .int (iI 0)), (5, .int (iI ((30 * wi) + (wS1 wi)))), (4, .int (iI (so c1))), (3, .int (iI at1)), (0, .ref 530), (1, .int (iI wi))]) (st' := []) rfl ?_
                                  refine T_p xr_159_296 xn_159 (pc' := 297) (ls' := [(2, .int (iI (pile + (-1)))), (6, .int (iI 0)), (5, .int (iI ((30 * wi) + (wS1 wi)))), (4, .int (iI (so c1))), (3, .int (iI at1)), (0, .ref 530), (1, .int (iI wi))]) (st' := [.ref 530]) rfl ?_
                                  refine T_get xr_159_297 h2398 rfl (v := .ref 542) rfl (pc' := 300) rfl ?_
                                  refine T_p xr_159_300 xn_159 (pc' := 301) (ls' := [(2, .int (iI (pile + (-1)))), (6, .int (iI 0)), (5, .int (iI ((30 * wi) + (wS1 wi)))), (4, .int (iI (so c1))), (3, .int (iI at1)), (0, .ref 530), (1, .int (iI wi))]) (st' := [.int (iI wi), .ref 542]) rfl ?_
                                  refine T_p xr_159_301 xn_159 (pc' := 302) (ls' := [(2, .int (iI (pile + (-1)))), (6, .int (iI 0)), (5, .int (iI ((30 * wi) + (wS1 wi)))), (4, .int (iI (so c1))), (3, .int (iI at1)), (0, .ref 530), (1, .int (iI wi))]) (st' := [.int (iI wi), .ref 542, .int (iI wi), .ref 542]) rfl ?_
                                  have h2400 := (hf2397.1 542 (by first | decide | omega)).trans ((hf2372.1 542 (by first | decide | omega)).trans ((n2356 542 (by decide)).trans ((n2350 542 (by decide)).trans (hA1))))
                                  refine T_ziald xr_159_302 h2400 (pc' := 303) rfl ?_
                                  refine T_p xr_159_303 xn_159 (pc' := 304) (ls' := [(2, .int (iI (pile + (-1)))), (6, .int (iI 0)), (5, .int (iI ((30 * wi) + (wS1 wi)))), (4, .int (iI (so c1))), (3, .int (iI at1)), (0, .ref 530), (1, .int (iI wi))]) (st' := [.int (iI 1), .int (iI (wS1 wi)), .int (iI wi), .ref 542]) rfl ?_
                                  refine T_ziadd xr_159_304 (z := (wS1 wi) + 1) rfl (pc' := 305) rfl ?_
                                  refine T_ziast xr_159_305 h2400 (pc' := 306) rfl (fun S2401 h2402 n2403 e2404 => ?_)
                                  refine T_p xr_159_306 xn_159 (pc' := 9) (ls' := [(2, .int (iI (pile + (-1)))), (6, .int (iI 0)), (5, .int (iI ((30 * wi) + (wS1 wi)))), (4, .int (iI (so c1))), (3, .int (iI at1)), (0, .ref 530), (1, .int (iI wi))]) (st' := []) rfl ?_
                                  have h2405 := (n2403 530 (by decide)).trans (h2398)
                                  have h2406 := (n2403 543 (by decide)).trans ((hf2397.1 543 (by first | decide | omega)).trans ((hf2372.1 543 (by first | decide | omega)).trans ((n2356 543 (by decide)).trans (h2349))))
                                  have h2407 := (n2403 544 (by decide)).trans ((hf2397.1 544 (by first | decide | omega)).trans ((hf2372.1 544 (by first | decide | omega)).trans (h2355)))
                                  have h52408 : (X_aS d1 0 0) 5 0 = d1 5 0 + 1 := rfl
                                  have hs2409 : sp_step n so ct c1 d1 pile = none := by
                                    first | exact sp_step_of (by unfold X_isOp; omega) (by omega) | exact sp_step_x (by omega) (by omega) (by unfold X_isOp; omega)
                                  refine T_sub (ls := [(2, .int (iI (pile + (-1)))), (0, .ref 530), (1, .int (iI wi))]) ⟨rfl, rfl, rfl, trivial⟩ rfl rfl ?_
                                  exact ih2184 S2401 f2392 g2393 at2363 en2364 tk2365 nu2366 dg2367 nm2368 (X_av n c1) (X_aS d1 0 0) (pile + (-1)) (X_ug wS1 wi ((wS1 wi) + 1)) (X_ug sO1 ((30 * wi) + (wS1 wi)) (so c1)) (X_ug sN1 ((30 * wi) + (wS1 wi)) nu1) h2405 h2402 h2406 h2407 (hF2187.tr ((((((X_Fr.rf).tr (X_Fr.of n2350 e2351 (by first | decide | exact ⟨Nat.le_add_right _ _, Nat.add_le_add_left (by decide) _⟩ | omega))).tr (X_Fr.of n2356 e2357 (by first | decide | exact ⟨Nat.le_add_right _ _, Nat.add_le_add_left (by decide) _⟩ | omega))).tr (X_Fr.mono ⟨hf2372.1, hf2372.2⟩ (fun q hq => by first | exact hq | (rcases hq with rfl <;> decide) | (rcases hq with rfl | rfl <;> decide) | (rcases hq with rfl | rfl | rfl <;> decide) | (rcases hq with rfl | rfl | rfl | rfl <;> decide) | (rcases hq with rfl | rfl | rfl | rfl | rfl <;> decide) | (rcases hq with rfl | rfl | rfl | rfl | rfl | rfl <;> decide) | (rcases hq with rfl | rfl | rfl | rfl | rfl | rfl | rfl <;> decide) | omega))).tr (X_Fr.mono ⟨hf2397.1, hf2397.2⟩ (fun q hq => by first | exact hq | (rcases hq with rfl <;> decide) | (rcases hq with rfl | rfl <;> decide) | (rcases hq with rfl | rfl | rfl <;> decide) | (rcases hq with rfl | rfl | rfl | rfl <;> decide) | (rcases hq with rfl | rfl | rfl | rfl | rfl <;> decide) | (rcases hq with rfl | rfl | rfl | rfl | rfl | rfl <;> decide) | (rcases hq with rfl | rfl | rfl | rfl | rfl | rfl | rfl <;> decide) | omega))).tr (X_Fr.of n2403 e2404 (by first | decide | exact ⟨Nat.le_add_right _ _, Nat.add_le_add_left (by decide) _⟩ | omega)))) (by omega) (by omega) (fun z => absurd z (by omega)) (fun _ => by
                                        rw [← hR, show (30 - d1 5 0).toNat = (30 - (d1 5 0 + 1)).toNat + 1 by omega]
                                        show (if so c1 = 59 then _ else _) = none
                                        rw [if_neg (by assumption), hs2409]
                                        rfl) (hob1.up (by omega)) (hob2.up (by omega)) (hob3.up (by omega)) (by omega)
                              · skip
                                have c2377 : ¬ (¬ (so c1) = 64) := c2377
                                exact (show False by first | contradiction | omega).elim
                          · skip
                            have c2375 : ¬ (¬ (so c1) = 64) := c2375
                            refine T_p xr_159_159 xn_159 (pc' := 160) (ls' := [(5, .int (iI ((30 * wi) + (wS1 wi)))), (4, .int (iI (so c1))), (3, .int (iI at1)), (2, .int (iI pile)), (0, .ref 530), (1, .int (iI wi))]) (st' := [.ref 530]) rfl ?_
                            refine T_get xr_159_160 h2373 rfl (v := .int (iI tk2365)) rfl (pc' := 163) rfl ?_
                            refine T_p xr_159_163 xn_159 (pc' := 164) (ls' := [(5, .int (iI ((30 * wi) + (wS1 wi)))), (4, .int (iI (so c1))), (3, .int (iI at1)), (2, .int (iI pile)), (0, .ref 530), (1, .int (iI wi))]) (st' := [.int (iI 4), .int (iI tk2365)]) rfl ?_
                            refine T_zicmp_ne xr_159_164 (t := 175) (pc' := 167) rfl rfl (fun c2410 => ?_) (fun c2410 => ?_)
                            · skip
                              have c2410 : ¬ tk2365 = 4 := c2410
                              refine T_p xr_159_175 xn_159 (pc' := 176) (ls' := [(5, .int (iI ((30 * wi) + (wS1 wi)))), (4, .int (iI (so c1))), (3, .int (iI at1)), (2, .int (iI pile)), (0, .ref 530), (1, .int (iI wi))]) (st' := [.ref 530]) rfl ?_
                              refine T_cv (S := S2361) (q := 530) xr_159_176 xf_147.1 xf_147.2.1 xn_147 (as := []) (r := []) rfl h2373 (Nat.le_of_ble_eq_true rfl) (Nat.le_of_ble_eq_true rfl) (pc' := 179) rfl (ls' := [(0, .ref 530)]) rfl ?_
                              have h2411 := (hf2372.1 532 (by first | decide | omega)).trans (h2359)
                              refine T_mono (r_wrong sc S2361 (X_ou (X_ou (X_ou (X_ou (X_ou (X_ou o 6 g1) 7 at2363) 8 en2364) 9 tk2365) 10 nu2366) 11 dg2367) nm2368 tx tb len n so pl ct E (X_av n c1) h2373 h2411 (show (o 3) = len from by first | assumption | omega) hl htx hX hp2370 (show 0 ≤ (o 5) ∧ (o 5) ≤ 5 from by omega)) (fun v2412 S2413 h2414 => ?_)
                              rcases h2414 with ⟨f2415, g2416, hv2417, hp2418, hM2419, hf2420⟩
                              rw [hv2417]
                              have h2421 : S2413.1 530 = .inr (11, [.ref 531, .int (iI (o 1)), .ref 532, .int (iI (o 3)), .int (iI (o 4)), .int (iI f2415), .int (iI g2416), .int (iI at2363), .int (iI en2364), .int (iI tk2365), .int (iI nu2366), .int (iI dg2367), .long nm2368, .ref 533, .ref 534, .ref 535, .ref 536, .ref 537, .ref 538, .ref 539, .ref 540, .ref 541, .ref 542, .ref 543, .ref 544, .ref 545, .ref 546, .ref 547, .int (iI (o 28)), .int (iI (o 29)), .int (iI (o 30)), .int (iI (o 31)), .int (iI (o 32)), .int (iI (o 33)), .ref 548, .ref 549, .ref 550, .ref 551, .int (iI (o 38)), .ref 552, .ref 553, .ref 554, .ref 555, .ref 556, .ref 557, .ref 558, .ref 559, .ref 560, .ref 561, .int (iI (o 49)), .ref 562, .ref 563, .ref 564, .ref 565, .ref 566, .ref 567, .ref 568, .ref 569, .int (iI (o 58)), .ref 570, .ref 571, .ref 572, .ref 573, .ref 574, .ref 575, .ref 576, .ref 577, .ref 578, .int (iI (o 68)), .int (iI (o 69)), .int (iI (o 70)), .ref 579]) := hM2419
                              show X_T sc 159 (179, [(5, .int (iI ((30 * wi) + (wS1 wi)))), (4, .int (iI (so c1))), (3, .int (iI at1)), (2, .int (iI pile)), (0, .ref 530), (1, .int (iI wi))], [], S2413) _
                              refine T_p xr_159_179 xn_159 (pc' := 180) (ls' := [(5, .int (iI ((30 * wi) + (wS1 wi)))), (4, .int (iI (so c1))), (3, .int (iI at1)), (2, .int (iI pile)), (0, .ref 530), (1, .int (iI wi))]) (st' := [.ref 530]) rfl ?_
                              refine T_cv (S := S2413) (q := 530) xr_159_180 xf_140.1 xf_140.2.1 xn_140 (as := []) (r := []) rfl h2421 (Nat.le_of_ble_eq_true rfl) (Nat.le_of_ble_eq_true rfl) (pc' := 183) rfl (ls' := [(0, .ref 530)]) rfl ?_
                              refine T_mono (r_isGood sc S2413 (X_ou (X_ou (X_ou (X_ou (X_ou (X_ou (X_ou o 5 f2415) 6 g2416) 7 at2363) 8 en2364) 9 tk2365) 10 nu2366) 11 dg2367) nm2368 h2421 (show 0 ≤ f2415 ∧ f2415 ≤ 5 from by omega)) (fun v2422 S2423 h2424 => ?_)
                              rcases h2424 with ⟨hv2425, hf2426⟩
                              rw [hv2425]
                              rw [hf2426]
                              show X_T sc 159 (183, [(5, .int (iI ((30 * wi) + (wS1 wi)))), (4, .int (iI (so c1))), (3, .int (iI at1)), (2, .int (iI pile)), (0, .ref 530), (1, .int (iI wi))], [.int (iI (bI (f2415 = 0)))], S2413) _
                              refine T_bif_ne xr_159_183 (t := 187) (pc' := 186) rfl rfl (fun c2427 => ?_) (fun c2427 => ?_)
                              · skip
                                have c2427 : (f2415 = 0) := c2427
                                exact (show False by first | contradiction | omega).elim
                              · skip
                                have c2427 : ¬ (f2415 = 0) := c2427
                                refine T_vret xr_159_186 xf_159.2.2 ?_
                                refine hQ _ _ ?_
                                have h2428 := (hf2420.1 542 (by first | decide | omega)).trans ((hf2372.1 542 (by first | decide | omega)).trans ((n2356 542 (by decide)).trans ((n2350 542 (by decide)).trans (hA1))))
                                have h2429 := (hf2420.1 543 (by first | decide | omega)).trans ((hf2372.1 543 (by first | decide | omega)).trans ((n2356 543 (by decide)).trans (h2349)))
                                have h2430 := (hf2420.1 544 (by first | decide | omega)).trans ((hf2372.1 544 (by first | decide | omega)).trans (h2355))
                                refine Or.inr ⟨at2363, en2364, tk2365, nu2366, dg2367, nm2368, f2415, g2416, wS1, (X_ug sO1 ((30 * wi) + (wS1 wi)) (so c1)), (X_ug sN1 ((30 * wi) + (wS1 wi)) nu1), rfl, by omega, ?_, by first | exact hob1 | exact hob1.up (by omega) | exact (hob1.up (by omega)).up (by omega), by first | exact hob2 | exact hob2.up (by omega) | exact (hob2.up (by omega)).up (by omega), by first | exact hob3 | exact hob3.up (by omega) | exact (hob3.up (by omega)).up (by omega), h2421, h2428, h2429, h2430, ((((((X_Fr.rf).tr (X_Fr.of n2181 e2182 (by first | decide | exact ⟨Nat.le_add_right _ _, Nat.add_le_add_left (by decide) _⟩ | omega))).tr (X_Fr.mono ⟨hF2187.1, hF2187.2⟩ (fun q hq => by first | exact hq | (rcases hq with rfl <;> decide) | (rcases hq with rfl | rfl <;> decide) | (rcases hq with rfl | rfl | rfl <;> decide) | (rcases hq with rfl | rfl | rfl | rfl <;> decide) | (rcases hq with rfl | rfl | rfl | rfl | rfl <;> decide) | (rcases hq with rfl | rfl | rfl | rfl | rfl | rfl <;> decide) | (rcases hq with rfl | rfl | rfl | rfl | rfl | rfl | rfl <;> decide) | omega))).tr (X_Fr.of n2350 e2351 (by first | decide | exact ⟨Nat.le_add_right _ _, Nat.add_le_add_left (by decide) _⟩ | omega))).tr (X_Fr.of n2356 e2357 (by first | decide | exact ⟨Nat.le_add_right _ _, Nat.add_le_add_left (by decide) _⟩ | omega))).tr (X_Fr.mono ⟨hf2372.1, hf2372.2⟩ (fun q hq => by first | exact hq | (rcases hq with rfl <;> decide) | (rcases hq with rfl | rfl <;> decide) | (rcases hq with rfl | rfl | rfl <;> decide) | (rcases hq with rfl | rfl | rfl | rfl <;> decide) | (rcases hq with rfl | rfl | rfl | rfl | rfl <;> decide) | (rcases hq with rfl | rfl | rfl | rfl | rfl | rfl <;> decide) | (rcases hq with rfl | rfl | rfl | rfl | rfl | rfl | rfl <;> decide) | omega))).tr (X_Fr.mono ⟨hf2420.1, hf2420.2⟩ (fun q hq => by first | exact hq | (rcases hq with rfl <;> decide) | (rcases hq with rfl | rfl <;> decide) | (rcases hq with rfl | rfl | rfl <;> decide) | (rcases hq with rfl | rfl | rfl | rfl <;> decide) | (rcases hq with rfl | rfl | rfl | rfl | rfl <;> decide) | (rcases hq with rfl | rfl | rfl | rfl | rfl | rfl <;> decide) | (rcases hq with rfl | rfl | rfl | rfl | rfl | rfl | rfl <;> decide) | omega))⟩
                                by_cases h30 : d1 5 0 = 30
                                · right
                                  refine ⟨c1, d1, pile, ?_, Or.inl (by assumption)⟩
                                  rw [← hR, show (30 - d1 5 0).toNat = 0 by omega]
                                  rfl
                                · left
                                  have hs : sp_step n so ct c1 d1 pile = none := by
                                    exact sp_step_af (by omega) (by omega)
                                  rw [← hR, show (30 - d1 5 0).toNat = (30 - (d1 5 0 + 1)).toNat + 1 by omega]
                                  show (if so c1 = 59 then _ else _) = none
                                  rw [if_neg (by assumption), hs]
                                  rfl
                            · skip
                              have c2410 : ¬ (¬ tk2365 = 4) := c2410
                              obtain ⟨hctn, hdgA, ⟨hdgB, hdgC⟩, hdgD, hdgE⟩ := hp2370.2.2.2.2.2 (by omega)
                              refine T_p xr_159_167 xn_159 (pc' := 168) (ls' := [(5, .int (iI ((30 * wi) + (wS1 wi)))), (4, .int (iI (so c1))), (3, .int (iI at1)), (2, .int (iI pile)), (0, .ref 530), (1, .int (iI wi))]) (st' := [.ref 530]) rfl ?_
                              refine T_get xr_159_168 h2373 rfl (v := .int (iI dg2367)) rfl (pc' := 171) rfl ?_
                              refine T_p xr_159_171 xn_159 (pc' := 172) (ls' := [(5, .int (iI ((30 * wi) + (wS1 wi)))), (4, .int (iI (so c1))), (3, .int (iI at1)), (2, .int (iI pile)), (0, .ref 530), (1, .int (iI wi))]) (st' := [.int (iI 1), .int (iI dg2367)]) rfl ?_
                              refine T_zicmp_le xr_159_172 (t := 179) (pc' := 175) rfl rfl (fun c2431 => ?_) (fun c2431 => ?_)
                              · skip
                                have c2431 : dg2367 ≤ 1 := c2431
                                refine T_p xr_159_179 xn_159 (pc' := 180) (ls' := [(5, .int (iI ((30 * wi) + (wS1 wi)))), (4, .int (iI (so c1))), (3, .int (iI at1)), (2, .int (iI pile)), (0, .ref 530), (1, .int (iI wi))]) (st' := [.ref 530]) rfl ?_
                                refine T_cv (S := S2361) (q := 530) xr_159_180 xf_140.1 xf_140.2.1 xn_140 (as := []) (r := []) rfl h2373 (Nat.le_of_ble_eq_true rfl) (Nat.le_of_ble_eq_true rfl) (pc' := 183) rfl (ls' := [(0, .ref 530)]) rfl ?_
                                refine T_mono (r_isGood sc S2361 (X_ou (X_ou (X_ou (X_ou (X_ou (X_ou o 6 g1) 7 at2363) 8 en2364) 9 tk2365) 10 nu2366) 11 dg2367) nm2368 h2373 (show 0 ≤ (o 5) ∧ (o 5) ≤ 5 from by omega)) (fun v2432 S2433 h2434 => ?_)
                                rcases h2434 with ⟨hv2435, hf2436⟩
                                rw [hv2435]
                                rw [hf2436]
                                show X_T sc 159 (183, [(5, .int (iI ((30 * wi) + (wS1 wi)))), (4, .int (iI (so c1))), (3, .int (iI at1)), (2, .int (iI pile)), (0, .ref 530), (1, .int (iI wi))], [.int (iI (bI ((o 5) = 0)))], S2361) _
                                refine T_bif_ne xr_159_183 (t := 187) (pc' := 186) rfl rfl (fun c2437 => ?_) (fun c2437 => ?_)
                                · skip
                                  have c2437 : ((o 5) = 0) := c2437
                                  refine T_p xr_159_187 xn_159 (pc' := 188) (ls' := [(5, .int (iI ((30 * wi) + (wS1 wi)))), (4, .int (iI (so c1))), (3, .int (iI at1)), (2, .int (iI pile)), (0, .ref 530), (1, .int (iI wi))]) (st' := [.ref 530]) rfl ?_
                                  refine T_get xr_159_188 h2373 rfl (v := .ref 544) rfl (pc' := 191) rfl ?_
                                  refine T_p xr_159_191 xn_159 (pc' := 193) (ls' := [(5, .int (iI ((30 * wi) + (wS1 wi)))), (4, .int (iI (so c1))), (3, .int (iI at1)), (2, .int (iI pile)), (0, .ref 530), (1, .int (iI wi))]) (st' := [.int (iI ((30 * wi) + (wS1 wi))), .ref 544]) rfl ?_
                                  refine T_p xr_159_193 xn_159 (pc' := 194) (ls' := [(5, .int (iI ((30 * wi) + (wS1 wi)))), (4, .int (iI (so c1))), (3, .int (iI at1)), (2, .int (iI pile)), (0, .ref 530), (1, .int (iI wi))]) (st' := [.ref 530, .int (iI ((30 * wi) + (wS1 wi))), .ref 544]) rfl ?_
                                  refine T_get xr_159_194 h2373 rfl (v := .int (iI nu2366)) rfl (pc' := 197) rfl ?_
                                  refine T_p xr_159_197 xn_159 (pc' := 198) (ls' := [(5, .int (iI ((30 * wi) + (wS1 wi)))), (4, .int (iI (so c1))), (3, .int (iI at1)), (2, .int (iI pile)), (0, .ref 530), (1, .int (iI wi))]) (st' := [.int (iI 1), .int (iI nu2366), .int (iI ((30 * wi) + (wS1 wi))), .ref 544]) rfl ?_
                                  refine T_zisub xr_159_198 (z := nu2366 - 1) rfl (pc' := 199) rfl ?_
                                  have h2438 := (hf2372.1 544 (by first | decide | omega)).trans (h2355)
                                  refine T_ziast xr_159_199 h2438 (pc' := 200) rfl (fun S2439 h2440 n2441 e2442 => ?_)
                                  refine T_p xr_159_200 xn_159 (pc' := 201) (ls' := [(5, .int (iI ((30 * wi) + (wS1 wi)))), (4, .int (iI (so c1))), (3, .int (iI at1)), (2, .int (iI pile)), (0, .ref 530), (1, .int (iI wi))]) (st' := [.ref 530]) rfl ?_
                                  have h2443 := (n2441 530 (by decide)).trans (h2373)
                                  refine T_cv (S := S2439) (q := 530) xr_159_201 xf_141.1 xf_141.2.1 xn_141 (as := []) (r := []) rfl h2443 (Nat.le_of_ble_eq_true rfl) (Nat.le_of_ble_eq_true rfl) (pc' := 204) rfl (ls' := [(0, .ref 530)]) rfl ?_
                                  have h2444 := (n2441 532 (by decide)).trans ((hf2372.1 532 (by first | decide | omega)).trans (h2359))
                                  refine T_mono (r_nx sc S2439 (X_ou (X_ou (X_ou (X_ou (X_ou (X_ou o 6 g1) 7 at2363) 8 en2364) 9 tk2365) 10 nu2366) 11 dg2367) nm2368 tx tb len n so pl ct E (X_av n c1) h2443 h2444 (show (o 3) = len from by first | assumption | omega) hl htx hX hp2370 (by omega)) (fun v2445 S2446 h2447 => ?_)
                                  rcases h2447 with ⟨at2448, en2449, tk2450, nu2451, dg2452, nm2453, hv2454, hp2455, hM2456, hf2457⟩
                                  rw [hv2454]
                                  have h2458 : S2446.1 530 = .inr (11, [.ref 531, .int (iI (o 1)), .ref 532, .int (iI (o 3)), .int (iI (o 4)), .int (iI (o 5)), .int (iI g1), .int (iI at2448), .int (iI en2449), .int (iI tk2450), .int (iI nu2451), .int (iI dg2452), .long nm2453, .ref 533, .ref 534, .ref 535, .ref 536, .ref 537, .ref 538, .ref 539, .ref 540, .ref 541, .ref 542, .ref 543, .ref 544, .ref 545, .ref 546, .ref 547, .int (iI (o 28)), .int (iI (o 29)), .int (iI (o 30)), .int (iI (o 31)), .int (iI (o 32)), .int (iI (o 33)), .ref 548, .ref 549, .ref 550, .ref 551, .int (iI (o 38)), .ref 552, .ref 553, .ref 554, .ref 555, .ref 556, .ref 557, .ref 558, .ref 559, .ref 560, .ref 561, .int (iI (o 49)), .ref 562, .ref 563, .ref 564, .ref 565, .ref 566, .ref 567, .ref 568, .ref 569, .int (iI (o 58)), .ref 570, .ref 571, .ref 572, .ref 573, .ref 574, .ref 575, .ref 576, .ref 577, .ref 578, .int (iI (o 68)), .int (iI (o 69)), .int (iI (o 70)), .ref 579]) := hM2456
                                  obtain ⟨⟨_, _⟩, ⟨_, _⟩, hk2459, ⟨_, _⟩, hk2459e, ⟨_, _⟩, ⟨_, _⟩⟩ := R_tk_f hX hp2455
                                  show X_T sc 159 (204, [(5, .int (iI ((30 * wi) + (wS1 wi)))), (4, .int (iI (so c1))), (3, .int (iI at1)), (2, .int (iI pile)), (0, .ref 530), (1, .int (iI wi))], [], S2446) _
                                  refine T_p xr_159_204 xn_159 (pc' := 206) (ls' := [(5, .int (iI ((30 * wi) + (wS1 wi)))), (4, .int (iI (so c1))), (3, .int (iI at1)), (2, .int (iI pile)), (0, .ref 530), (1, .int (iI wi))]) (st' := [.int (iI (so c1))]) rfl ?_
                                  refine T_p xr_159_206 xn_159 (pc' := 208) (ls' := [(5, .int (iI ((30 * wi) + (wS1 wi)))), (4, .int (iI (so c1))), (3, .int (iI at1)), (2, .int (iI pile)), (0, .ref 530), (1, .int (iI wi))]) (st' := [.int (iI 110), .int (iI (so c1))]) rfl ?_
                                  refine T_zicmp_eq xr_159_208 (t := 218) (pc' := 211) rfl rfl (fun c2460 => ?_) (fun c2460 => ?_)
                                  · skip
                                    have c2460 : (so c1) = 110 := c2460
                                    exact (show False by omega).elim
                                  · skip
                                    have c2460 : ¬ ((so c1) = 110) := c2460
                                    refine T_p xr_159_211 xn_159 (pc' := 213) (ls' := [(5, .int (iI ((30 * wi) + (wS1 wi)))), (4, .int (iI (so c1))), (3, .int (iI at1)), (2, .int (iI pile)), (0, .ref 530), (1, .int (iI wi))]) (st' := [.int (iI (so c1))]) rfl ?_
                                    refine T_p xr_159_213 xn_159 (pc' := 215) (ls' := [(5, .int (iI ((30 * wi) + (wS1 wi)))), (4, .int (iI (so c1))), (3, .int (iI at1)), (2, .int (iI pile)), (0, .ref 530), (1, .int (iI wi))]) (st' := [.int (iI 64), .int (iI (so c1))]) rfl ?_
                                    refine T_zicmp_ne xr_159_215 (t := 222) (pc' := 218) rfl rfl (fun c2461 => ?_) (fun c2461 => ?_)
                                    · skip
                                      have c2461 : ¬ (so c1) = 64 := c2461
                                      exact (show False by first | contradiction | omega).elim
                                    · skip
                                      have c2461 : ¬ (¬ (so c1) = 64) := c2461
                                      refine T_p xr_159_218 xn_159 (pc' := 219) (ls' := [(5, .int (iI ((30 * wi) + (wS1 wi)))), (4, .int (iI (so c1))), (3, .int (iI at1)), (2, .int (iI pile)), (0, .ref 530), (1, .int (iI wi))]) (st' := [.int (iI 1)]) rfl ?_
                                      refine T_p xr_159_219 xn_159 (pc' := 223) (ls' := [(5, .int (iI ((30 * wi) + (wS1 wi)))), (4, .int (iI (so c1))), (3, .int (iI at1)), (2, .int (iI pile)), (0, .ref 530), (1, .int (iI wi))]) (st' := [.int (iI 1)]) rfl ?_
                                      refine T_p xr_159_223 xn_159 (pc' := 225) (ls' := [(6, .int (iI 1)), (5, .int (iI ((30 * wi) + (wS1 wi)))), (4, .int (iI (so c1))), (3, .int (iI at1)), (2, .int (iI pile)), (0, .ref 530), (1, .int (iI wi))]) (st' := []) rfl ?_
                                      refine T_p xr_159_225 xn_159 (pc' := 227) (ls' := [(6, .int (iI 1)), (5, .int (iI ((30 * wi) + (wS1 wi)))), (4, .int (iI (so c1))), (3, .int (iI at1)), (2, .int (iI pile)), (0, .ref 530), (1, .int (iI wi))]) (st' := [.int (iI 1)]) rfl ?_
                                      refine T_zif_eqf xr_159_227 (t := 272) (pc' := 230) rfl rfl (by decide) ?_
                                      refine T_p xr_159_230 xn_159 (pc' := 231) (ls' := [(6, .int (iI 1)), (5, .int (iI ((30 * wi) + (wS1 wi)))), (4, .int (iI (so c1))), (3, .int (iI at1)), (2, .int (iI pile)), (0, .ref 530), (1, .int (iI wi))]) (st' := [.int (iI pile)]) rfl ?_
                                      refine T_p xr_159_231 xn_159 (pc' := 233) (ls' := [(6, .int (iI 1)), (5, .int (iI ((30 * wi) + (wS1 wi)))), (4, .int (iI (so c1))), (3, .int (iI at1)), (2, .int (iI pile)), (0, .ref 530), (1, .int (iI wi))]) (st' := [.int (iI 16), .int (iI pile)]) rfl ?_
                                      refine T_zicmp_eq xr_159_233 (t := 277) (pc' := 236) rfl rfl (fun c2462 => ?_) (fun c2462 => ?_)
                                      · skip
                                        have c2462 : pile = 16 := c2462
                                        refine T_p xr_159_277 xn_159 (pc' := 278) (ls' := [(6, .int (iI 1)), (5, .int (iI ((30 * wi) + (wS1 wi)))), (4, .int (iI (so c1))), (3, .int (iI at1)), (2, .int (iI pile)), (0, .ref 530), (1, .int (iI wi))]) (st' := [.ref 530]) rfl ?_
                                        refine T_p xr_159_278 xn_159 (pc' := 279) (ls' := [(6, .int (iI 1)), (5, .int (iI ((30 * wi) + (wS1 wi)))), (4, .int (iI (so c1))), (3, .int (iI at1)), (2, .int (iI pile)), (0, .ref 530), (1, .int (iI wi))]) (st' := [.int (iI 5), .ref 530]) rfl ?_
                                        refine T_p xr_159_279 xn_159 (pc' := 280) (ls' := [(6, .int (iI 1)), (5, .int (iI ((30 * wi) + (wS1 wi)))), (4, .int (iI (so c1))), (3, .int (iI at1)), (2, .int (iI pile)), (0, .ref 530), (1, .int (iI wi))]) (st' := [.int (iI at1), .int (iI 5), .ref 530]) rfl ?_
                                        refine T_cv (S := S2446) (q := 530) xr_159_280 xf_139.1 xf_139.2.1 xn_139 (as := [.int (iI 5), .int (iI at1)]) (r := []) rfl h2458 (Nat.le_of_ble_eq_true rfl) (Nat.le_of_ble_eq_true rfl) (pc' := 283) rfl (ls' := [(0, .ref 530), (1, .int (iI 5)), (2, .int (iI at1))]) rfl ?_
                                        refine T_mono (r_fails sc S2446 (X_ou (X_ou (X_ou (X_ou (X_ou (X_ou o 6 g1) 7 at2448) 8 en2449) 9 tk2450) 10 nu2451) 11 dg2452) nm2453 5 at1 h2458 (show 0 ≤ (o 5) ∧ (o 5) ≤ 5 from by omega) (by omega)) (fun v2463 S2464 h2465 => ?_)
                                        rcases h2465 with ⟨f2466, g2467, hv2468, hp2469, hM2470, hf2471⟩
                                        rw [hv2468]
                                        have h2472 : S2464.1 530 = .inr (11, [.ref 531, .int (iI (o 1)), .ref 532, .int (iI (o 3)), .int (iI (o 4)), .int (iI f2466), .int (iI g2467), .int (iI at2448), .int (iI en2449), .int (iI tk2450), .int (iI nu2451), .int (iI dg2452), .long nm2453, .ref 533, .ref 534, .ref 535, .ref 536, .ref 537, .ref 538, .ref 539, .ref 540, .ref 541, .ref 542, .ref 543, .ref 544, .ref 545, .ref 546, .ref 547, .int (iI (o 28)), .int (iI (o 29)), .int (iI (o 30)), .int (iI (o 31)), .int (iI (o 32)), .int (iI (o 33)), .ref 548, .ref 549, .ref 550, .ref 551, .int (iI (o 38)), .ref 552, .ref 553, .ref 554, .ref 555, .ref 556, .ref 557, .ref 558, .ref 559, .ref 560, .ref 561, .int (iI (o 49)), .ref 562, .ref 563, .ref 564, .ref 565, .ref 566, .ref 567, .ref 568, .ref 569, .int (iI (o 58)), .ref 570, .ref 571, .ref 572, .ref 573, .ref 574, .ref 575, .ref 576, .ref 577, .ref 578, .int (iI (o 68)), .int (iI (o 69)), .int (iI (o 70)), .ref 579]) := hM2470
                                        have hp2469 : ((o 5) = 0 → f2466 = 5) ∧ (¬ (o 5) = 0 → f2466 = (o 5)) := hp2469
                                        have hf2473 : f2466 = 5 := hp2469.1 h5
                                        show X_T sc 159 (283, [(6, .int (iI 1)), (5, .int (iI ((30 * wi) + (wS1 wi)))), (4, .int (iI (so c1))), (3, .int (iI at1)), (2, .int (iI pile)), (0, .ref 530), (1, .int (iI wi))], [], S2464) _
                                        refine T_p xr_159_283 xn_159 (pc' := 284) (ls' := [(6, .int (iI 1)), (5, .int (iI ((30 * wi) + (wS1 wi)))), (4, .int (iI (so c1))), (3, .int (iI at1)), (2, .int (iI pile)), (0, .ref 530), (1, .int (iI wi))]) (st' := [.int (iI pile)]) rfl ?_
                                        refine T_p xr_159_284 xn_159 (pc' := 286) (ls' := [(6, .int (iI 1)), (5, .int (iI ((30 * wi) + (wS1 wi)))), (4, .int (iI (so c1))), (3, .int (iI at1)), (2, .int (iI pile)), (0, .ref 530), (1, .int (iI wi))]) (st' := [.int (iI 1), .int (iI pile)]) rfl ?_
                                        refine T_zif_eqf xr_159_286 (t := 293) (pc' := 289) rfl rfl (by decide) ?_
                                        refine T_p xr_159_289 xn_159 (pc' := 290) (ls' := [(6, .int (iI 1)), (5, .int (iI ((30 * wi) + (wS1 wi)))), (4, .int (iI (so c1))), (3, .int (iI at1)), (2, .int (iI pile)), (0, .ref 530), (1, .int (iI wi))]) (st' := [.int (iI 1), .int (iI pile)]) rfl ?_
                                        refine T_p xr_159_290 xn_159 (pc' := 294) (ls' := [(6, .int (iI 1)), (5, .int (iI ((30 * wi) + (wS1 wi)))), (4, .int (iI (so c1))), (3, .int (iI at1)), (2, .int (iI pile)), (0, .ref 530), (1, .int (iI wi))]) (st' := [.int (iI 1), .int (iI pile)]) rfl ?_
                                        refine T_ziadd xr_159_294 (z := pile + 1) rfl (pc' := 295) rfl ?_
                                        refine T_p xr_159_295 xn_159 (pc' := 296) (ls' := [(2, .int (iI (pile + 1))), (6, .int (iI 1)), (5, .int (iI ((30 * wi) + (wS1 wi)))), (4, .int (iI (so c1))), (3, .int (iI at1)), (0, .ref 530), (1, .int (iI wi))]) (st' := []) rfl ?_
                                        refine T_p xr_159_296 xn_159 (pc' := 297) (ls' := [(2, .int (iI (pile + 1))), (6, .int (iI 1)), (5, .int (iI ((30 * wi) + (wS1 wi)))), (4, .int (iI (so c1))), (3, .int (iI at1)), (0, .ref 530), (1, .int (iI wi))]) (st' := [.ref 530]) rfl ?_
                                        refine T_get xr_159_297 h2472 rfl (v := .ref 542) rfl (pc' := 300) rfl ?_
                                        refine T_p xr_159_300 xn_159 (pc' := 301) (ls' := [(2, .int (iI (pile + 1))), (6, .int (iI 1)), (5, .int (iI ((30 * wi) + (wS1 wi)))), (4, .int (iI (so c1))), (3, .int (iI at1)), (0, .ref 530), (1, .int (iI wi))]) (st' := [.int (iI wi), .ref 542]) rfl ?_
                                        refine T_p xr_159_301 xn_159 (pc' := 302) (ls' := [(2, .int (iI (pile + 1))), (6, .int (iI 1)), (5, .int (iI ((30 * wi) + (wS1 wi)))), (4, .int (iI (so c1))), (3, .int (iI at1)), (0, .ref 530), (1, .int (iI wi))]) (st' := [.int (iI wi), .ref 542, .int (iI wi), .ref 542]) rfl ?_
                                        have h2474 := (hf2471.1 542 (by first | decide | omega)).trans ((hf2457.1 542 (by first | decide | omega)).trans ((n2441 542 (by decide)).trans ((hf2372.1 542 (by first | decide | omega)).trans ((n2356 542 (by decide)).trans ((n2350 542 (by decide)).trans (hA1))))))
                                        refine T_ziald xr_159_302 h2474 (pc' := 303) rfl ?_
                                        refine T_p xr_159_303 xn_159 (pc' := 304) (ls' := [(2, .int (iI (pile + 1))), (6, .int (iI 1)), (5, .int (iI ((30 * wi) + (wS1 wi)))), (4, .int (iI (so c1))), (3, .int (iI at1)), (0, .ref 530), (1, .int (iI wi))]) (st' := [.int (iI 1), .int (iI (wS1 wi)), .int (iI wi), .ref 542]) rfl ?_
                                        refine T_ziadd xr_159_304 (z := (wS1 wi) + 1) rfl (pc' := 305) rfl ?_
                                        refine T_ziast xr_159_305 h2474 (pc' := 306) rfl (fun S2475 h2476 n2477 e2478 => ?_)
                                        refine T_p xr_159_306 xn_159 (pc' := 9) (ls' := [(2, .int (iI (pile + 1))), (6, .int (iI 1)), (5, .int (iI ((30 * wi) + (wS1 wi)))), (4, .int (iI (so c1))), (3, .int (iI at1)), (0, .ref 530), (1, .int (iI wi))]) (st' := []) rfl ?_
                                        have h2479 := (n2477 530 (by decide)).trans (h2472)
                                        have h2480 := (n2477 543 (by decide)).trans ((hf2471.1 543 (by first | decide | omega)).trans ((hf2457.1 543 (by first | decide | omega)).trans ((n2441 543 (by decide)).trans ((hf2372.1 543 (by first | decide | omega)).trans ((n2356 543 (by decide)).trans (h2349))))))
                                        have h2481 := (n2477 544 (by decide)).trans ((hf2471.1 544 (by first | decide | omega)).trans ((hf2457.1 544 (by first | decide | omega)).trans (h2440)))
                                        have h52482 : (X_aS d1 0 0) 5 0 = d1 5 0 + 1 := rfl
                                        have hv1 := X_vl_n hctn (by omega)
                                        have hs2483 : sp_step n so ct c1 d1 pile = none := by
                                          exact sp_step_af (by omega) (by omega)
                                        refine T_sub (ls := [(2, .int (iI (pile + 1))), (0, .ref 530), (1, .int (iI wi))]) ⟨rfl, rfl, rfl, trivial⟩ rfl rfl ?_
                                        exact ih2184 S2475 f2466 g2467 at2448 en2449 tk2450 nu2451 dg2452 nm2453 (X_av n (X_av n c1)) (X_aS d1 0 0) (pile + 1) (X_ug wS1 wi ((wS1 wi) + 1)) (X_ug sO1 ((30 * wi) + (wS1 wi)) (so c1)) (X_ug (X_ug sN1 ((30 * wi) + (wS1 wi)) nu1) ((30 * wi) + (wS1 wi)) (nu2366 - 1)) h2479 h2476 h2480 h2481 (hF2187.tr ((((((((X_Fr.rf).tr (X_Fr.of n2350 e2351 (by first | decide | exact ⟨Nat.le_add_right _ _, Nat.add_le_add_left (by decide) _⟩ | omega))).tr (X_Fr.of n2356 e2357 (by first | decide | exact ⟨Nat.le_add_right _ _, Nat.add_le_add_left (by decide) _⟩ | omega))).tr (X_Fr.mono ⟨hf2372.1, hf2372.2⟩ (fun q hq => by first | exact hq | (rcases hq with rfl <;> decide) | (rcases hq with rfl | rfl <;> decide) | (rcases hq with rfl | rfl | rfl <;> decide) | (rcases hq with rfl | rfl | rfl | rfl <;> decide) | (rcases hq with rfl | rfl | rfl | rfl | rfl <;> decide) | (rcases hq with rfl | rfl | rfl | rfl | rfl | rfl <;> decide) | (rcases hq with rfl | rfl | rfl | rfl | rfl | rfl | rfl <;> decide) | omega))).tr (X_Fr.of n2441 e2442 (by first | decide | exact ⟨Nat.le_add_right _ _, Nat.add_le_add_left (by decide) _⟩ | omega))).tr (X_Fr.mono ⟨hf2457.1, hf2457.2⟩ (fun q hq => by first | exact hq | (rcases hq with rfl <;> decide) | (rcases hq with rfl | rfl <;> decide) | (rcases hq with rfl | rfl | rfl <;> decide) | (rcases hq with rfl | rfl | rfl | rfl <;> decide) | (rcases hq with rfl | rfl | rfl | rfl | rfl <;> decide) | (rcases hq with rfl | rfl | rfl | rfl | rfl | rfl <;> decide) | (rcases hq with rfl | rfl | rfl | rfl | rfl | rfl | rfl <;> decide) | omega))).tr (X_Fr.mono ⟨hf2471.1, hf2471.2⟩ (fun q hq => by first | exact hq | (rcases hq with rfl <;> decide) | (rcases hq with rfl | rfl <;> decide) | (rcases hq with rfl | rfl | rfl <;> decide) | (rcases hq with rfl | rfl | rfl | rfl <;> decide) | (rcases hq with rfl | rfl | rfl | rfl | rfl <;> decide) | (rcases hq with rfl | rfl | rfl | rfl | rfl | rfl <;> decide) | (rcases hq with rfl | rfl | rfl | rfl | rfl | rfl | rfl <;> decide) | omega))).tr (X_Fr.of n2477 e2478 (by first | decide | exact ⟨Nat.le_add_right _ _, Nat.add_le_add_left (by decide) _⟩ | omega)))) (by omega) (by omega) (fun z => absurd z (by omega)) (fun _ => by
                                              rw [← hR, show (30 - d1 5 0).toNat = (30 - (d1 5 0 + 1)).toNat + 1 by omega]
                                              show (if so c1 = 59 then _ else _) = none
                                              rw [if_neg (by assumption), hs2483]
                                              rfl) (hob1.up (by omega)) (hob2.up (by omega)) ((hob3.up (by omega)).up (by omega)) (by omega)
                                      · skip
                                        have c2462 : ¬ (pile = 16) := c2462
                                        refine T_p xr_159_236 xn_159 (pc' := 238) (ls' := [(6, .int (iI 1)), (5, .int (iI ((30 * wi) + (wS1 wi)))), (4, .int (iI (so c1))), (3, .int (iI at1)), (2, .int (iI pile)), (0, .ref 530), (1, .int (iI wi))]) (st' := [.int (iI (so c1))]) rfl ?_
                                        refine T_p xr_159_238 xn_159 (pc' := 240) (ls' := [(6, .int (iI 1)), (5, .int (iI ((30 * wi) + (wS1 wi)))), (4, .int (iI (so c1))), (3, .int (iI at1)), (2, .int (iI pile)), (0, .ref 530), (1, .int (iI wi))]) (st' := [.int (iI 64), .int (iI (so c1))]) rfl ?_
                                        refine T_zicmp_ne xr_159_240 (t := 283) (pc' := 243) rfl rfl (fun c2484 => ?_) (fun c2484 => ?_)
                                        · skip
                                          have c2484 : ¬ (so c1) = 64 := c2484
                                          exact (show False by first | contradiction | omega).elim
                                        · skip
                                          have c2484 : ¬ (¬ (so c1) = 64) := c2484
                                          refine T_p xr_159_243 xn_159 (pc' := 244) (ls' := [(6, .int (iI 1)), (5, .int (iI ((30 * wi) + (wS1 wi)))), (4, .int (iI (so c1))), (3, .int (iI at1)), (2, .int (iI pile)), (0, .ref 530), (1, .int (iI wi))]) (st' := [.ref 530]) rfl ?_
                                          refine T_get xr_159_244 h2458 rfl (v := .ref 544) rfl (pc' := 247) rfl ?_
                                          refine T_p xr_159_247 xn_159 (pc' := 249) (ls' := [(6, .int (iI 1)), (5, .int (iI ((30 * wi) + (wS1 wi)))), (4, .int (iI (so c1))), (3, .int (iI at1)), (2, .int (iI pile)), (0, .ref 530), (1, .int (iI wi))]) (st' := [.int (iI ((30 * wi) + (wS1 wi))), .ref 544]) rfl ?_
                                          have h2485 := (hf2457.1 544 (by first | decide | omega)).trans (h2440)
                                          refine T_ziald xr_159_249 h2485 (pc' := 250) rfl ?_
                                          refine T_ie (y := iI (nu2366 - 1)) (by rw [X_ug_s]) ?_
                                          refine T_zif_lt xr_159_250 (t := 277) (pc' := 253) rfl rfl (fun c2486 => ?_) (fun c2486 => ?_)
                                          · skip
                                            have c2486 : (nu2366 - 1) < 0 := c2486
                                            refine T_p xr_159_277 xn_159 (pc' := 278) (ls' := [(6, .int (iI 1)), (5, .int (iI ((30 * wi) + (wS1 wi)))), (4, .int (iI (so c1))), (3, .int (iI at1)), (2, .int (iI pile)), (0, .ref 530), (1, .int (iI wi))]) (st' := [.ref 530]) rfl ?_
                                            refine T_p xr_159_278 xn_159 (pc' := 279) (ls' := [(6, .int (iI 1)), (5, .int (iI ((30 * wi) + (wS1 wi)))), (4, .int (iI (so c1))), (3, .int (iI at1)), (2, .int (iI pile)), (0, .ref 530), (1, .int (iI wi))]) (st' := [.int (iI 5), .ref 530]) rfl ?_
                                            refine T_p xr_159_279 xn_159 (pc' := 280) (ls' := [(6, .int (iI 1)), (5, .int (iI ((30 * wi) + (wS1 wi)))), (4, .int (iI (so c1))), (3, .int (iI at1)), (2, .int (iI pile)), (0, .ref 530), (1, .int (iI wi))]) (st' := [.int (iI at1), .int (iI 5), .ref 530]) rfl ?_
                                            refine T_cv (S := S2446) (q := 530) xr_159_280 xf_139.1 xf_139.2.1 xn_139 (as := [.int (iI 5), .int (iI at1)]) (r := []) rfl h2458 (Nat.le_of_ble_eq_true rfl) (Nat.le_of_ble_eq_true rfl) (pc' := 283) rfl (ls' := [(0, .ref 530), (1, .int (iI 5)), (2, .int (iI at1))]) rfl ?_
                                            refine T_mono (r_fails sc S2446 (X_ou (X_ou (X_ou (X_ou (X_ou (X_ou o 6 g1) 7 at2448) 8 en2449) 9 tk2450) 10 nu2451) 11 dg2452) nm2453 5 at1 h2458 (show 0 ≤ (o 5) ∧ (o 5) ≤ 5 from by omega) (by omega)) (fun v2487 S2488 h2489 => ?_)
                                            rcases h2489 with ⟨f2490, g2491, hv2492, hp2493, hM2494, hf2495⟩
                                            rw [hv2492]
                                            have h2496 : S2488.1 530 = .inr (11, [.ref 531, .int (iI (o 1)), .ref 532, .int (iI (o 3)), .int (iI (o 4)), .int (iI f2490), .int (iI g2491), .int (iI at2448), .int (iI en2449), .int (iI tk2450), .int (iI nu2451), .int (iI dg2452), .long nm2453, .ref 533, .ref 534, .ref 535, .ref 536, .ref 537, .ref 538, .ref 539, .ref 540, .ref 541, .ref 542, .ref 543, .ref 544, .ref 545, .ref 546, .ref 547, .int (iI (o 28)), .int (iI (o 29)), .int (iI (o 30)), .int (iI (o 31)), .int (iI (o 32)), .int (iI (o 33)), .ref 548, .ref 549, .ref 550, .ref 551, .int (iI (o 38)), .ref 552, .ref 553, .ref 554, .ref 555, .ref 556, .ref 557, .ref 558, .ref 559, .ref 560, .ref 561, .int (iI (o 49)), .ref 562, .ref 563, .ref 564, .ref 565, .ref 566, .ref 567, .ref 568, .ref 569, .int (iI (o 58)), .ref 570, .ref 571, .ref 572, .ref 573, .ref 574, .ref 575, .ref 576, .ref 577, .ref 578, .int (iI (o 68)), .int (iI (o 69)), .int (iI (o 70)), .ref 579]) := hM2494
                                            have hp2493 : ((o 5) = 0 → f2490 = 5) ∧ (¬ (o 5) = 0 → f2490 = (o 5)) := hp2493
                                            have hf2497 : f2490 = 5 := hp2493.1 h5
                                            show X_T sc 159 (283, [(6, .int (iI 1)), (5, .int (iI ((30 * wi) + (wS1 wi)))), (4, .int (iI (so c1))), (3, .int (iI at1)), (2, .int (iI pile)), (0, .ref 530), (1, .int (iI wi))], [], S2488) _
                                            refine T_p xr_159_283 xn_159 (pc' := 284) (ls' := [(6, .int (iI 1)), (5, .int (iI ((30 * wi) + (wS1 wi)))), (4, .int (iI (so c1))), (3, .int (iI at1)), (2, .int (iI pile)), (0, .ref 530), (1, .int (iI wi))]) (st' := [.int (iI pile)]) rfl ?_
                                            refine T_p xr_159_284 xn_159 (pc' := 286) (ls' := [(6, .int (iI 1)), (5, .int (iI ((30 * wi) + (wS1 wi)))), (4, .int (iI (so c1))), (3, .int (iI at1)), (2, .int (iI pile)), (0, .ref 530), (1, .int (iI wi))]) (st' := [.int (iI 1), .int (iI pile)]) rfl ?_
                                            refine T_zif_eqf xr_159_286 (t := 293) (pc' := 289) rfl rfl (by decide) ?_
                                            refine T_p xr_159_289 xn_159 (pc' := 290) (ls' := [(6, .int (iI 1)), (5, .int (iI ((30 * wi) + (wS1 wi)))), (4, .int (iI (so c1))), (3, .int (iI at1)), (2, .int (iI pile)), (0, .ref 530), (1, .int (iI wi))]) (st' := [.int (iI 1), .int (iI pile)]) rfl ?_
                                            refine T_p xr_159_290 xn_159 (pc' := 294) (ls' := [(6, .int (iI 1)), (5, .int (iI ((30 * wi) + (wS1 wi)))), (4, .int (iI (so c1))), (3, .int (iI at1)), (2, .int (iI pile)), (0, .ref 530), (1, .int (iI wi))]) (st' := [.int (iI 1), .int (iI pile)]) rfl ?_
                                            refine T_ziadd xr_159_294 (z := pile + 1) rfl (pc' := 295) rfl ?_
                                            refine T_p xr_159_295 xn_159 (pc' := 296) (ls' := [(2, .int (iI (pile + 1))), (6, .int (iI 1)), (5, .int (iI ((30 * wi) + (wS1 wi)))), (4, .int (iI (so c1))), (3, .int (iI at1)), (0, .ref 530), (1, .int (iI wi))]) (st' := []) rfl ?_
                                            refine T_p xr_159_296 xn_159 (pc' := 297) (ls' := [(2, .int (iI (pile + 1))), (6, .int (iI 1)), (5, .int (iI ((30 * wi) + (wS1 wi)))), (4, .int (iI (so c1))), (3, .int (iI at1)), (0, .ref 530), (1, .int (iI wi))]) (st' := [.ref 530]) rfl ?_
                                            refine T_get xr_159_297 h2496 rfl (v := .ref 542) rfl (pc' := 300) rfl ?_
                                            refine T_p xr_159_300 xn_159 (pc' := 301) (ls' := [(2, .int (iI (pile + 1))), (6, .int (iI 1)), (5, .int (iI ((30 * wi) + (wS1 wi)))), (4, .int (iI (so c1))), (3, .int (iI at1)), (0, .ref 530), (1, .int (iI wi))]) (st' := [.int (iI wi), .ref 542]) rfl ?_
                                            refine T_p xr_159_301 xn_159 (pc' := 302) (ls' := [(2, .int (iI (pile + 1))), (6, .int (iI 1)), (5, .int (iI ((30 * wi) + (wS1 wi)))), (4, .int (iI (so c1))), (3, .int (iI at1)), (0, .ref 530), (1, .int (iI wi))]) (st' := [.int (iI wi), .ref 542, .int (iI wi), .ref 542]) rfl ?_
                                            have h2498 := (hf2495.1 542 (by first | decide | omega)).trans ((hf2457.1 542 (by first | decide | omega)).trans ((n2441 542 (by decide)).trans ((hf2372.1 542 (by first | decide | omega)).trans ((n2356 542 (by decide)).trans ((n2350 542 (by decide)).trans (hA1))))))
                                            refine T_ziald xr_159_302 h2498 (pc' := 303) rfl ?_
                                            refine T_p xr_159_303 xn_159 (pc' := 304) (ls' := [(2, .int (iI (pile + 1))), (6, .int (iI 1)), (5, .int (iI ((30 * wi) + (wS1 wi)))), (4, .int (iI (so c1))), (3, .int (iI at1)), (0, .ref 530), (1, .int (iI wi))]) (st' := [.int (iI 1), .int (iI (wS1 wi)), .int (iI wi), .ref 542]) rfl ?_
                                            refine T_ziadd xr_159_304 (z := (wS1 wi) + 1) rfl (pc' := 305) rfl ?_
                                            refine T_ziast xr_159_305 h2498 (pc' := 306) rfl (fun S2499 h2500 n2501 e2502 => ?_)
                                            refine T_p xr_159_306 xn_159 (pc' := 9) (ls' := [(2, .int (iI (pile + 1))), (6, .int (iI 1)), (5, .int (iI ((30 * wi) + (wS1 wi)))), (4, .int (iI (so c1))), (3, .int (iI at1)), (0, .ref 530), (1, .int (iI wi))]) (st' := []) rfl ?_
                                            have h2503 := (n2501 530 (by decide)).trans (h2496)
                                            have h2504 := (n2501 543 (by decide)).trans ((hf2495.1 543 (by first | decide | omega)).trans ((hf2457.1 543 (by first | decide | omega)).trans ((n2441 543 (by decide)).trans ((hf2372.1 543 (by first | decide | omega)).trans ((n2356 543 (by decide)).trans (h2349))))))
                                            have h2505 := (n2501 544 (by decide)).trans ((hf2495.1 544 (by first | decide | omega)).trans (h2485))
                                            have h52506 : (X_aS d1 0 0) 5 0 = d1 5 0 + 1 := rfl
                                            have hv1 := X_vl_n hctn (by omega)
                                            have hs2507 : sp_step n so ct c1 d1 pile = none := by
                                              exact sp_step_af (by omega) (by omega)
                                            refine T_sub (ls := [(2, .int (iI (pile + 1))), (0, .ref 530), (1, .int (iI wi))]) ⟨rfl, rfl, rfl, trivial⟩ rfl rfl ?_
                                            exact ih2184 S2499 f2490 g2491 at2448 en2449 tk2450 nu2451 dg2452 nm2453 (X_av n (X_av n c1)) (X_aS d1 0 0) (pile + 1) (X_ug wS1 wi ((wS1 wi) + 1)) (X_ug sO1 ((30 * wi) + (wS1 wi)) (so c1)) (X_ug (X_ug sN1 ((30 * wi) + (wS1 wi)) nu1) ((30 * wi) + (wS1 wi)) (nu2366 - 1)) h2503 h2500 h2504 h2505 (hF2187.tr ((((((((X_Fr.rf).tr (X_Fr.of n2350 e2351 (by first | decide | exact ⟨Nat.le_add_right _ _, Nat.add_le_add_left (by decide) _⟩ | omega))).tr (X_Fr.of n2356 e2357 (by first | decide | exact ⟨Nat.le_add_right _ _, Nat.add_le_add_left (by decide) _⟩ | omega))).tr (X_Fr.mono ⟨hf2372.1, hf2372.2⟩ (fun q hq => by first | exact hq | (rcases hq with rfl <;> decide) | (rcases hq with rfl | rfl <;> decide) | (rcases hq with rfl | rfl | rfl <;> decide) | (rcases hq with rfl | rfl | rfl | rfl <;> decide) | (rcases hq with rfl | rfl | rfl | rfl | rfl <;> decide) | (rcases hq with rfl | rfl | rfl | rfl | rfl | rfl <;> decide) | (rcases hq with rfl | rfl | rfl | rfl | rfl | rfl | rfl <;> decide) | omega))).tr (X_Fr.of n2441 e2442 (by first | decide | exact ⟨Nat.le_add_right _ _, Nat.add_le_add_left (by decide) _⟩ | omega))).tr (X_Fr.mono ⟨hf2457.1, hf2457.2⟩ (fun q hq => by first | exact hq | (rcases hq with rfl <;> decide) | (rcases hq with rfl | rfl <;> decide) | (rcases hq with rfl | rfl | rfl <;> decide) | (rcases hq with rfl | rfl | rfl | rfl <;> decide) | (rcases hq with rfl | rfl | rfl | rfl | rfl <;> decide) | (rcases hq with rfl | rfl | rfl | rfl | rfl | rfl <;> decide) | (rcases hq with rfl | rfl | rfl | rfl | rfl | rfl | rfl <;> decide) | omega))).tr (X_Fr.mono ⟨hf2495.1, hf2495.2⟩ (fun q hq => by first | exact hq | (rcases hq with rfl <;> decide) | (rcases hq with rfl | rfl <;> decide) | (rcases hq with rfl | rfl | rfl <;> decide) | (rcases hq with rfl | rfl | rfl | rfl <;> decide) | (rcases hq with rfl | rfl | rfl | rfl | rfl <;> decide) | (rcases hq with rfl | rfl | rfl | rfl | rfl | rfl <;> decide) | (rcases hq with rfl | rfl | rfl | rfl | rfl | rfl | rfl <;> decide) | omega))).tr (X_Fr.of n2501 e2502 (by first | decide | exact ⟨Nat.le_add_right _ _, Nat.add_le_add_left (by decide) _⟩ | omega)))) (by omega) (by omega) (fun z => absurd z (by omega)) (fun _ => by
                                                  rw [← hR, show (30 - d1 5 0).toNat = (30 - (d1 5 0 + 1)).toNat + 1 by omega]
                                                  show (if so c1 = 59 then _ else _) = none
                                                  rw [if_neg (by assumption), hs2507]
                                                  rfl) (hob1.up (by omega)) (hob2.up (by omega)) ((hob3.up (by omega)).up (by omega)) (by omega)
                                          · skip
                                            have c2486 : ¬ ((nu2366 - 1) < 0) := c2486
                                            refine T_p xr_159_253 xn_159 (pc' := 254) (ls' := [(6, .int (iI 1)), (5, .int (iI ((30 * wi) + (wS1 wi)))), (4, .int (iI (so c1))), (3, .int (iI at1)), (2, .int (iI pile)), (0, .ref 530), (1, .int (iI wi))]) (st' := [.ref 530]) rfl ?_
                                            refine T_get xr_159_254 h2458 rfl (v := .ref 544) rfl (pc' := 257) rfl ?_
                                            refine T_p xr_159_257 xn_159 (pc' := 259) (ls' := [(6, .int (iI 1)), (5, .int (iI ((30 * wi) + (wS1 wi)))), (4, .int (iI (so c1))), (3, .int (iI at1)), (2, .int (iI pile)), (0, .ref 530), (1, .int (iI wi))]) (st' := [.int (iI ((30 * wi) + (wS1 wi))), .ref 544]) rfl ?_
                                            refine T_ziald xr_159_259 h2485 (pc' := 260) rfl ?_
                                            refine T_ie (y := iI (nu2366 - 1)) (by rw [X_ug_s]) ?_
                                            refine T_p xr_159_260 xn_159 (pc' := 261) (ls' := [(6, .int (iI 1)), (5, .int (iI ((30 * wi) + (wS1 wi)))), (4, .int (iI (so c1))), (3, .int (iI at1)), (2, .int (iI pile)), (0, .ref 530), (1, .int (iI wi))]) (st' := [.ref 530, .int (iI (nu2366 - 1))]) rfl ?_
                                            refine T_get xr_159_261 h2458 rfl (v := .ref 541) rfl (pc' := 264) rfl ?_
                                            refine T_p xr_159_264 xn_159 (pc' := 265) (ls' := [(6, .int (iI 1)), (5, .int (iI ((30 * wi) + (wS1 wi)))), (4, .int (iI (so c1))), (3, .int (iI at1)), (2, .int (iI pile)), (0, .ref 530), (1, .int (iI wi))]) (st' := [.int (iI wi), .ref 541, .int (iI (nu2366 - 1))]) rfl ?_
                                            have h2508 := (hf2457.1 541 (by first | decide | omega)).trans ((n2441 541 (by decide)).trans ((hf2372.1 541 (by first | decide | omega)).trans ((n2356 541 (by decide)).trans ((n2350 541 (by decide)).trans ((hF2187.1 541 (by first | decide | omega)).trans ((n2181 541 (by decide)).trans (hA541)))))))
                                            refine T_ziald xr_159_265 h2508 (pc' := 266) rfl ?_
                                            refine T_zicmp_lt xr_159_266 (t := 283) (pc' := 269) rfl rfl (fun c2509 => ?_) (fun c2509 => ?_)
                                            · skip
                                              have c2509 : (nu2366 - 1) < (wH wi) := c2509
                                              refine T_p xr_159_283 xn_159 (pc' := 284) (ls' := [(6, .int (iI 1)), (5, .int (iI ((30 * wi) + (wS1 wi)))), (4, .int (iI (so c1))), (3, .int (iI at1)), (2, .int (iI pile)), (0, .ref 530), (1, .int (iI wi))]) (st' := [.int (iI pile)]) rfl ?_
                                              refine T_p xr_159_284 xn_159 (pc' := 286) (ls' := [(6, .int (iI 1)), (5, .int (iI ((30 * wi) + (wS1 wi)))), (4, .int (iI (so c1))), (3, .int (iI at1)), (2, .int (iI pile)), (0, .ref 530), (1, .int (iI wi))]) (st' := [.int (iI 1), .int (iI pile)]) rfl ?_
                                              refine T_zif_eqf xr_159_286 (t := 293) (pc' := 289) rfl rfl (by decide) ?_
                                              refine T_p xr_159_289 xn_159 (pc' := 290) (ls' := [(6, .int (iI 1)), (5, .int (iI ((30 * wi) + (wS1 wi)))), (4, .int (iI (so c1))), (3, .int (iI at1)), (2, .int (iI pile)), (0, .ref 530), (1, .int (iI wi))]) (st' := [.int (iI 1), .int (iI pile)]) rfl ?_
                                              refine T_p xr_159_290 xn_159 (pc' := 294) (ls' := [(6, .int (iI 1)), (5, .int (iI ((30 * wi) + (wS1 wi)))), (4, .int (iI (so c1))), (3, .int (iI at1)), (2, .int (iI pile)), (0, .ref 530), (1, .int (iI wi))]) (st' := [.int (iI 1), .int (iI pile)]) rfl ?_
                                              refine T_ziadd xr_159_294 (z := pile + 1) rfl (pc' := 295) rfl ?_
                                              refine T_p xr_159_295 xn_159 (pc' := 296) (ls' := [(2, .int (iI (pile + 1))), (6, .int (iI 1)), (5, .int (iI ((30 * wi) + (wS1 wi)))), (4, .int (iI (so c1))), (3, .int (iI at1)), (0, .ref 530), (1, .int (iI wi))]) (st' := []) rfl ?_
                                              refine T_p xr_159_296 xn_159 (pc' := 297) (ls' := [(2, .int (iI (pile + 1))), (6, .int (iI 1)), (5, .int (iI ((30 * wi) + (wS1 wi)))), (4, .int (iI (so c1))), (3, .int (iI at1)), (0, .ref 530), (1, .int (iI wi))]) (st' := [.ref 530]) rfl ?_
                                              refine T_get xr_159_297 h2458 rfl (v := .ref 542) rfl (pc' := 300) rfl ?_
                                              refine T_p xr_159_300 xn_159 (pc' := 301) (ls' := [(2, .int (iI (pile + 1))), (6, .int (iI 1)), (5, .int (iI ((30 * wi) + (wS1 wi)))), (4, .int (iI (so c1))), (3, .int (iI at1)), (0, .ref 530), (1, .int (iI wi))]) (st' := [.int (iI wi), .ref 542]) rfl ?_
                                              refine T_p xr_159_301 xn_159 (pc' := 302) (ls' := [(2, .int (iI (pile + 1))), (6, .int (iI 1)), (5, .int (iI ((30 * wi) + (wS1 wi)))), (4, .int (iI (so c1))), (3, .int (iI at1)), (0, .ref 530), (1, .int (iI wi))]) (st' := [.int (iI wi), .ref 542, .int (iI wi), .ref 542]) rfl ?_
                                              have h2510 := (hf2457.1 542 (by first | decide | omega)).trans ((n2441 542 (by decide)).trans ((hf2372.1 542 (by first | decide | omega)).trans ((n2356 542 (by decide)).trans ((n2350 542 (by decide)).trans (hA1)))))
                                              refine T_ziald xr_159_302 h2510 (pc' := 303) rfl ?_
                                              refine T_p xr_159_303 xn_159 (pc' := 304) (ls' := [(2, .int (iI (pile + 1))), (6, .int (iI 1)), (5, .int (iI ((30 * wi) + (wS1 wi)))), (4, .int (iI (so c1))), (3, .int (iI at1)), (0, .ref 530), (1, .int (iI wi))]) (st' := [.int (iI 1), .int (iI (wS1 wi)), .int (iI wi), .ref 542]) rfl ?_
                                              refine T_ziadd xr_159_304 (z := (wS1 wi) + 1) rfl (pc' := 305) rfl ?_
                                              refine T_ziast xr_159_305 h2510 (pc' := 306) rfl (fun S2511 h2512 n2513 e2514 => ?_)
                                              refine T_p xr_159_306 xn_159 (pc' := 9) (ls' := [(2, .int (iI (pile + 1))), (6, .int (iI 1)), (5, .int (iI ((30 * wi) + (wS1 wi)))), (4, .int (iI (so c1))), (3, .int (iI at1)), (0, .ref 530), (1, .int (iI wi))]) (st' := []) rfl ?_
                                              have h2515 := (n2513 530 (by decide)).trans (h2458)
                                              have h2516 := (n2513 543 (by decide)).trans ((hf2457.1 543 (by first | decide | omega)).trans ((n2441 543 (by decide)).trans ((hf2372.1 543 (by first | decide | omega)).trans ((n2356 543 (by decide)).trans (h2349)))))
                                              have h2517 := (n2513 544 (by decide)).trans (h2485)
                                              have h52518 : (X_aS d1 (so c1) (X_vl ct (X_av n c1))) 5 0 = d1 5 0 + 1 := rfl
                                              have hv1 := X_vl_n hctn (by omega)
                                              have hs2519 : sp_step n so ct c1 d1 pile = some (X_av n (X_av n c1), X_aS d1 (so c1) (X_vl ct (X_av n c1)), pile + 1) := by
                                                exact sp_step_a (by omega) (by omega) (by omega) (by omega)
                                              refine T_sub (ls := [(2, .int (iI (pile + 1))), (0, .ref 530), (1, .int (iI wi))]) ⟨rfl, rfl, rfl, trivial⟩ rfl rfl ?_
                                              exact ih2184 S2511 (o 5) g1 at2448 en2449 tk2450 nu2451 dg2452 nm2453 (X_av n (X_av n c1)) (X_aS d1 (so c1) (X_vl ct (X_av n c1))) (pile + 1) (X_ug wS1 wi ((wS1 wi) + 1)) (X_ug sO1 ((30 * wi) + (wS1 wi)) (so c1)) (X_ug (X_ug sN1 ((30 * wi) + (wS1 wi)) nu1) ((30 * wi) + (wS1 wi)) (nu2366 - 1)) h2515 h2512 h2516 h2517 (hF2187.tr (((((((X_Fr.rf).tr (X_Fr.of n2350 e2351 (by first | decide | exact ⟨Nat.le_add_right _ _, Nat.add_le_add_left (by decide) _⟩ | omega))).tr (X_Fr.of n2356 e2357 (by first | decide | exact ⟨Nat.le_add_right _ _, Nat.add_le_add_left (by decide) _⟩ | omega))).tr (X_Fr.mono ⟨hf2372.1, hf2372.2⟩ (fun q hq => by first | exact hq | (rcases hq with rfl <;> decide) | (rcases hq with rfl | rfl <;> decide) | (rcases hq with rfl | rfl | rfl <;> decide) | (rcases hq with rfl | rfl | rfl | rfl <;> decide) | (rcases hq with rfl | rfl | rfl | rfl | rfl <;> decide) | (rcases hq with rfl | rfl | rfl | rfl | rfl | rfl <;> decide) | (rcases hq with rfl | rfl | rfl | rfl | rfl | rfl | rfl <;> decide) | omega))).tr (X_Fr.of n2441 e2442 (by first | decide | exact ⟨Nat.le_add_right _ _, Nat.add_le_add_left (by decide) _⟩ | omega))).tr (X_Fr.mono ⟨hf2457.1, hf2457.2⟩ (fun q hq => by first | exact hq | (rcases hq with rfl <;> decide) | (rcases hq with rfl | rfl <;> decide) | (rcases hq with rfl | rfl | rfl <;> decide) | (rcases hq with rfl | rfl | rfl | rfl <;> decide) | (rcases hq with rfl | rfl | rfl | rfl | rfl <;> decide) | (rcases hq with rfl | rfl | rfl | rfl | rfl | rfl <;> decide) | (rcases hq with rfl | rfl | rfl | rfl | rfl | rfl | rfl <;> decide) | omega))).tr (X_Fr.of n2513 e2514 (by first | decide | exact ⟨Nat.le_add_right _ _, Nat.add_le_add_left (by decide) _⟩ | omega)))) (by omega) (by omega) (fun _ => ⟨hp2455, R_s_S (s := so c1) (v := X_vl ct (X_av n c1)) (by omega) ⟨fun _ => by omega, fun z => by omega⟩ hS1 (by omega) (by omega) (by first | rfl | (unfold X_op; rw [if_neg (by omega)])) ⟨X_ug_s _ _ _, fun i hi => (X_ug_n _ _ hi).trans (X_ug_n _ _ hi)⟩, (by
                                                    rw [← hR, show (30 - d1 5 0).toNat = (30 - (d1 5 0 + 1)).toNat + 1 by omega]
                                                    show _ = (if so c1 = 59 then _ else _)
                                                    rw [if_neg (by assumption), hs2519]
                                                    rfl), (by omega), (by show 0 ≤ d1 5 0 + 1 ∧ d1 5 0 + 1 ≤ 30; omega), hd4⟩) (fun z => absurd h5 z) (hob1.up (by omega)) (hob2.up (by omega)) ((hob3.up (by omega)).up (by omega)) (by omega)
                                            · skip
                                              have c2509 : ¬ ((nu2366 - 1) < (wH wi)) := c2509
                                              refine T_p xr_159_269 xn_159 (pc' := 277) (ls' := [(6, .int (iI 1)), (5, .int (iI ((30 * wi) + (wS1 wi)))), (4, .int (iI (so c1))), (3, .int (iI at1)), (2, .int (iI pile)), (0, .ref 530), (1, .int (iI wi))]) (st' := []) rfl ?_
                                              refine T_p xr_159_277 xn_159 (pc' := 278) (ls' := [(6, .int (iI 1)), (5, .int (iI ((30 * wi) + (wS1 wi)))), (4, .int (iI (so c1))), (3, .int (iI at1)), (2, .int (iI pile)), (0, .ref 530), (1, .int (iI wi))]) (st' := [.ref 530]) rfl ?_
                                              refine T_p xr_159_278 xn_159 (pc' := 279) (ls' := [(6, .int (iI 1)), (5, .int (iI ((30 * wi) + (wS1 wi)))), (4, .int (iI (so c1))), (3, .int (iI at1)), (2, .int (iI pile)), (0, .ref 530), (1, .int (iI wi))]) (st' := [.int (iI 5), .ref 530]) rfl ?_
                                              refine T_p xr_159_279 xn_159 (pc' := 280) (ls' := [(6, .int (iI 1)), (5, .int (iI ((30 * wi) + (wS1 wi)))), (4, .int (iI (so c1))), (3, .int (iI at1)), (2, .int (iI pile)), (0, .ref 530), (1, .int (iI wi))]) (st' := [.int (iI at1), .int (iI 5), .ref 530]) rfl ?_
                                              refine T_cv (S := S2446) (q := 530) xr_159_280 xf_139.1 xf_139.2.1 xn_139 (as := [.int (iI 5), .int (iI at1)]) (r := []) rfl h2458 (Nat.le_of_ble_eq_true rfl) (Nat.le_of_ble_eq_true rfl) (pc' := 283) rfl (ls' := [(0, .ref 530), (1, .int (iI 5)), (2, .int (iI at1))]) rfl ?_
                                              refine T_mono (r_fails sc S2446 (X_ou (X_ou (X_ou (X_ou (X_ou (X_ou o 6 g1) 7 at2448) 8 en2449) 9 tk2450) 10 nu2451) 11 dg2452) nm2453 5 at1 h2458 (show 0 ≤ (o 5) ∧ (o 5) ≤ 5 from by omega) (by omega)) (fun v2520 S2521 h2522 => ?_)
                                              rcases h2522 with ⟨f2523, g2524, hv2525, hp2526, hM2527, hf2528⟩
                                              rw [hv2525]
                                              have h2529 : S2521.1 530 = .inr (11, [.ref 531, .int (iI (o 1)), .ref 532, .int (iI (o 3)), .int (iI (o 4)), .int (iI f2523), .int (iI g2524), .int (iI at2448), .int (iI en2449), .int (iI tk2450), .int (iI nu2451), .int (iI dg2452), .long nm2453, .ref 533, .ref 534, .ref 535, .ref 536, .ref 537, .ref 538, .ref 539, .ref 540, .ref 541, .ref 542, .ref 543, .ref 544, .ref 545, .ref 546, .ref 547, .int (iI (o 28)), .int (iI (o 29)), .int (iI (o 30)), .int (iI (o 31)), .int (iI (o 32)), .int (iI (o 33)), .ref 548, .ref 549, .ref 550, .ref 551, .int (iI (o 38)), .ref 552, .ref 553, .ref 554, .ref 555, .ref 556, .ref 557, .ref 558, .ref 559, .ref 560, .ref 561, .int (iI (o 49)), .ref 562, .ref 563, .ref 564, .ref 565, .ref 566, .ref 567, .ref 568, .ref 569, .int (iI (o 58)), .ref 570, .ref 571, .ref 572, .ref 573, .ref 574, .ref 575, .ref 576, .ref 577, .ref 578, .int (iI (o 68)), .int (iI (o 69)), .int (iI (o 70)), .ref 579]) := hM2527
                                              have hp2526 : ((o 5) = 0 → f2523 = 5) ∧ (¬ (o 5) = 0 → f2523 = (o 5)) := hp2526
                                              have hf2530 : f2523 = 5 := hp2526.1 h5
                                              show X_T sc 159 (283, [(6, .int (iI 1)), (5, .int (iI ((30 * wi) + (wS1 wi)))), (4, .int (iI (so c1))), (3, .int (iI at1)), (2, .int (iI pile)), (0, .ref 530), (1, .int (iI wi))], [], S2521) _
                                              refine T_p xr_159_283 xn_159 (pc' := 284) (ls' := [(6, .int (iI 1)), (5, .int (iI ((30 * wi) + (wS1 wi)))), (4, .int (iI (so c1))), (3, .int (iI at1)), (2, .int (iI pile)), (0, .ref 530), (1, .int (iI wi))]) (st' := [.int (iI pile)]) rfl ?_
                                              refine T_p xr_159_284 xn_159 (pc' := 286) (ls' := [(6, .int (iI 1)), (5, .int (iI ((30 * wi) + (wS1 wi)))), (4, .int (iI (so c1))), (3, .int (iI at1)), (2, .int (iI pile)), (0, .ref 530), (1, .int (iI wi))]) (st' := [.int (iI 1), .int (iI pile)]) rfl ?_
                                              refine T_zif_eqf xr_159_286 (t := 293) (pc' := 289) rfl rfl (by decide) ?_
                                              refine T_p xr_159_289 xn_159 (pc' := 290) (ls' := [(6, .int (iI 1)), (5, .int (iI ((30 * wi) + (wS1 wi)))), (4, .int (iI (so c1))), (3, .int (iI at1)), (2, .int (iI pile)), (0, .ref 530), (1, .int (iI wi))]) (st' := [.int (iI 1), .int (iI pile)]) rfl ?_
                                              refine T_p xr_159_290 xn_159 (pc' := 294) (ls' := [(6, .int (iI 1)), (5, .int (iI ((30 * wi) + (wS1 wi)))), (4, .int (iI (so c1))), (3, .int (iI at1)), (2, .int (iI pile)), (0, .ref 530), (1, .int (iI wi))]) (st' := [.int (iI 1), .int (iI pile)]) rfl ?_
                                              refine T_ziadd xr_159_294 (z := pile + 1) rfl (pc' := 295) rfl ?_
                                              refine T_p xr_159_295 xn_159 (pc' := 296) (ls' := [(2, .int (iI (pile + 1))), (6, .int (iI 1)), (5, .int (iI ((30 * wi) + (wS1 wi)))), (4, .int (iI (so c1))), (3, .int (iI at1)), (0, .ref 530), (1, .int (iI wi))]) (st' := []) rfl ?_
                                              refine T_p xr_159_296 xn_159 (pc' := 297) (ls' := [(2, .int (iI (pile + 1))), (6, .int (iI 1)), (5, .int (iI ((30 * wi) + (wS1 wi)))), (4, .int (iI (so c1))), (3, .int (iI at1)), (0, .ref 530), (1, .int (iI wi))]) (st' := [.ref 530]) rfl ?_
                                              refine T_get xr_159_297 h2529 rfl (v := .ref 542) rfl (pc' := 300) rfl ?_
                                              refine T_p xr_159_300 xn_159 (pc' := 301) (ls' := [(2, .int (iI (pile + 1))), (6, .int (iI 1)), (5, .int (iI ((30 * wi) + (wS1 wi)))), (4, .int (iI (so c1))), (3, .int (iI at1)), (0, .ref 530), (1, .int (iI wi))]) (st' := [.int (iI wi), .ref 542]) rfl ?_
                                              refine T_p xr_159_301 xn_159 (pc' := 302) (ls' := [(2, .int (iI (pile + 1))), (6, .int (iI 1)), (5, .int (iI ((30 * wi) + (wS1 wi)))), (4, .int (iI (so c1))), (3, .int (iI at1)), (0, .ref 530), (1, .int (iI wi))]) (st' := [.int (iI wi), .ref 542, .int (iI wi), .ref 542]) rfl ?_
                                              have h2531 := (hf2528.1 542 (by first | decide | omega)).trans ((hf2457.1 542 (by first | decide | omega)).trans ((n2441 542 (by decide)).trans ((hf2372.1 542 (by first | decide | omega)).trans ((n2356 542 (by decide)).trans ((n2350 542 (by decide)).trans (hA1))))))
                                              refine T_ziald xr_159_302 h2531 (pc' := 303) rfl ?_
                                              refine T_p xr_159_303 xn_159 (pc' := 304) (ls' := [(2, .int (iI (pile + 1))), (6, .int (iI 1)), (5, .int (iI ((30 * wi) + (wS1 wi)))), (4, .int (iI (so c1))), (3, .int (iI at1)), (0, .ref 530), (1, .int (iI wi))]) (st' := [.int (iI 1), .int (iI (wS1 wi)), .int (iI wi), .ref 542]) rfl ?_
                                              refine T_ziadd xr_159_304 (z := (wS1 wi) + 1) rfl (pc' := 305) rfl ?_
                                              refine T_ziast xr_159_305 h2531 (pc' := 306) rfl (fun S2532 h2533 n2534 e2535 => ?_)
                                              refine T_p xr_159_306 xn_159 (pc' := 9) (ls' := [(2, .int (iI (pile + 1))), (6, .int (iI 1)), (5, .int (iI ((30 * wi) + (wS1 wi)))), (4, .int (iI (so c1))), (3, .int (iI at1)), (0, .ref 530), (1, .int (iI wi))]) (st' := []) rfl ?_
                                              have h2536 := (n2534 530 (by decide)).trans (h2529)
                                              have h2537 := (n2534 543 (by decide)).trans ((hf2528.1 543 (by first | decide | omega)).trans ((hf2457.1 543 (by first | decide | omega)).trans ((n2441 543 (by decide)).trans ((hf2372.1 543 (by first | decide | omega)).trans ((n2356 543 (by decide)).trans (h2349))))))
                                              have h2538 := (n2534 544 (by decide)).trans ((hf2528.1 544 (by first | decide | omega)).trans (h2485))
                                              have h52539 : (X_aS d1 0 0) 5 0 = d1 5 0 + 1 := rfl
                                              have hv1 := X_vl_n hctn (by omega)
                                              have hs2540 : sp_step n so ct c1 d1 pile = none := by
                                                exact sp_step_af (by omega) (by omega)
                                              refine T_sub (ls := [(2, .int (iI (pile + 1))), (0, .ref 530), (1, .int (iI wi))]) ⟨rfl, rfl, rfl, trivial⟩ rfl rfl ?_
                                              exact ih2184 S2532 f2523 g2524 at2448 en2449 tk2450 nu2451 dg2452 nm2453 (X_av n (X_av n c1)) (X_aS d1 0 0) (pile + 1) (X_ug wS1 wi ((wS1 wi) + 1)) (X_ug sO1 ((30 * wi) + (wS1 wi)) (so c1)) (X_ug (X_ug sN1 ((30 * wi) + (wS1 wi)) nu1) ((30 * wi) + (wS1 wi)) (nu2366 - 1)) h2536 h2533 h2537 h2538 (hF2187.tr ((((((((X_Fr.rf).tr (X_Fr.of n2350 e2351 (by first | decide | exact ⟨Nat.le_add_right _ _, Nat.add_le_add_left (by decide) _⟩ | omega))).tr (X_Fr.of n2356 e2357 (by first | decide | exact ⟨Nat.le_add_right _ _, Nat.add_le_add_left (by decide) _⟩ | omega))).tr (X_Fr.mono ⟨hf2372.1, hf2372.2⟩ (fun q hq => by first | exact hq | (rcases hq with rfl <;> decide) | (rcases hq with rfl | rfl <;> decide) | (rcases hq with rfl | rfl | rfl <;> decide) | (rcases hq with rfl | rfl | rfl | rfl <;> decide) | (rcases hq with rfl | rfl | rfl | rfl | rfl <;> decide) | (rcases hq with rfl | rfl | rfl | rfl | rfl | rfl <;> decide) | (rcases hq with rfl | rfl | rfl | rfl | rfl | rfl | rfl <;> decide) | omega))).tr (X_Fr.of n2441 e2442 (by first | decide | exact ⟨Nat.le_add_right _ _, Nat.add_le_add_left (by decide) _⟩ | omega))).tr (X_Fr.mono ⟨hf2457.1, hf2457.2⟩ (fun q hq => by first | exact hq | (rcases hq with rfl <;> decide) | (rcases hq with rfl | rfl <;> decide) | (rcases hq with rfl | rfl | rfl <;> decide) | (rcases hq with rfl | rfl | rfl | rfl <;> decide) | (rcases hq with rfl | rfl | rfl | rfl | rfl <;> decide) | (rcases hq with rfl | rfl | rfl | rfl | rfl | rfl <;> decide) | (rcases hq with rfl | rfl | rfl | rfl | rfl | rfl | rfl <;> decide) | omega))).tr (X_Fr.mono ⟨hf2528.1, hf2528.2⟩ (fun q hq => by first | exact hq | (rcases hq with rfl <;> decide) | (rcases hq with rfl | rfl <;> decide) | (rcases hq with rfl | rfl | rfl <;> decide) | (rcases hq with rfl | rfl | rfl | rfl <;> decide) | (rcases hq with rfl | rfl | rfl | rfl | rfl <;> decide) | (rcases hq with rfl | rfl | rfl | rfl | rfl | rfl <;> decide) | (rcases hq with rfl | rfl | rfl | rfl | rfl | rfl | rfl <;> decide) | omega))).tr (X_Fr.of n2534 e2535 (by first | decide | exact ⟨Nat.le_add_right _ _, Nat.add_le_add_left (by decide) _⟩ | omega)))) (by omega) (by omega) (fun z => absurd z (by omega)) (fun _ => by
                                                    rw [← hR, show (30 - d1 5 0).toNat = (30 - (d1 5 0 + 1)).toNat + 1 by omega]
                                                    show (if so c1 = 59 then _ else _) = none
                                                    rw [if_neg (by assumption), hs2540]
                                                    rfl) (hob1.up (by omega)) (hob2.up (by omega)) ((hob3.up (by omega)).up (by omega)) (by omega)
                                · skip
                                  have c2437 : ¬ ((o 5) = 0) := c2437
                                  exact (show False by first | contradiction | omega).elim
                              · skip
                                have c2431 : ¬ (dg2367 ≤ 1) := c2431
                                refine T_p xr_159_175 xn_159 (pc' := 176) (ls' := [(5, .int (iI ((30 * wi) + (wS1 wi)))), (4, .int (iI (so c1))), (3, .int (iI at1)), (2, .int (iI pile)), (0, .ref 530), (1, .int (iI wi))]) (st' := [.ref 530]) rfl ?_
                                refine T_cv (S := S2361) (q := 530) xr_159_176 xf_147.1 xf_147.2.1 xn_147 (as := []) (r := []) rfl h2373 (Nat.le_of_ble_eq_true rfl) (Nat.le_of_ble_eq_true rfl) (pc' := 179) rfl (ls' := [(0, .ref 530)]) rfl ?_
                                have h2541 := (hf2372.1 532 (by first | decide | omega)).trans (h2359)
                                refine T_mono (r_wrong sc S2361 (X_ou (X_ou (X_ou (X_ou (X_ou (X_ou o 6 g1) 7 at2363) 8 en2364) 9 tk2365) 10 nu2366) 11 dg2367) nm2368 tx tb len n so pl ct E (X_av n c1) h2373 h2541 (show (o 3) = len from by first | assumption | omega) hl htx hX hp2370 (show 0 ≤ (o 5) ∧ (o 5) ≤ 5 from by omega)) (fun v2542 S2543 h2544 => ?_)
                                rcases h2544 with ⟨f2545, g2546, hv2547, hp2548, hM2549, hf2550⟩
                                rw [hv2547]
                                have h2551 : S2543.1 530 = .inr (11, [.ref 531, .int (iI (o 1)), .ref 532, .int (iI (o 3)), .int (iI (o 4)), .int (iI f2545), .int (iI g2546), .int (iI at2363), .int (iI en2364), .int (iI tk2365), .int (iI nu2366), .int (iI dg2367), .long nm2368, .ref 533, .ref 534, .ref 535, .ref 536, .ref 537, .ref 538, .ref 539, .ref 540, .ref 541, .ref 542, .ref 543, .ref 544, .ref 545, .ref 546, .ref 547, .int (iI (o 28)), .int (iI (o 29)), .int (iI (o 30)), .int (iI (o 31)), .int (iI (o 32)), .int (iI (o 33)), .ref 548, .ref 549, .ref 550, .ref 551, .int (iI (o 38)), .ref 552, .ref 553, .ref 554, .ref 555, .ref 556, .ref 557, .ref 558, .ref 559, .ref 560, .ref 561, .int (iI (o 49)), .ref 562, .ref 563, .ref 564, .ref 565, .ref 566, .ref 567, .ref 568, .ref 569, .int (iI (o 58)), .ref 570, .ref 571, .ref 572, .ref 573, .ref 574, .ref 575, .ref 576, .ref 577, .ref 578, .int (iI (o 68)), .int (iI (o 69)), .int (iI (o 70)), .ref 579]) := hM2549
                                show X_T sc 159 (179, [(5, .int (iI ((30 * wi) + (wS1 wi)))), (4, .int (iI (so c1))), (3, .int (iI at1)), (2, .int (iI pile)), (0, .ref 530), (1, .int (iI wi))], [], S2543) _
                                refine T_p xr_159_179 xn_159 (pc' := 180) (ls' := [(5, .int (iI ((30 * wi) + (wS1 wi)))), (4, .int (iI (so c1))), (3, .int (iI at1)), (2, .int (iI pile)), (0, .ref 530), (1, .int (iI wi))]) (st' := [.ref 530]) rfl ?_
                                refine T_cv (S := S2543) (q := 530) xr_159_180 xf_140.1 xf_140.2.1 xn_140 (as := []) (r := []) rfl h2551 (Nat.le_of_ble_eq_true rfl) (Nat.le_of_ble_eq_true rfl) (pc' := 183) rfl (ls' := [(0, .ref 530)]) rfl ?_
                                refine T_mono (r_isGood sc S2543 (X_ou (X_ou (X_ou (X_ou (X_ou (X_ou (X_ou o 5 f2545) 6 g2546) 7 at2363) 8 en2364) 9 tk2365) 10 nu2366) 11 dg2367) nm2368 h2551 (show 0 ≤ f2545 ∧ f2545 ≤ 5 from by omega)) (fun v2552 S2553 h2554 => ?_)
                                rcases h2554 with ⟨hv2555, hf2556⟩
                                rw [hv2555]
                                rw [hf2556]
                                show X_T sc 159 (183, [(5, .int (iI ((30 * wi) + (wS1 wi)))), (4, .int (iI (so c1))), (3, .int (iI at1)), (2, .int (iI pile)), (0, .ref 530), (1, .int (iI wi))], [.int (iI (bI (f2545 = 0)))], S2543) _
                                refine T_bif_ne xr_159_183 (t := 187) (pc' := 186) rfl rfl (fun c2557 => ?_) (fun c2557 => ?_)
                                · skip
                                  have c2557 : (f2545 = 0) := c2557
                                  exact (show False by first | contradiction | omega).elim
                                · skip
                                  have c2557 : ¬ (f2545 = 0) := c2557
                                  refine T_vret xr_159_186 xf_159.2.2 ?_
                                  refine hQ _ _ ?_
                                  have h2558 := (hf2550.1 542 (by first | decide | omega)).trans ((hf2372.1 542 (by first | decide | omega)).trans ((n2356 542 (by decide)).trans ((n2350 542 (by decide)).trans (hA1))))
                                  have h2559 := (hf2550.1 543 (by first | decide | omega)).trans ((hf2372.1 543 (by first | decide | omega)).trans ((n2356 543 (by decide)).trans (h2349)))
                                  have h2560 := (hf2550.1 544 (by first | decide | omega)).trans ((hf2372.1 544 (by first | decide | omega)).trans (h2355))
                                  refine Or.inr ⟨at2363, en2364, tk2365, nu2366, dg2367, nm2368, f2545, g2546, wS1, (X_ug sO1 ((30 * wi) + (wS1 wi)) (so c1)), (X_ug sN1 ((30 * wi) + (wS1 wi)) nu1), rfl, by omega, ?_, by first | exact hob1 | exact hob1.up (by omega) | exact (hob1.up (by omega)).up (by omega), by first | exact hob2 | exact hob2.up (by omega) | exact (hob2.up (by omega)).up (by omega), by first | exact hob3 | exact hob3.up (by omega) | exact (hob3.up (by omega)).up (by omega), h2551, h2558, h2559, h2560, ((((((X_Fr.rf).tr (X_Fr.of n2181 e2182 (by first | decide | exact ⟨Nat.le_add_right _ _, Nat.add_le_add_left (by decide) _⟩ | omega))).tr (X_Fr.mono ⟨hF2187.1, hF2187.2⟩ (fun q hq => by first | exact hq | (rcases hq with rfl <;> decide) | (rcases hq with rfl | rfl <;> decide) | (rcases hq with rfl | rfl | rfl <;> decide) | (rcases hq with rfl | rfl | rfl | rfl <;> decide) | (rcases hq with rfl | rfl | rfl | rfl | rfl <;> decide) | (rcases hq with rfl | rfl | rfl | rfl | rfl | rfl <;> decide) | (rcases hq with rfl | rfl | rfl | rfl | rfl | rfl | rfl <;> decide) | omega))).tr (X_Fr.of n2350 e2351 (by first | decide | exact ⟨Nat.le_add_right _ _, Nat.add_le_add_left (by decide) _⟩ | omega))).tr (X_Fr.of n2356 e2357 (by first | decide | exact ⟨Nat.le_add_right _ _, Nat.add_le_add_left (by decide) _⟩ | omega))).tr (X_Fr.mono ⟨hf2372.1, hf2372.2⟩ (fun q hq => by first | exact hq | (rcases hq with rfl <;> decide) | (rcases hq with rfl | rfl <;> decide) | (rcases hq with rfl | rfl | rfl <;> decide) | (rcases hq with rfl | rfl | rfl | rfl <;> decide) | (rcases hq with rfl | rfl | rfl | rfl | rfl <;> decide) | (rcases hq with rfl | rfl | rfl | rfl | rfl | rfl <;> decide) | (rcases hq with rfl | rfl | rfl | rfl | rfl | rfl | rfl <;> decide) | omega))).tr (X_Fr.mono ⟨hf2550.1, hf2550.2⟩ (fun q hq => by first | exact hq | (rcases hq with rfl <;> decide) | (rcases hq with rfl | rfl <;> decide) | (rcases hq with rfl | rfl | rfl <;> decide) | (rcases hq with rfl | rfl | rfl | rfl <;> decide) | (rcases hq with rfl | rfl | rfl | rfl | rfl <;> decide) | (rcases hq with rfl | rfl | rfl | rfl | rfl | rfl <;> decide) | (rcases hq with rfl | rfl | rfl | rfl | rfl | rfl | rfl <;> decide) | omega))⟩
                                  by_cases h30 : d1 5 0 = 30
                                  · right
                                    refine ⟨c1, d1, pile, ?_, Or.inl (by assumption)⟩
                                    rw [← hR, show (30 - d1 5 0).toNat = 0 by omega]
                                    rfl
                                  · left
                                    have hs : sp_step n so ct c1 d1 pile = none := by
                                      exact sp_step_af (by omega) (by omega)
                                    rw [← hR, show (30 - d1 5 0).toNat = (30 - (d1 5 0 + 1)).toNat + 1 by omega]
                                    show (if so c1 = 59 then _ else _) = none
                                    rw [if_neg (by assumption), hs]
                                    rfl
                        · skip
                          have c2347 : ¬ ((o 5) = 0) := c2347
                          exact (show False by first | contradiction | omega).elim
                      · skip
                        have c2341 : ¬ (¬ (wS1 wi) = 30) := c2341
                        refine T_p xr_159_103 xn_159 (pc' := 104) (ls' := [(4, .int (iI (so c1))), (3, .int (iI at1)), (2, .int (iI pile)), (0, .ref 530), (1, .int (iI wi))]) (st' := [.ref 530]) rfl ?_
                        refine T_cv (S := S2191) (q := 530) xr_159_104 xf_147.1 xf_147.2.1 xn_147 (as := []) (r := []) rfl hM2204 (Nat.le_of_ble_eq_true rfl) (Nat.le_of_ble_eq_true rfl) (pc' := 107) rfl (ls' := [(0, .ref 530)]) rfl ?_
                        refine T_mono (r_wrong sc S2191 (X_ou (X_ou (X_ou (X_ou (X_ou (X_ou o 6 g1) 7 at1) 8 en1) 9 tk1) 10 nu1) 11 dg1) nm1 tx tb len n so pl ct E c1 hM2204 h2205 (show (o 3) = len from by first | assumption | omega) hl htx hX hT1 (show 0 ≤ (o 5) ∧ (o 5) ≤ 5 from by omega)) (fun v2561 S2562 h2563 => ?_)
                        rcases h2563 with ⟨f2564, g2565, hv2566, hp2567, hM2568, hf2569⟩
                        rw [hv2566]
                        have h2570 : S2562.1 530 = .inr (11, [.ref 531, .int (iI (o 1)), .ref 532, .int (iI (o 3)), .int (iI (o 4)), .int (iI f2564), .int (iI g2565), .int (iI at1), .int (iI en1), .int (iI tk1), .int (iI nu1), .int (iI dg1), .long nm1, .ref 533, .ref 534, .ref 535, .ref 536, .ref 537, .ref 538, .ref 539, .ref 540, .ref 541, .ref 542, .ref 543, .ref 544, .ref 545, .ref 546, .ref 547, .int (iI (o 28)), .int (iI (o 29)), .int (iI (o 30)), .int (iI (o 31)), .int (iI (o 32)), .int (iI (o 33)), .ref 548, .ref 549, .ref 550, .ref 551, .int (iI (o 38)), .ref 552, .ref 553, .ref 554, .ref 555, .ref 556, .ref 557, .ref 558, .ref 559, .ref 560, .ref 561, .int (iI (o 49)), .ref 562, .ref 563, .ref 564, .ref 565, .ref 566, .ref 567, .ref 568, .ref 569, .int (iI (o 58)), .ref 570, .ref 571, .ref 572, .ref 573, .ref 574, .ref 575, .ref 576, .ref 577, .ref 578, .int (iI (o 68)), .int (iI (o 69)), .int (iI (o 70)), .ref 579]) := hM2568
                        show X_T sc 159 (107, [(4, .int (iI (so c1))), (3, .int (iI at1)), (2, .int (iI pile)), (0, .ref 530), (1, .int (iI wi))], [], S2562) _
                        refine T_p xr_159_107 xn_159 (pc' := 108) (ls' := [(4, .int (iI (so c1))), (3, .int (iI at1)), (2, .int (iI pile)), (0, .ref 530), (1, .int (iI wi))]) (st' := [.ref 530]) rfl ?_
                        refine T_cv (S := S2562) (q := 530) xr_159_108 xf_140.1 xf_140.2.1 xn_140 (as := []) (r := []) rfl h2570 (Nat.le_of_ble_eq_true rfl) (Nat.le_of_ble_eq_true rfl) (pc' := 111) rfl (ls' := [(0, .ref 530)]) rfl ?_
                        refine T_mono (r_isGood sc S2562 (X_ou (X_ou (X_ou (X_ou (X_ou (X_ou (X_ou o 5 f2564) 6 g2565) 7 at1) 8 en1) 9 tk1) 10 nu1) 11 dg1) nm1 h2570 (show 0 ≤ f2564 ∧ f2564 ≤ 5 from by omega)) (fun v2571 S2572 h2573 => ?_)
                        rcases h2573 with ⟨hv2574, hf2575⟩
                        rw [hv2574]
                        rw [hf2575]
                        show X_T sc 159 (111, [(4, .int (iI (so c1))), (3, .int (iI at1)), (2, .int (iI pile)), (0, .ref 530), (1, .int (iI wi))], [.int (iI (bI (f2564 = 0)))], S2562) _
                        refine T_bif_ne xr_159_111 (t := 115) (pc' := 114) rfl rfl (fun c2576 => ?_) (fun c2576 => ?_)
                        · skip
                          have c2576 : (f2564 = 0) := c2576
                          exact (show False by first | contradiction | omega).elim
                        · skip
                          have c2576 : ¬ (f2564 = 0) := c2576
                          refine T_vret xr_159_114 xf_159.2.2 ?_
                          refine hQ _ _ ?_
                          have h2577 := (hf2569.1 542 (by first | decide | omega)).trans (hA1)
                          have h2578 := (hf2569.1 543 (by first | decide | omega)).trans (hA2)
                          have h2579 := (hf2569.1 544 (by first | decide | omega)).trans (hA3)
                          refine Or.inr ⟨at1, en1, tk1, nu1, dg1, nm1, f2564, g2565, wS1, sO1, sN1, rfl, by omega, ?_, by first | exact hob1 | exact hob1.up (by omega) | exact (hob1.up (by omega)).up (by omega), by first | exact hob2 | exact hob2.up (by omega) | exact (hob2.up (by omega)).up (by omega), by first | exact hob3 | exact hob3.up (by omega) | exact (hob3.up (by omega)).up (by omega), h2570, h2577, h2578, h2579, (((X_Fr.rf).tr (X_Fr.of n2181 e2182 (by first | decide | exact ⟨Nat.le_add_right _ _, Nat.add_le_add_left (by decide) _⟩ | omega))).tr (X_Fr.mono ⟨hF2187.1, hF2187.2⟩ (fun q hq => by first | exact hq | (rcases hq with rfl <;> decide) | (rcases hq with rfl | rfl <;> decide) | (rcases hq with rfl | rfl | rfl <;> decide) | (rcases hq with rfl | rfl | rfl | rfl <;> decide) | (rcases hq with rfl | rfl | rfl | rfl | rfl <;> decide) | (rcases hq with rfl | rfl | rfl | rfl | rfl | rfl <;> decide) | (rcases hq with rfl | rfl | rfl | rfl | rfl | rfl | rfl <;> decide) | omega))).tr (X_Fr.mono ⟨hf2569.1, hf2569.2⟩ (fun q hq => by first | exact hq | (rcases hq with rfl <;> decide) | (rcases hq with rfl | rfl <;> decide) | (rcases hq with rfl | rfl | rfl <;> decide) | (rcases hq with rfl | rfl | rfl | rfl <;> decide) | (rcases hq with rfl | rfl | rfl | rfl | rfl <;> decide) | (rcases hq with rfl | rfl | rfl | rfl | rfl | rfl <;> decide) | (rcases hq with rfl | rfl | rfl | rfl | rfl | rfl | rfl <;> decide) | omega))⟩
                          by_cases h30 : d1 5 0 = 30
                          · right
                            refine ⟨c1, d1, pile, ?_, Or.inl (by assumption)⟩
                            rw [← hR, show (30 - d1 5 0).toNat = 0 by omega]
                            rfl
                          · left
                            have hs : sp_step n so ct c1 d1 pile = none := by
                              first | exact sp_step_of (by unfold X_isOp; omega) (by omega) | exact sp_step_x (by omega) (by omega) (by unfold X_isOp; omega)
                            rw [← hR, show (30 - d1 5 0).toNat = (30 - (d1 5 0 + 1)).toNat + 1 by omega]
                            show (if so c1 = 59 then _ else _) = none
                            rw [if_neg (by assumption), hs]
                            rfl
          · skip
            have c2233 : ¬ (¬ tk1 = 4) := c2233
            refine T_p xr_159_38 xn_159 (pc' := 40) (ls' := [(3, .int (iI at1)), (2, .int (iI pile)), (0, .ref 530), (1, .int (iI wi))]) (st' := [.int (iI 110)]) rfl ?_
            refine T_p xr_159_40 xn_159 (pc' := 64) (ls' := [(3, .int (iI at1)), (2, .int (iI pile)), (0, .ref 530), (1, .int (iI wi))]) (st' := [.int (iI 110)]) rfl ?_
            refine T_p xr_159_64 xn_159 (pc' := 66) (ls' := [(4, .int (iI 110)), (3, .int (iI at1)), (2, .int (iI pile)), (0, .ref 530), (1, .int (iI wi))]) (st' := []) rfl ?_
            refine T_p xr_159_66 xn_159 (pc' := 68) (ls' := [(4, .int (iI 110)), (3, .int (iI at1)), (2, .int (iI pile)), (0, .ref 530), (1, .int (iI wi))]) (st' := [.int (iI 110)]) rfl ?_
            refine T_zif_eqf xr_159_68 (t := 103) (pc' := 71) rfl rfl (by decide) ?_
            refine T_p xr_159_71 xn_159 (pc' := 73) (ls' := [(4, .int (iI 110)), (3, .int (iI at1)), (2, .int (iI pile)), (0, .ref 530), (1, .int (iI wi))]) (st' := [.int (iI 110)]) rfl ?_
            refine T_p xr_159_73 xn_159 (pc' := 75) (ls' := [(4, .int (iI 110)), (3, .int (iI at1)), (2, .int (iI pile)), (0, .ref 530), (1, .int (iI wi))]) (st' := [.int (iI 61), .int (iI 110)]) rfl ?_
            refine T_zicmp_eqf xr_159_75 (t := 103) (pc' := 78) rfl rfl (by decide) ?_
            refine T_p xr_159_78 xn_159 (pc' := 80) (ls' := [(4, .int (iI 110)), (3, .int (iI at1)), (2, .int (iI pile)), (0, .ref 530), (1, .int (iI wi))]) (st' := [.int (iI 110)]) rfl ?_
            refine T_p xr_159_80 xn_159 (pc' := 82) (ls' := [(4, .int (iI 110)), (3, .int (iI at1)), (2, .int (iI pile)), (0, .ref 530), (1, .int (iI wi))]) (st' := [.int (iI 58), .int (iI 110)]) rfl ?_
            refine T_zicmp_eqf xr_159_82 (t := 103) (pc' := 85) rfl rfl (by decide) ?_
            refine T_p xr_159_85 xn_159 (pc' := 87) (ls' := [(4, .int (iI 110)), (3, .int (iI at1)), (2, .int (iI pile)), (0, .ref 530), (1, .int (iI wi))]) (st' := [.int (iI 110)]) rfl ?_
            refine T_p xr_159_87 xn_159 (pc' := 89) (ls' := [(4, .int (iI 110)), (3, .int (iI at1)), (2, .int (iI pile)), (0, .ref 530), (1, .int (iI wi))]) (st' := [.int (iI 95), .int (iI 110)]) rfl ?_
            refine T_zicmp_eqf xr_159_89 (t := 103) (pc' := 92) rfl rfl (by decide) ?_
            refine T_p xr_159_92 xn_159 (pc' := 93) (ls' := [(4, .int (iI 110)), (3, .int (iI at1)), (2, .int (iI pile)), (0, .ref 530), (1, .int (iI wi))]) (st' := [.ref 530]) rfl ?_
            refine T_get xr_159_93 hM2204 rfl (v := .ref 542) rfl (pc' := 96) rfl ?_
            refine T_p xr_159_96 xn_159 (pc' := 97) (ls' := [(4, .int (iI 110)), (3, .int (iI at1)), (2, .int (iI pile)), (0, .ref 530), (1, .int (iI wi))]) (st' := [.int (iI wi), .ref 542]) rfl ?_
            refine T_ziald xr_159_97 hA1 (pc' := 98) rfl ?_
            refine T_p xr_159_98 xn_159 (pc' := 100) (ls' := [(4, .int (iI 110)), (3, .int (iI at1)), (2, .int (iI pile)), (0, .ref 530), (1, .int (iI wi))]) (st' := [.int (iI 30), .int (iI (wS1 wi))]) rfl ?_
            refine T_zicmp_ne xr_159_100 (t := 107) (pc' := 103) rfl rfl (fun c2580 => ?_) (fun c2580 => ?_)
            · skip
              have c2580 : ¬ (wS1 wi) = 30 := c2580
              refine T_p xr_159_107 xn_159 (pc' := 108) (ls' := [(4, .int (iI 110)), (3, .int (iI at1)), (2, .int (iI pile)), (0, .ref 530), (1, .int (iI wi))]) (st' := [.ref 530]) rfl ?_
              refine T_cv (S := S2191) (q := 530) xr_159_108 xf_140.1 xf_140.2.1 xn_140 (as := []) (r := []) rfl hM2204 (Nat.le_of_ble_eq_true rfl) (Nat.le_of_ble_eq_true rfl) (pc' := 111) rfl (ls' := [(0, .ref 530)]) rfl ?_
              refine T_mono (r_isGood sc S2191 (X_ou (X_ou (X_ou (X_ou (X_ou (X_ou o 6 g1) 7 at1) 8 en1) 9 tk1) 10 nu1) 11 dg1) nm1 hM2204 (show 0 ≤ (o 5) ∧ (o 5) ≤ 5 from by omega)) (fun v2581 S2582 h2583 => ?_)
              rcases h2583 with ⟨hv2584, hf2585⟩
              rw [hv2584]
              rw [hf2585]
              show X_T sc 159 (111, [(4, .int (iI 110)), (3, .int (iI at1)), (2, .int (iI pile)), (0, .ref 530), (1, .int (iI wi))], [.int (iI (bI ((o 5) = 0)))], S2191) _
              refine T_bif_ne xr_159_111 (t := 115) (pc' := 114) rfl rfl (fun c2586 => ?_) (fun c2586 => ?_)
              · skip
                have c2586 : ((o 5) = 0) := c2586
                refine T_p xr_159_115 xn_159 (pc' := 117) (ls' := [(4, .int (iI 110)), (3, .int (iI at1)), (2, .int (iI pile)), (0, .ref 530), (1, .int (iI wi))]) (st' := [.int (iI 30)]) rfl ?_
                refine T_p xr_159_117 xn_159 (pc' := 118) (ls' := [(4, .int (iI 110)), (3, .int (iI at1)), (2, .int (iI pile)), (0, .ref 530), (1, .int (iI wi))]) (st' := [.int (iI wi), .int (iI 30)]) rfl ?_
                refine T_zimul xr_159_118 (z := 30 * wi) rfl (pc' := 119) rfl ?_
                refine T_p xr_159_119 xn_159 (pc' := 120) (ls' := [(4, .int (iI 110)), (3, .int (iI at1)), (2, .int (iI pile)), (0, .ref 530), (1, .int (iI wi))]) (st' := [.ref 530, .int (iI (30 * wi))]) rfl ?_
                refine T_get xr_159_120 hM2204 rfl (v := .ref 542) rfl (pc' := 123) rfl ?_
                refine T_p xr_159_123 xn_159 (pc' := 124) (ls' := [(4, .int (iI 110)), (3, .int (iI at1)), (2, .int (iI pile)), (0, .ref 530), (1, .int (iI wi))]) (st' := [.int (iI wi), .ref 542, .int (iI (30 * wi))]) rfl ?_
                refine T_ziald xr_159_124 hA1 (pc' := 125) rfl ?_
                refine T_ziadd xr_159_125 (z := (30 * wi) + (wS1 wi)) rfl (pc' := 126) rfl ?_
                refine T_p xr_159_126 xn_159 (pc' := 128) (ls' := [(5, .int (iI ((30 * wi) + (wS1 wi)))), (4, .int (iI 110)), (3, .int (iI at1)), (2, .int (iI pile)), (0, .ref 530), (1, .int (iI wi))]) (st' := []) rfl ?_
                refine T_p xr_159_128 xn_159 (pc' := 129) (ls' := [(5, .int (iI ((30 * wi) + (wS1 wi)))), (4, .int (iI 110)), (3, .int (iI at1)), (2, .int (iI pile)), (0, .ref 530), (1, .int (iI wi))]) (st' := [.ref 530]) rfl ?_
                refine T_get xr_159_129 hM2204 rfl (v := .ref 543) rfl (pc' := 132) rfl ?_
                refine T_p xr_159_132 xn_159 (pc' := 134) (ls' := [(5, .int (iI ((30 * wi) + (wS1 wi)))), (4, .int (iI 110)), (3, .int (iI at1)), (2, .int (iI pile)), (0, .ref 530), (1, .int (iI wi))]) (st' := [.int (iI ((30 * wi) + (wS1 wi))), .ref 543]) rfl ?_
                refine T_p xr_159_134 xn_159 (pc' := 136) (ls' := [(5, .int (iI ((30 * wi) + (wS1 wi)))), (4, .int (iI 110)), (3, .int (iI at1)), (2, .int (iI pile)), (0, .ref 530), (1, .int (iI wi))]) (st' := [.int (iI 110), .int (iI ((30 * wi) + (wS1 wi))), .ref 543]) rfl ?_
                refine T_ziast xr_159_136 hA2 (pc' := 137) rfl (fun S2587 h2588 n2589 e2590 => ?_)
                refine T_p xr_159_137 xn_159 (pc' := 138) (ls' := [(5, .int (iI ((30 * wi) + (wS1 wi)))), (4, .int (iI 110)), (3, .int (iI at1)), (2, .int (iI pile)), (0, .ref 530), (1, .int (iI wi))]) (st' := [.ref 530]) rfl ?_
                have h2591 := (n2589 530 (by decide)).trans (hM2204)
                refine T_get xr_159_138 h2591 rfl (v := .ref 544) rfl (pc' := 141) rfl ?_
                refine T_p xr_159_141 xn_159 (pc' := 143) (ls' := [(5, .int (iI ((30 * wi) + (wS1 wi)))), (4, .int (iI 110)), (3, .int (iI at1)), (2, .int (iI pile)), (0, .ref 530), (1, .int (iI wi))]) (st' := [.int (iI ((30 * wi) + (wS1 wi))), .ref 544]) rfl ?_
                refine T_p xr_159_143 xn_159 (pc' := 144) (ls' := [(5, .int (iI ((30 * wi) + (wS1 wi)))), (4, .int (iI 110)), (3, .int (iI at1)), (2, .int (iI pile)), (0, .ref 530), (1, .int (iI wi))]) (st' := [.ref 530, .int (iI ((30 * wi) + (wS1 wi))), .ref 544]) rfl ?_
                refine T_get xr_159_144 h2591 rfl (v := .int (iI nu1)) rfl (pc' := 147) rfl ?_
                have h2592 := (n2589 544 (by decide)).trans (hA3)
                refine T_ziast xr_159_147 h2592 (pc' := 148) rfl (fun S2593 h2594 n2595 e2596 => ?_)
                refine T_p xr_159_148 xn_159 (pc' := 149) (ls' := [(5, .int (iI ((30 * wi) + (wS1 wi)))), (4, .int (iI 110)), (3, .int (iI at1)), (2, .int (iI pile)), (0, .ref 530), (1, .int (iI wi))]) (st' := [.ref 530]) rfl ?_
                have h2597 := (n2595 530 (by decide)).trans (h2591)
                refine T_cv (S := S2593) (q := 530) xr_159_149 xf_141.1 xf_141.2.1 xn_141 (as := []) (r := []) rfl h2597 (Nat.le_of_ble_eq_true rfl) (Nat.le_of_ble_eq_true rfl) (pc' := 152) rfl (ls' := [(0, .ref 530)]) rfl ?_
                have h2598 := (n2595 532 (by decide)).trans ((n2589 532 (by decide)).trans (h2205))
                refine T_mono (r_nx sc S2593 (X_ou (X_ou (X_ou (X_ou (X_ou (X_ou o 6 g1) 7 at1) 8 en1) 9 tk1) 10 nu1) 11 dg1) nm1 tx tb len n so pl ct E c1 h2597 h2598 (show (o 3) = len from by first | assumption | omega) hl htx hX hT1 (by omega)) (fun v2599 S2600 h2601 => ?_)
                rcases h2601 with ⟨at2602, en2603, tk2604, nu2605, dg2606, nm2607, hv2608, hp2609, hM2610, hf2611⟩
                rw [hv2608]
                have h2612 : S2600.1 530 = .inr (11, [.ref 531, .int (iI (o 1)), .ref 532, .int (iI (o 3)), .int (iI (o 4)), .int (iI (o 5)), .int (iI g1), .int (iI at2602), .int (iI en2603), .int (iI tk2604), .int (iI nu2605), .int (iI dg2606), .long nm2607, .ref 533, .ref 534, .ref 535, .ref 536, .ref 537, .ref 538, .ref 539, .ref 540, .ref 541, .ref 542, .ref 543, .ref 544, .ref 545, .ref 546, .ref 547, .int (iI (o 28)), .int (iI (o 29)), .int (iI (o 30)), .int (iI (o 31)), .int (iI (o 32)), .int (iI (o 33)), .ref 548, .ref 549, .ref 550, .ref 551, .int (iI (o 38)), .ref 552, .ref 553, .ref 554, .ref 555, .ref 556, .ref 557, .ref 558, .ref 559, .ref 560, .ref 561, .int (iI (o 49)), .ref 562, .ref 563, .ref 564, .ref 565, .ref 566, .ref 567, .ref 568, .ref 569, .int (iI (o 58)), .ref 570, .ref 571, .ref 572, .ref 573, .ref 574, .ref 575, .ref 576, .ref 577, .ref 578, .int (iI (o 68)), .int (iI (o 69)), .int (iI (o 70)), .ref 579]) := hM2610
                obtain ⟨⟨_, _⟩, ⟨_, _⟩, hk2613, ⟨_, _⟩, hk2613e, ⟨_, _⟩, ⟨_, _⟩⟩ := R_tk_f hX hp2609
                show X_T sc 159 (152, [(5, .int (iI ((30 * wi) + (wS1 wi)))), (4, .int (iI 110)), (3, .int (iI at1)), (2, .int (iI pile)), (0, .ref 530), (1, .int (iI wi))], [], S2600) _
                refine T_p xr_159_152 xn_159 (pc' := 154) (ls' := [(5, .int (iI ((30 * wi) + (wS1 wi)))), (4, .int (iI 110)), (3, .int (iI at1)), (2, .int (iI pile)), (0, .ref 530), (1, .int (iI wi))]) (st' := [.int (iI 110)]) rfl ?_
                refine T_p xr_159_154 xn_159 (pc' := 156) (ls' := [(5, .int (iI ((30 * wi) + (wS1 wi)))), (4, .int (iI 110)), (3, .int (iI at1)), (2, .int (iI pile)), (0, .ref 530), (1, .int (iI wi))]) (st' := [.int (iI 64), .int (iI 110)]) rfl ?_
                refine T_zicmp_net xr_159_156 (t := 204) rfl (by decide) ?_
                refine T_p xr_159_204 xn_159 (pc' := 206) (ls' := [(5, .int (iI ((30 * wi) + (wS1 wi)))), (4, .int (iI 110)), (3, .int (iI at1)), (2, .int (iI pile)), (0, .ref 530), (1, .int (iI wi))]) (st' := [.int (iI 110)]) rfl ?_
                refine T_p xr_159_206 xn_159 (pc' := 208) (ls' := [(5, .int (iI ((30 * wi) + (wS1 wi)))), (4, .int (iI 110)), (3, .int (iI at1)), (2, .int (iI pile)), (0, .ref 530), (1, .int (iI wi))]) (st' := [.int (iI 110), .int (iI 110)]) rfl ?_
                refine T_zicmp_eqt xr_159_208 (t := 218) rfl (by decide) ?_
                refine T_p xr_159_218 xn_159 (pc' := 219) (ls' := [(5, .int (iI ((30 * wi) + (wS1 wi)))), (4, .int (iI 110)), (3, .int (iI at1)), (2, .int (iI pile)), (0, .ref 530), (1, .int (iI wi))]) (st' := [.int (iI 1)]) rfl ?_
                refine T_p xr_159_219 xn_159 (pc' := 223) (ls' := [(5, .int (iI ((30 * wi) + (wS1 wi)))), (4, .int (iI 110)), (3, .int (iI at1)), (2, .int (iI pile)), (0, .ref 530), (1, .int (iI wi))]) (st' := [.int (iI 1)]) rfl ?_
                refine T_p xr_159_223 xn_159 (pc' := 225) (ls' := [(6, .int (iI 1)), (5, .int (iI ((30 * wi) + (wS1 wi)))), (4, .int (iI 110)), (3, .int (iI at1)), (2, .int (iI pile)), (0, .ref 530), (1, .int (iI wi))]) (st' := []) rfl ?_
                refine T_p xr_159_225 xn_159 (pc' := 227) (ls' := [(6, .int (iI 1)), (5, .int (iI ((30 * wi) + (wS1 wi)))), (4, .int (iI 110)), (3, .int (iI at1)), (2, .int (iI pile)), (0, .ref 530), (1, .int (iI wi))]) (st' := [.int (iI 1)]) rfl ?_
                refine T_zif_eqf xr_159_227 (t := 272) (pc' := 230) rfl rfl (by decide) ?_
                refine T_p xr_159_230 xn_159 (pc' := 231) (ls' := [(6, .int (iI 1)), (5, .int (iI ((30 * wi) + (wS1 wi)))), (4, .int (iI 110)), (3, .int (iI at1)), (2, .int (iI pile)), (0, .ref 530), (1, .int (iI wi))]) (st' := [.int (iI pile)]) rfl ?_
                refine T_p xr_159_231 xn_159 (pc' := 233) (ls' := [(6, .int (iI 1)), (5, .int (iI ((30 * wi) + (wS1 wi)))), (4, .int (iI 110)), (3, .int (iI at1)), (2, .int (iI pile)), (0, .ref 530), (1, .int (iI wi))]) (st' := [.int (iI 16), .int (iI pile)]) rfl ?_
                refine T_zicmp_eq xr_159_233 (t := 277) (pc' := 236) rfl rfl (fun c2614 => ?_) (fun c2614 => ?_)
                · skip
                  have c2614 : pile = 16 := c2614
                  refine T_p xr_159_277 xn_159 (pc' := 278) (ls' := [(6, .int (iI 1)), (5, .int (iI ((30 * wi) + (wS1 wi)))), (4, .int (iI 110)), (3, .int (iI at1)), (2, .int (iI pile)), (0, .ref 530), (1, .int (iI wi))]) (st' := [.ref 530]) rfl ?_
                  refine T_p xr_159_278 xn_159 (pc' := 279) (ls' := [(6, .int (iI 1)), (5, .int (iI ((30 * wi) + (wS1 wi)))), (4, .int (iI 110)), (3, .int (iI at1)), (2, .int (iI pile)), (0, .ref 530), (1, .int (iI wi))]) (st' := [.int (iI 5), .ref 530]) rfl ?_
                  refine T_p xr_159_279 xn_159 (pc' := 280) (ls' := [(6, .int (iI 1)), (5, .int (iI ((30 * wi) + (wS1 wi)))), (4, .int (iI 110)), (3, .int (iI at1)), (2, .int (iI pile)), (0, .ref 530), (1, .int (iI wi))]) (st' := [.int (iI at1), .int (iI 5), .ref 530]) rfl ?_
                  refine T_cv (S := S2600) (q := 530) xr_159_280 xf_139.1 xf_139.2.1 xn_139 (as := [.int (iI 5), .int (iI at1)]) (r := []) rfl h2612 (Nat.le_of_ble_eq_true rfl) (Nat.le_of_ble_eq_true rfl) (pc' := 283) rfl (ls' := [(0, .ref 530), (1, .int (iI 5)), (2, .int (iI at1))]) rfl ?_
                  refine T_mono (r_fails sc S2600 (X_ou (X_ou (X_ou (X_ou (X_ou (X_ou o 6 g1) 7 at2602) 8 en2603) 9 tk2604) 10 nu2605) 11 dg2606) nm2607 5 at1 h2612 (show 0 ≤ (o 5) ∧ (o 5) ≤ 5 from by omega) (by omega)) (fun v2615 S2616 h2617 => ?_)
                  rcases h2617 with ⟨f2618, g2619, hv2620, hp2621, hM2622, hf2623⟩
                  rw [hv2620]
                  have h2624 : S2616.1 530 = .inr (11, [.ref 531, .int (iI (o 1)), .ref 532, .int (iI (o 3)), .int (iI (o 4)), .int (iI f2618), .int (iI g2619), .int (iI at2602), .int (iI en2603), .int (iI tk2604), .int (iI nu2605), .int (iI dg2606), .long nm2607, .ref 533, .ref 534, .ref 535, .ref 536, .ref 537, .ref 538, .ref 539, .ref 540, .ref 541, .ref 542, .ref 543, .ref 544, .ref 545, .ref 546, .ref 547, .int (iI (o 28)), .int (iI (o 29)), .int (iI (o 30)), .int (iI (o 31)), .int (iI (o 32)), .int (iI (o 33)), .ref 548, .ref 549, .ref 550, .ref 551, .int (iI (o 38)), .ref 552, .ref 553, .ref 554, .ref 555, .ref 556, .ref 557, .ref 558, .ref 559, .ref 560, .ref 561, .int (iI (o 49)), .ref 562, .ref 563, .ref 564, .ref 565, .ref 566, .ref 567, .ref 568, .ref 569, .int (iI (o 58)), .ref 570, .ref 571, .ref 572, .ref 573, .ref 574, .ref 575, .ref 576, .ref 577, .ref 578, .int (iI (o 68)), .int (iI (o 69)), .int (iI (o 70)), .ref 579]) := hM2622
                  have hp2621 : ((o 5) = 0 → f2618 = 5) ∧ (¬ (o 5) = 0 → f2618 = (o 5)) := hp2621
                  have hf2625 : f2618 = 5 := hp2621.1 h5
                  show X_T sc 159 (283, [(6, .int (iI 1)), (5, .int (iI ((30 * wi) + (wS1 wi)))), (4, .int (iI 110)), (3, .int (iI at1)), (2, .int (iI pile)), (0, .ref 530), (1, .int (iI wi))], [], S2616) _
                  refine T_p xr_159_283 xn_159 (pc' := 284) (ls' := [(6, .int (iI 1)), (5, .int (iI ((30 * wi) + (wS1 wi)))), (4, .int (iI 110)), (3, .int (iI at1)), (2, .int (iI pile)), (0, .ref 530), (1, .int (iI wi))]) (st' := [.int (iI pile)]) rfl ?_
                  refine T_p xr_159_284 xn_159 (pc' := 286) (ls' := [(6, .int (iI 1)), (5, .int (iI ((30 * wi) + (wS1 wi)))), (4, .int (iI 110)), (3, .int (iI at1)), (2, .int (iI pile)), (0, .ref 530), (1, .int (iI wi))]) (st' := [.int (iI 1), .int (iI pile)]) rfl ?_
                  refine T_zif_eqf xr_159_286 (t := 293) (pc' := 289) rfl rfl (by decide) ?_
                  refine T_p xr_159_289 xn_159 (pc' := 290) (ls' := [(6, .int (iI 1)), (5, .int (iI ((30 * wi) + (wS1 wi)))), (4, .int (iI 110)), (3, .int (iI at1)), (2, .int (iI pile)), (0, .ref 530), (1, .int (iI wi))]) (st' := [.int (iI 1), .int (iI pile)]) rfl ?_
                  refine T_p xr_159_290 xn_159 (pc' := 294) (ls' := [(6, .int (iI 1)), (5, .int (iI ((30 * wi) + (wS1 wi)))), (4, .int (iI 110)), (3, .int (iI at1)), (2, .int (iI pile)), (0, .ref 530), (1, .int (iI wi))]) (st' := [.int (iI 1), .int (iI pile)]) rfl ?_
                  refine T_ziadd xr_159_294 (z := pile + 1) rfl (pc' := 295) rfl ?_
                  refine T_p xr_159_295 xn_159 (pc' := 296) (ls' := [(2, .int (iI (pile + 1))), (6, .int (iI 1)), (5, .int (iI ((30 * wi) + (wS1 wi)))), (4, .int (iI 110)), (3, .int (iI at1)), (0, .ref 530), (1, .int (iI wi))]) (st' := []) rfl ?_
                  refine T_p xr_159_296 xn_159 (pc' := 297) (ls' := [(2, .int (iI (pile + 1))), (6, .int (iI 1)), (5, .int (iI ((30 * wi) + (wS1 wi)))), (4, .int (iI 110)), (3, .int (iI at1)), (0, .ref 530), (1, .int (iI wi))]) (st' := [.ref 530]) rfl ?_
                  refine T_get xr_159_297 h2624 rfl (v := .ref 542) rfl (pc' := 300) rfl ?_
                  refine T_p xr_159_300 xn_159 (pc' := 301) (ls' := [(2, .int (iI (pile + 1))), (6, .int (iI 1)), (5, .int (iI ((30 * wi) + (wS1 wi)))), (4, .int (iI 110)), (3, .int (iI at1)), (0, .ref 530), (1, .int (iI wi))]) (st' := [.int (iI wi), .ref 542]) rfl ?_
                  refine T_p xr_159_301 xn_159 (pc' := 302) (ls' := [(2, .int (iI (pile + 1))), (6, .int (iI 1)), (5, .int (iI ((30 * wi) + (wS1 wi)))), (4, .int (iI 110)), (3, .int (iI at1)), (0, .ref 530), (1, .int (iI wi))]) (st' := [.int (iI wi), .ref 542, .int (iI wi), .ref 542]) rfl ?_
                  have h2626 := (hf2623.1 542 (by first | decide | omega)).trans ((hf2611.1 542 (by first | decide | omega)).trans ((n2595 542 (by decide)).trans ((n2589 542 (by decide)).trans (hA1))))
                  refine T_ziald xr_159_302 h2626 (pc' := 303) rfl ?_
                  refine T_p xr_159_303 xn_159 (pc' := 304) (ls' := [(2, .int (iI (pile + 1))), (6, .int (iI 1)), (5, .int (iI ((30 * wi) + (wS1 wi)))), (4, .int (iI 110)), (3, .int (iI at1)), (0, .ref 530), (1, .int (iI wi))]) (st' := [.int (iI 1), .int (iI (wS1 wi)), .int (iI wi), .ref 542]) rfl ?_
                  refine T_ziadd xr_159_304 (z := (wS1 wi) + 1) rfl (pc' := 305) rfl ?_
                  refine T_ziast xr_159_305 h2626 (pc' := 306) rfl (fun S2627 h2628 n2629 e2630 => ?_)
                  refine T_p xr_159_306 xn_159 (pc' := 9) (ls' := [(2, .int (iI (pile + 1))), (6, .int (iI 1)), (5, .int (iI ((30 * wi) + (wS1 wi)))), (4, .int (iI 110)), (3, .int (iI at1)), (0, .ref 530), (1, .int (iI wi))]) (st' := []) rfl ?_
                  have h2631 := (n2629 530 (by decide)).trans (h2624)
                  have h2632 := (n2629 543 (by decide)).trans ((hf2623.1 543 (by first | decide | omega)).trans ((hf2611.1 543 (by first | decide | omega)).trans ((n2595 543 (by decide)).trans (h2588))))
                  have h2633 := (n2629 544 (by decide)).trans ((hf2623.1 544 (by first | decide | omega)).trans ((hf2611.1 544 (by first | decide | omega)).trans (h2594)))
                  have h52634 : (X_aS d1 0 0) 5 0 = d1 5 0 + 1 := rfl
                  have hv0 := hT1.2.2.2.2.2 (by omega)
                  have hv1 := X_vl_n hv0.1 hv0.2.2.2
                  have hs2635 : sp_step n so ct c1 d1 pile = none := by
                    exact sp_step_nf (by omega) (by omega)
                  refine T_sub (ls := [(2, .int (iI (pile + 1))), (0, .ref 530), (1, .int (iI wi))]) ⟨rfl, rfl, rfl, trivial⟩ rfl rfl ?_
                  exact ih2184 S2627 f2618 g2619 at2602 en2603 tk2604 nu2605 dg2606 nm2607 (X_av n c1) (X_aS d1 0 0) (pile + 1) (X_ug wS1 wi ((wS1 wi) + 1)) (X_ug sO1 ((30 * wi) + (wS1 wi)) 110) (X_ug sN1 ((30 * wi) + (wS1 wi)) nu1) h2631 h2628 h2632 h2633 (hF2187.tr ((((((X_Fr.rf).tr (X_Fr.of n2589 e2590 (by first | decide | exact ⟨Nat.le_add_right _ _, Nat.add_le_add_left (by decide) _⟩ | omega))).tr (X_Fr.of n2595 e2596 (by first | decide | exact ⟨Nat.le_add_right _ _, Nat.add_le_add_left (by decide) _⟩ | omega))).tr (X_Fr.mono ⟨hf2611.1, hf2611.2⟩ (fun q hq => by first | exact hq | (rcases hq with rfl <;> decide) | (rcases hq with rfl | rfl <;> decide) | (rcases hq with rfl | rfl | rfl <;> decide) | (rcases hq with rfl | rfl | rfl | rfl <;> decide) | (rcases hq with rfl | rfl | rfl | rfl | rfl <;> decide) | (rcases hq with rfl | rfl | rfl | rfl | rfl | rfl <;> decide) | (rcases hq with rfl | rfl | rfl | rfl | rfl | rfl | rfl <;> decide) | omega))).tr (X_Fr.mono ⟨hf2623.1, hf2623.2⟩ (fun q hq => by first | exact hq | (rcases hq with rfl <;> decide) | (rcases hq with rfl | rfl <;> decide) | (rcases hq with rfl | rfl | rfl <;> decide) | (rcases hq with rfl | rfl | rfl | rfl <;> decide) | (rcases hq with rfl | rfl | rfl | rfl | rfl <;> decide) | (rcases hq with rfl | rfl | rfl | rfl | rfl | rfl <;> decide) | (rcases hq with rfl | rfl | rfl | rfl | rfl | rfl | rfl <;> decide) | omega))).tr (X_Fr.of n2629 e2630 (by first | decide | exact ⟨Nat.le_add_right _ _, Nat.add_le_add_left (by decide) _⟩ | omega)))) (by omega) (by omega) (fun z => absurd z (by omega)) (fun _ => by
                        rw [← hR, show (30 - d1 5 0).toNat = (30 - (d1 5 0 + 1)).toNat + 1 by omega]
                        show (if so c1 = 59 then _ else _) = none
                        rw [if_neg (by assumption), hs2635]
                        rfl) (hob1.up (by omega)) (hob2.up (by omega)) (hob3.up (by omega)) (by omega)
                · skip
                  have c2614 : ¬ (pile = 16) := c2614
                  refine T_p xr_159_236 xn_159 (pc' := 238) (ls' := [(6, .int (iI 1)), (5, .int (iI ((30 * wi) + (wS1 wi)))), (4, .int (iI 110)), (3, .int (iI at1)), (2, .int (iI pile)), (0, .ref 530), (1, .int (iI wi))]) (st' := [.int (iI 110)]) rfl ?_
                  refine T_p xr_159_238 xn_159 (pc' := 240) (ls' := [(6, .int (iI 1)), (5, .int (iI ((30 * wi) + (wS1 wi)))), (4, .int (iI 110)), (3, .int (iI at1)), (2, .int (iI pile)), (0, .ref 530), (1, .int (iI wi))]) (st' := [.int (iI 64), .int (iI 110)]) rfl ?_
                  refine T_zicmp_net xr_159_240 (t := 283) rfl (by decide) ?_
                  refine T_p xr_159_283 xn_159 (pc' := 284) (ls' := [(6, .int (iI 1)), (5, .int (iI ((30 * wi) + (wS1 wi)))), (4, .int (iI 110)), (3, .int (iI at1)), (2, .int (iI pile)), (0, .ref 530), (1, .int (iI wi))]) (st' := [.int (iI pile)]) rfl ?_
                  refine T_p xr_159_284 xn_159 (pc' := 286) (ls' := [(6, .int (iI 1)), (5, .int (iI ((30 * wi) + (wS1 wi)))), (4, .int (iI 110)), (3, .int (iI at1)), (2, .int (iI pile)), (0, .ref 530), (1, .int (iI wi))]) (st' := [.int (iI 1), .int (iI pile)]) rfl ?_
                  refine T_zif_eqf xr_159_286 (t := 293) (pc' := 289) rfl rfl (by decide) ?_
                  refine T_p xr_159_289 xn_159 (pc' := 290) (ls' := [(6, .int (iI 1)), (5, .int (iI ((30 * wi) + (wS1 wi)))), (4, .int (iI 110)), (3, .int (iI at1)), (2, .int (iI pile)), (0, .ref 530), (1, .int (iI wi))]) (st' := [.int (iI 1), .int (iI pile)]) rfl ?_
                  refine T_p xr_159_290 xn_159 (pc' := 294) (ls' := [(6, .int (iI 1)), (5, .int (iI ((30 * wi) + (wS1 wi)))), (4, .int (iI 110)), (3, .int (iI at1)), (2, .int (iI pile)), (0, .ref 530), (1, .int (iI wi))]) (st' := [.int (iI 1), .int (iI pile)]) rfl ?_
                  refine T_ziadd xr_159_294 (z := pile + 1) rfl (pc' := 295) rfl ?_
                  refine T_p xr_159_295 xn_159 (pc' := 296) (ls' := [(2, .int (iI (pile + 1))), (6, .int (iI 1)), (5, .int (iI ((30 * wi) + (wS1 wi)))), (4, .int (iI 110)), (3, .int (iI at1)), (0, .ref 530), (1, .int (iI wi))]) (st' := []) rfl ?_
                  refine T_p xr_159_296 xn_159 (pc' := 297) (ls' := [(2, .int (iI (pile + 1))), (6, .int (iI 1)), (5, .int (iI ((30 * wi) + (wS1 wi)))), (4, .int (iI 110)), (3, .int (iI at1)), (0, .ref 530), (1, .int (iI wi))]) (st' := [.ref 530]) rfl ?_
                  refine T_get xr_159_297 h2612 rfl (v := .ref 542) rfl (pc' := 300) rfl ?_
                  refine T_p xr_159_300 xn_159 (pc' := 301) (ls' := [(2, .int (iI (pile + 1))), (6, .int (iI 1)), (5, .int (iI ((30 * wi) + (wS1 wi)))), (4, .int (iI 110)), (3, .int (iI at1)), (0, .ref 530), (1, .int (iI wi))]) (st' := [.int (iI wi), .ref 542]) rfl ?_
                  refine T_p xr_159_301 xn_159 (pc' := 302) (ls' := [(2, .int (iI (pile + 1))), (6, .int (iI 1)), (5, .int (iI ((30 * wi) + (wS1 wi)))), (4, .int (iI 110)), (3, .int (iI at1)), (0, .ref 530), (1, .int (iI wi))]) (st' := [.int (iI wi), .ref 542, .int (iI wi), .ref 542]) rfl ?_
                  have h2636 := (hf2611.1 542 (by first | decide | omega)).trans ((n2595 542 (by decide)).trans ((n2589 542 (by decide)).trans (hA1)))
                  refine T_ziald xr_159_302 h2636 (pc' := 303) rfl ?_
                  refine T_p xr_159_303 xn_159 (pc' := 304) (ls' := [(2, .int (iI (pile + 1))), (6, .int (iI 1)), (5, .int (iI ((30 * wi) + (wS1 wi)))), (4, .int (iI 110)), (3, .int (iI at1)), (0, .ref 530), (1, .int (iI wi))]) (st' := [.int (iI 1), .int (iI (wS1 wi)), .int (iI wi), .ref 542]) rfl ?_
                  refine T_ziadd xr_159_304 (z := (wS1 wi) + 1) rfl (pc' := 305) rfl ?_
                  refine T_ziast xr_159_305 h2636 (pc' := 306) rfl (fun S2637 h2638 n2639 e2640 => ?_)
                  refine T_p xr_159_306 xn_159 (pc' := 9) (ls' := [(2, .int (iI (pile + 1))), (6, .int (iI 1)), (5, .int (iI ((30 * wi) + (wS1 wi)))), (4, .int (iI 110)), (3, .int (iI at1)), (0, .ref 530), (1, .int (iI wi))]) (st' := []) rfl ?_
                  have h2641 := (n2639 530 (by decide)).trans (h2612)
                  have h2642 := (n2639 543 (by decide)).trans ((hf2611.1 543 (by first | decide | omega)).trans ((n2595 543 (by decide)).trans (h2588)))
                  have h2643 := (n2639 544 (by decide)).trans ((hf2611.1 544 (by first | decide | omega)).trans (h2594))
                  have h52644 : (X_aS d1 4 (X_vl ct c1)) 5 0 = d1 5 0 + 1 := rfl
                  have hv0 := hT1.2.2.2.2.2 (by omega)
                  have hv1 := X_vl_n hv0.1 hv0.2.2.2
                  have hs2645 : sp_step n so ct c1 d1 pile = some (X_av n c1, X_aS d1 4 (X_vl ct c1), pile + 1) := by
                    exact sp_step_n (by omega) (by omega)
                  refine T_sub (ls := [(2, .int (iI (pile + 1))), (0, .ref 530), (1, .int (iI wi))]) ⟨rfl, rfl, rfl, trivial⟩ rfl rfl ?_
                  exact ih2184 S2637 (o 5) g1 at2602 en2603 tk2604 nu2605 dg2606 nm2607 (X_av n c1) (X_aS d1 4 (X_vl ct c1)) (pile + 1) (X_ug wS1 wi ((wS1 wi) + 1)) (X_ug sO1 ((30 * wi) + (wS1 wi)) 110) (X_ug sN1 ((30 * wi) + (wS1 wi)) nu1) h2641 h2638 h2642 h2643 (hF2187.tr (((((X_Fr.rf).tr (X_Fr.of n2589 e2590 (by first | decide | exact ⟨Nat.le_add_right _ _, Nat.add_le_add_left (by decide) _⟩ | omega))).tr (X_Fr.of n2595 e2596 (by first | decide | exact ⟨Nat.le_add_right _ _, Nat.add_le_add_left (by decide) _⟩ | omega))).tr (X_Fr.mono ⟨hf2611.1, hf2611.2⟩ (fun q hq => by first | exact hq | (rcases hq with rfl <;> decide) | (rcases hq with rfl | rfl <;> decide) | (rcases hq with rfl | rfl | rfl <;> decide) | (rcases hq with rfl | rfl | rfl | rfl <;> decide) | (rcases hq with rfl | rfl | rfl | rfl | rfl <;> decide) | (rcases hq with rfl | rfl | rfl | rfl | rfl | rfl <;> decide) | (rcases hq with rfl | rfl | rfl | rfl | rfl | rfl | rfl <;> decide) | omega))).tr (X_Fr.of n2639 e2640 (by first | decide | exact ⟨Nat.le_add_right _ _, Nat.add_le_add_left (by decide) _⟩ | omega)))) (by omega) (by omega) (fun _ => ⟨hp2609, R_s_S (s := 4) (v := X_vl ct c1) (by omega) ⟨fun _ => by omega, fun z => by omega⟩ hS1 (by omega) (by omega) (by first | rfl | (unfold X_op; rw [if_neg (by omega)])) ⟨X_ug_s _ _ _, fun i hi => X_ug_n _ _ hi⟩, (by
                        rw [← hR, show (30 - d1 5 0).toNat = (30 - (d1 5 0 + 1)).toNat + 1 by omega]
                        show _ = (if so c1 = 59 then _ else _)
                        rw [if_neg (by assumption), hs2645]
                        rfl), (by omega), (by show 0 ≤ d1 5 0 + 1 ∧ d1 5 0 + 1 ≤ 30; omega), hd4⟩) (fun z => absurd h5 z) (hob1.up (by omega)) (hob2.up (by omega)) (hob3.up (by omega)) (by omega)
              · skip
                have c2586 : ¬ ((o 5) = 0) := c2586
                exact (show False by first | contradiction | omega).elim
            · skip
              have c2580 : ¬ (¬ (wS1 wi) = 30) := c2580
              refine T_p xr_159_103 xn_159 (pc' := 104) (ls' := [(4, .int (iI 110)), (3, .int (iI at1)), (2, .int (iI pile)), (0, .ref 530), (1, .int (iI wi))]) (st' := [.ref 530]) rfl ?_
              refine T_cv (S := S2191) (q := 530) xr_159_104 xf_147.1 xf_147.2.1 xn_147 (as := []) (r := []) rfl hM2204 (Nat.le_of_ble_eq_true rfl) (Nat.le_of_ble_eq_true rfl) (pc' := 107) rfl (ls' := [(0, .ref 530)]) rfl ?_
              refine T_mono (r_wrong sc S2191 (X_ou (X_ou (X_ou (X_ou (X_ou (X_ou o 6 g1) 7 at1) 8 en1) 9 tk1) 10 nu1) 11 dg1) nm1 tx tb len n so pl ct E c1 hM2204 h2205 (show (o 3) = len from by first | assumption | omega) hl htx hX hT1 (show 0 ≤ (o 5) ∧ (o 5) ≤ 5 from by omega)) (fun v2646 S2647 h2648 => ?_)
              rcases h2648 with ⟨f2649, g2650, hv2651, hp2652, hM2653, hf2654⟩
              rw [hv2651]
              have h2655 : S2647.1 530 = .inr (11, [.ref 531, .int (iI (o 1)), .ref 532, .int (iI (o 3)), .int (iI (o 4)), .int (iI f2649), .int (iI g2650), .int (iI at1), .int (iI en1), .int (iI tk1), .int (iI nu1), .int (iI dg1), .long nm1, .ref 533, .ref 534, .ref 535, .ref 536, .ref 537, .ref 538, .ref 539, .ref 540, .ref 541, .ref 542, .ref 543, .ref 544, .ref 545, .ref 546, .ref 547, .int (iI (o 28)), .int (iI (o 29)), .int (iI (o 30)), .int (iI (o 31)), .int (iI (o 32)), .int (iI (o 33)), .ref 548, .ref 549, .ref 550, .ref 551, .int (iI (o 38)), .ref 552, .ref 553, .ref 554, .ref 555, .ref 556, .ref 557, .ref 558, .ref 559, .ref 560, .ref 561, .int (iI (o 49)), .ref 562, .ref 563, .ref 564, .ref 565, .ref 566, .ref 567, .ref 568, .ref 569, .int (iI (o 58)), .ref 570, .ref 571, .ref 572, .ref 573, .ref 574, .ref 575, .ref 576, .ref 577, .ref 578, .int (iI (o 68)), .int (iI (o 69)), .int (iI (o 70)), .ref 579]) := hM2653
              show X_T sc 159 (107, [(4, .int (iI 110)), (3, .int (iI at1)), (2, .int (iI pile)), (0, .ref 530), (1, .int (iI wi))], [], S2647) _
              refine T_p xr_159_107 xn_159 (pc' := 108) (ls' := [(4, .int (iI 110)), (3, .int (iI at1)), (2, .int (iI pile)), (0, .ref 530), (1, .int (iI wi))]) (st' := [.ref 530]) rfl ?_
              refine T_cv (S := S2647) (q := 530) xr_159_108 xf_140.1 xf_140.2.1 xn_140 (as := []) (r := []) rfl h2655 (Nat.le_of_ble_eq_true rfl) (Nat.le_of_ble_eq_true rfl) (pc' := 111) rfl (ls' := [(0, .ref 530)]) rfl ?_
              refine T_mono (r_isGood sc S2647 (X_ou (X_ou (X_ou (X_ou (X_ou (X_ou (X_ou o 5 f2649) 6 g2650) 7 at1) 8 en1) 9 tk1) 10 nu1) 11 dg1) nm1 h2655 (show 0 ≤ f2649 ∧ f2649 ≤ 5 from by omega)) (fun v2656 S2657 h2658 => ?_)
              rcases h2658 with ⟨hv2659, hf2660⟩
              rw [hv2659]
              rw [hf2660]
              show X_T sc 159 (111, [(4, .int (iI 110)), (3, .int (iI at1)), (2, .int (iI pile)), (0, .ref 530), (1, .int (iI wi))], [.int (iI (bI (f2649 = 0)))], S2647) _
              refine T_bif_ne xr_159_111 (t := 115) (pc' := 114) rfl rfl (fun c2661 => ?_) (fun c2661 => ?_)
              · skip
                have c2661 : (f2649 = 0) := c2661
                exact (show False by first | contradiction | omega).elim
              · skip
                have c2661 : ¬ (f2649 = 0) := c2661
                refine T_vret xr_159_114 xf_159.2.2 ?_
                refine hQ _ _ ?_
                have h2662 := (hf2654.1 542 (by first | decide | omega)).trans (hA1)
                have h2663 := (hf2654.1 543 (by first | decide | omega)).trans (hA2)
                have h2664 := (hf2654.1 544 (by first | decide | omega)).trans (hA3)
                refine Or.inr ⟨at1, en1, tk1, nu1, dg1, nm1, f2649, g2650, wS1, sO1, sN1, rfl, by omega, ?_, by first | exact hob1 | exact hob1.up (by omega) | exact (hob1.up (by omega)).up (by omega), by first | exact hob2 | exact hob2.up (by omega) | exact (hob2.up (by omega)).up (by omega), by first | exact hob3 | exact hob3.up (by omega) | exact (hob3.up (by omega)).up (by omega), h2655, h2662, h2663, h2664, (((X_Fr.rf).tr (X_Fr.of n2181 e2182 (by first | decide | exact ⟨Nat.le_add_right _ _, Nat.add_le_add_left (by decide) _⟩ | omega))).tr (X_Fr.mono ⟨hF2187.1, hF2187.2⟩ (fun q hq => by first | exact hq | (rcases hq with rfl <;> decide) | (rcases hq with rfl | rfl <;> decide) | (rcases hq with rfl | rfl | rfl <;> decide) | (rcases hq with rfl | rfl | rfl | rfl <;> decide) | (rcases hq with rfl | rfl | rfl | rfl | rfl <;> decide) | (rcases hq with rfl | rfl | rfl | rfl | rfl | rfl <;> decide) | (rcases hq with rfl | rfl | rfl | rfl | rfl | rfl | rfl <;> decide) | omega))).tr (X_Fr.mono ⟨hf2654.1, hf2654.2⟩ (fun q hq => by first | exact hq | (rcases hq with rfl <;> decide) | (rcases hq with rfl | rfl <;> decide) | (rcases hq with rfl | rfl | rfl <;> decide) | (rcases hq with rfl | rfl | rfl | rfl <;> decide) | (rcases hq with rfl | rfl | rfl | rfl | rfl <;> decide) | (rcases hq with rfl | rfl | rfl | rfl | rfl | rfl <;> decide) | (rcases hq with rfl | rfl | rfl | rfl | rfl | rfl | rfl <;> decide) | omega))⟩
                by_cases h30 : d1 5 0 = 30
                · right
                  refine ⟨c1, d1, pile, ?_, Or.inl (by assumption)⟩
                  rw [← hR, show (30 - d1 5 0).toNat = 0 by omega]
                  rfl
                · left
                  have hs : sp_step n so ct c1 d1 pile = none := by
                    exact sp_step_nf (by omega) (by omega)
                  rw [← hR, show (30 - d1 5 0).toNat = (30 - (d1 5 0 + 1)).toNat + 1 by omega]
                  show (if so c1 = 59 then _ else _) = none
                  rw [if_neg (by assumption), hs]
                  rfl
  have hz5 : X_wu d 5 (fun _ => 0) 5 0 = 0 := rfl
  exact L2183 ((32 : Int) + 1).toNat S2179 (o 5) (o 6) (o 7) (o 8) (o 9) (o 10) (o 11) nm c (X_wu d 5 (fun _ => 0)) 0 (X_ug wS wi 0) sO sN h2188 h2180 h2189 h2190 ((X_Fr.rf)) (by omega) (by omega) (fun _ => ⟨hT, ⟨X_ug_s _ _ _, fun k g1 g2 => absurd (show k < 0 from g2) (by omega)⟩, rfl, by omega, by show (0 : Int) ≤ 0 ∧ (0 : Int) ≤ 30; omega, rfl⟩) (fun z => absurd h5 z) (R_ob.rf.up (by omega)) R_ob.rf R_ob.rf (by omega)
