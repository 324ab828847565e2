section
theorem xr_163_0 : X_row 163 0 = some (0, (.iload_n 1, 1), (0, 0, 0)) := by decide +kernel
theorem xr_163_1 : X_row 163 1 = some (1, (.ifCond .ne 10, 3), (0, 0, 0)) := by decide +kernel
theorem xr_163_4 : X_row 163 4 = some (4, (.aload_n 0, 1), (0, 0, 0)) := by decide +kernel
theorem xr_163_5 : X_row 163 5 = some (5, (.getfield 11, 3), (11, 5, 10)) := by decide +kernel
theorem xr_163_8 : X_row 163 8 = some (8, (.goto 16, 3), (0, 0, 0)) := by decide +kernel
theorem xr_163_11 : X_row 163 11 = some (11, (.iload_n 1, 1), (0, 0, 0)) := by decide +kernel
theorem xr_163_12 : X_row 163 12 = some (12, (.iconst 1, 1), (0, 0, 0)) := by decide +kernel
theorem xr_163_13 : X_row 163 13 = some (13, (.if_icmp .ne 10, 3), (0, 0, 0)) := by decide +kernel
theorem xr_163_16 : X_row 163 16 = some (16, (.aload_n 0, 1), (0, 0, 0)) := by decide +kernel
theorem xr_163_17 : X_row 163 17 = some (17, (.getfield 14, 3), (11, 6, 12)) := by decide +kernel
theorem xr_163_20 : X_row 163 20 = some (20, (.goto 4, 3), (0, 0, 0)) := by decide +kernel
theorem xr_163_23 : X_row 163 23 = some (23, (.iconst (-1), 1), (0, 0, 0)) := by decide +kernel
theorem xr_163_24 : X_row 163 24 = some (24, (.ireturn, 1), (0, 0, 0)) := by decide +kernel
theorem xr_164_0 : X_row 164 0 = some (0, (.iload_n 1, 1), (0, 0, 0)) := by decide +kernel
theorem xr_164_1 : X_row 164 1 = some (1, (.tableswitch 69 0 5 #[39, 44, 49, 54, 59, 64], 39), (0, 0, 0)) := by decide +kernel
theorem xr_164_40 : X_row 164 40 = some (40, (.aload_n 0, 1), (0, 0, 0)) := by decide +kernel
theorem xr_164_41 : X_row 164 41 = some (41, (.getfield 84, 3), (11, 28, 56)) := by decide +kernel
theorem xr_164_44 : X_row 164 44 = some (44, (.ireturn, 1), (0, 0, 0)) := by decide +kernel
theorem xr_164_45 : X_row 164 45 = some (45, (.aload_n 0, 1), (0, 0, 0)) := by decide +kernel
theorem xr_164_46 : X_row 164 46 = some (46, (.getfield 94, 3), (11, 29, 58)) := by decide +kernel
theorem xr_164_49 : X_row 164 49 = some (49, (.ireturn, 1), (0, 0, 0)) := by decide +kernel
theorem xr_164_50 : X_row 164 50 = some (50, (.aload_n 0, 1), (0, 0, 0)) := by decide +kernel
theorem xr_164_51 : X_row 164 51 = some (51, (.getfield 138, 3), (11, 30, 60)) := by decide +kernel
theorem xr_164_54 : X_row 164 54 = some (54, (.ireturn, 1), (0, 0, 0)) := by decide +kernel
theorem xr_164_55 : X_row 164 55 = some (55, (.aload_n 0, 1), (0, 0, 0)) := by decide +kernel
theorem xr_164_56 : X_row 164 56 = some (56, (.getfield 314, 3), (11, 38, 76)) := by decide +kernel
theorem xr_164_59 : X_row 164 59 = some (59, (.ireturn, 1), (0, 0, 0)) := by decide +kernel
theorem xr_164_60 : X_row 164 60 = some (60, (.aload_n 0, 1), (0, 0, 0)) := by decide +kernel
theorem xr_164_61 : X_row 164 61 = some (61, (.getfield 317, 3), (11, 49, 98)) := by decide +kernel
theorem xr_164_64 : X_row 164 64 = some (64, (.ireturn, 1), (0, 0, 0)) := by decide +kernel
theorem xr_164_65 : X_row 164 65 = some (65, (.aload_n 0, 1), (0, 0, 0)) := by decide +kernel
theorem xr_164_66 : X_row 164 66 = some (66, (.getfield 293, 3), (11, 1, 2)) := by decide +kernel
theorem xr_164_69 : X_row 164 69 = some (69, (.ireturn, 1), (0, 0, 0)) := by decide +kernel
theorem xr_164_70 : X_row 164 70 = some (70, (.iconst (-1), 1), (0, 0, 0)) := by decide +kernel
theorem xr_164_71 : X_row 164 71 = some (71, (.ireturn, 1), (0, 0, 0)) := by decide +kernel
theorem xr_165_0 : X_row 165 0 = some (0, (.iload_n 1, 1), (0, 0, 0)) := by decide +kernel
theorem xr_165_1 : X_row 165 1 = some (1, (.ifCond .lt 15, 3), (0, 0, 0)) := by decide +kernel
theorem xr_165_4 : X_row 165 4 = some (4, (.iload_n 1, 1), (0, 0, 0)) := by decide +kernel
theorem xr_165_5 : X_row 165 5 = some (5, (.aload_n 0, 1), (0, 0, 0)) := by decide +kernel
theorem xr_165_6 : X_row 165 6 = some (6, (.getfield 138, 3), (11, 30, 60)) := by decide +kernel
theorem xr_165_9 : X_row 165 9 = some (9, (.if_icmp .ge 7, 3), (0, 0, 0)) := by decide +kernel
theorem xr_165_12 : X_row 165 12 = some (12, (.iconst 1, 1), (0, 0, 0)) := by decide +kernel
theorem xr_165_13 : X_row 165 13 = some (13, (.goto 4, 3), (0, 0, 0)) := by decide +kernel
theorem xr_165_16 : X_row 165 16 = some (16, (.iconst 0, 1), (0, 0, 0)) := by decide +kernel
theorem xr_165_17 : X_row 165 17 = some (17, (.ireturn, 1), (0, 0, 0)) := by decide +kernel
theorem xr_166_0 : X_row 166 0 = some (0, (.aload_n 0, 1), (0, 0, 0)) := by decide +kernel
theorem xr_166_1 : X_row 166 1 = some (1, (.iload_n 1, 1), (0, 0, 0)) := by decide +kernel
theorem xr_166_2 : X_row 166 2 = some (2, (.invokevirtual 324, 3), (165, 50, 0)) := by decide +kernel
theorem xr_166_5 : X_row 166 5 = some (5, (.ifCond .ne 5, 3), (0, 0, 0)) := by decide +kernel
theorem xr_166_8 : X_row 166 8 = some (8, (.iconst (-1), 1), (0, 0, 0)) := by decide +kernel
theorem xr_166_9 : X_row 166 9 = some (9, (.ireturn, 1), (0, 0, 0)) := by decide +kernel
theorem xr_166_10 : X_row 166 10 = some (10, (.bipush 30, 2), (0, 0, 0)) := by decide +kernel
theorem xr_166_12 : X_row 166 12 = some (12, (.aload_n 0, 1), (0, 0, 0)) := by decide +kernel
theorem xr_166_13 : X_row 166 13 = some (13, (.getfield 91, 3), (11, 4, 8)) := by decide +kernel
theorem xr_166_16 : X_row 166 16 = some (16, (.imul, 1), (0, 0, 0)) := by decide +kernel
theorem xr_166_17 : X_row 166 17 = some (17, (.iload_n 1, 1), (0, 0, 0)) := by decide +kernel
theorem xr_166_18 : X_row 166 18 = some (18, (.iadd, 1), (0, 0, 0)) := by decide +kernel
theorem xr_166_19 : X_row 166 19 = some (19, (.istore_n 3, 1), (0, 0, 0)) := by decide +kernel
theorem xr_166_20 : X_row 166 20 = some (20, (.iload_n 2, 1), (0, 0, 0)) := by decide +kernel
theorem xr_166_21 : X_row 166 21 = some (21, (.tableswitch 91 0 6 #[43, 50, 57, 64, 71, 78, 84], 43), (0, 0, 0)) := by decide +kernel
theorem xr_166_64 : X_row 166 64 = some (64, (.aload_n 0, 1), (0, 0, 0)) := by decide +kernel
theorem xr_166_65 : X_row 166 65 = some (65, (.getfield 141, 3), (11, 17, 34)) := by decide +kernel
theorem xr_166_68 : X_row 166 68 = some (68, (.iload_n 3, 1), (0, 0, 0)) := by decide +kernel
theorem xr_166_69 : X_row 166 69 = some (69, (.iaload, 1), (0, 0, 0)) := by decide +kernel
theorem xr_166_70 : X_row 166 70 = some (70, (.ireturn, 1), (0, 0, 0)) := by decide +kernel
theorem xr_166_71 : X_row 166 71 = some (71, (.aload_n 0, 1), (0, 0, 0)) := by decide +kernel
theorem xr_166_72 : X_row 166 72 = some (72, (.getfield 144, 3), (11, 18, 36)) := by decide +kernel
theorem xr_166_75 : X_row 166 75 = some (75, (.iload_n 3, 1), (0, 0, 0)) := by decide +kernel
theorem xr_166_76 : X_row 166 76 = some (76, (.iaload, 1), (0, 0, 0)) := by decide +kernel
theorem xr_166_77 : X_row 166 77 = some (77, (.ireturn, 1), (0, 0, 0)) := by decide +kernel
theorem xr_166_78 : X_row 166 78 = some (78, (.aload_n 0, 1), (0, 0, 0)) := by decide +kernel
theorem xr_166_79 : X_row 166 79 = some (79, (.getfield 147, 3), (11, 19, 38)) := by decide +kernel
theorem xr_166_82 : X_row 166 82 = some (82, (.iload_n 3, 1), (0, 0, 0)) := by decide +kernel
theorem xr_166_83 : X_row 166 83 = some (83, (.iaload, 1), (0, 0, 0)) := by decide +kernel
theorem xr_166_84 : X_row 166 84 = some (84, (.ireturn, 1), (0, 0, 0)) := by decide +kernel
theorem xr_166_85 : X_row 166 85 = some (85, (.aload_n 0, 1), (0, 0, 0)) := by decide +kernel
theorem xr_166_86 : X_row 166 86 = some (86, (.getfield 150, 3), (11, 20, 40)) := by decide +kernel
theorem xr_166_89 : X_row 166 89 = some (89, (.iload_n 3, 1), (0, 0, 0)) := by decide +kernel
theorem xr_166_90 : X_row 166 90 = some (90, (.iaload, 1), (0, 0, 0)) := by decide +kernel
theorem xr_166_91 : X_row 166 91 = some (91, (.ireturn, 1), (0, 0, 0)) := by decide +kernel
theorem xr_166_92 : X_row 166 92 = some (92, (.aload_n 0, 1), (0, 0, 0)) := by decide +kernel
theorem xr_166_93 : X_row 166 93 = some (93, (.getfield 153, 3), (11, 21, 42)) := by decide +kernel
theorem xr_166_96 : X_row 166 96 = some (96, (.iload_n 3, 1), (0, 0, 0)) := by decide +kernel
theorem xr_166_97 : X_row 166 97 = some (97, (.iaload, 1), (0, 0, 0)) := by decide +kernel
theorem xr_166_98 : X_row 166 98 = some (98, (.ireturn, 1), (0, 0, 0)) := by decide +kernel
theorem xr_166_99 : X_row 166 99 = some (99, (.aload_n 0, 1), (0, 0, 0)) := by decide +kernel
theorem xr_166_100 : X_row 166 100 = some (100, (.iload_n 3, 1), (0, 0, 0)) := by decide +kernel
theorem xr_166_101 : X_row 166 101 = some (101, (.invokevirtual 162, 3), (160, 46, 0)) := by decide +kernel
theorem xr_166_104 : X_row 166 104 = some (104, (.ireturn, 1), (0, 0, 0)) := by decide +kernel
theorem xr_166_105 : X_row 166 105 = some (105, (.aload_n 0, 1), (0, 0, 0)) := by decide +kernel
theorem xr_166_106 : X_row 166 106 = some (106, (.getfield 156, 3), (11, 22, 44)) := by decide +kernel
theorem xr_166_109 : X_row 166 109 = some (109, (.iload_n 3, 1), (0, 0, 0)) := by decide +kernel
theorem xr_166_110 : X_row 166 110 = some (110, (.iaload, 1), (0, 0, 0)) := by decide +kernel
theorem xr_166_111 : X_row 166 111 = some (111, (.ireturn, 1), (0, 0, 0)) := by decide +kernel
theorem xr_166_112 : X_row 166 112 = some (112, (.iconst (-1), 1), (0, 0, 0)) := by decide +kernel
theorem xr_166_113 : X_row 166 113 = some (113, (.ireturn, 1), (0, 0, 0)) := by decide +kernel
theorem xr_167_0 : X_row 167 0 = some (0, (.iload_n 1, 1), (0, 0, 0)) := by decide +kernel
theorem xr_167_1 : X_row 167 1 = some (1, (.ifCond .lt 23, 3), (0, 0, 0)) := by decide +kernel
theorem xr_167_4 : X_row 167 4 = some (4, (.iload_n 1, 1), (0, 0, 0)) := by decide +kernel
theorem xr_167_5 : X_row 167 5 = some (5, (.aload_n 0, 1), (0, 0, 0)) := by decide +kernel
theorem xr_167_6 : X_row 167 6 = some (6, (.getfield 84, 3), (11, 28, 56)) := by decide +kernel
theorem xr_167_9 : X_row 167 9 = some (9, (.if_icmp .ge 15, 3), (0, 0, 0)) := by decide +kernel
theorem xr_167_12 : X_row 167 12 = some (12, (.iload_n 2, 1), (0, 0, 0)) := by decide +kernel
theorem xr_167_13 : X_row 167 13 = some (13, (.ifCond .lt 11, 3), (0, 0, 0)) := by decide +kernel
theorem xr_167_16 : X_row 167 16 = some (16, (.iload_n 2, 1), (0, 0, 0)) := by decide +kernel
theorem xr_167_17 : X_row 167 17 = some (17, (.aload_n 0, 1), (0, 0, 0)) := by decide +kernel
theorem xr_167_18 : X_row 167 18 = some (18, (.getfield 84, 3), (11, 28, 56)) := by decide +kernel
theorem xr_167_21 : X_row 167 21 = some (21, (.if_icmp .lt 7, 3), (0, 0, 0)) := by decide +kernel
theorem xr_167_24 : X_row 167 24 = some (24, (.iconst (-1), 1), (0, 0, 0)) := by decide +kernel
theorem xr_167_25 : X_row 167 25 = some (25, (.goto 17, 3), (0, 0, 0)) := by decide +kernel
theorem xr_167_28 : X_row 167 28 = some (28, (.aload_n 0, 1), (0, 0, 0)) := by decide +kernel
theorem xr_167_29 : X_row 167 29 = some (29, (.iload_n 1, 1), (0, 0, 0)) := by decide +kernel
theorem xr_167_30 : X_row 167 30 = some (30, (.iload_n 2, 1), (0, 0, 0)) := by decide +kernel
theorem xr_167_31 : X_row 167 31 = some (31, (.invokevirtual 123, 3), (154, 32, 0)) := by decide +kernel
theorem xr_167_34 : X_row 167 34 = some (34, (.ifCond .eq 7, 3), (0, 0, 0)) := by decide +kernel
theorem xr_167_37 : X_row 167 37 = some (37, (.iconst 1, 1), (0, 0, 0)) := by decide +kernel
theorem xr_167_38 : X_row 167 38 = some (38, (.goto 4, 3), (0, 0, 0)) := by decide +kernel
theorem xr_167_41 : X_row 167 41 = some (41, (.iconst 0, 1), (0, 0, 0)) := by decide +kernel
theorem xr_167_42 : X_row 167 42 = some (42, (.ireturn, 1), (0, 0, 0)) := by decide +kernel
theorem xr_169_0 : X_row 169 0 = some (0, (.iload_n 1, 1), (0, 0, 0)) := by decide +kernel
theorem xr_169_1 : X_row 169 1 = some (1, (.ifCond .lt 23, 3), (0, 0, 0)) := by decide +kernel
theorem xr_169_4 : X_row 169 4 = some (4, (.iload_n 1, 1), (0, 0, 0)) := by decide +kernel
theorem xr_169_5 : X_row 169 5 = some (5, (.aload_n 0, 1), (0, 0, 0)) := by decide +kernel
theorem xr_169_6 : X_row 169 6 = some (6, (.getfield 94, 3), (11, 29, 58)) := by decide +kernel
theorem xr_169_9 : X_row 169 9 = some (9, (.if_icmp .ge 15, 3), (0, 0, 0)) := by decide +kernel
theorem xr_169_12 : X_row 169 12 = some (12, (.iload_n 2, 1), (0, 0, 0)) := by decide +kernel
theorem xr_169_13 : X_row 169 13 = some (13, (.ifCond .lt 11, 3), (0, 0, 0)) := by decide +kernel
theorem xr_169_16 : X_row 169 16 = some (16, (.iload_n 2, 1), (0, 0, 0)) := by decide +kernel
theorem xr_169_17 : X_row 169 17 = some (17, (.aload_n 0, 1), (0, 0, 0)) := by decide +kernel
theorem xr_169_18 : X_row 169 18 = some (18, (.getfield 94, 3), (11, 29, 58)) := by decide +kernel
theorem xr_169_21 : X_row 169 21 = some (21, (.if_icmp .lt 7, 3), (0, 0, 0)) := by decide +kernel
theorem xr_169_24 : X_row 169 24 = some (24, (.iconst (-1), 1), (0, 0, 0)) := by decide +kernel
theorem xr_169_25 : X_row 169 25 = some (25, (.goto 17, 3), (0, 0, 0)) := by decide +kernel
theorem xr_169_28 : X_row 169 28 = some (28, (.aload_n 0, 1), (0, 0, 0)) := by decide +kernel
theorem xr_169_29 : X_row 169 29 = some (29, (.iload_n 1, 1), (0, 0, 0)) := by decide +kernel
theorem xr_169_30 : X_row 169 30 = some (30, (.iload_n 2, 1), (0, 0, 0)) := by decide +kernel
theorem xr_169_31 : X_row 169 31 = some (31, (.invokevirtual 327, 3), (168, 52, 0)) := by decide +kernel
theorem xr_169_34 : X_row 169 34 = some (34, (.ifCond .eq 7, 3), (0, 0, 0)) := by decide +kernel
theorem xr_169_37 : X_row 169 37 = some (37, (.iconst 1, 1), (0, 0, 0)) := by decide +kernel
theorem xr_169_38 : X_row 169 38 = some (38, (.goto 4, 3), (0, 0, 0)) := by decide +kernel
theorem xr_169_41 : X_row 169 41 = some (41, (.iconst 0, 1), (0, 0, 0)) := by decide +kernel
theorem xr_169_42 : X_row 169 42 = some (42, (.ireturn, 1), (0, 0, 0)) := by decide +kernel
theorem xr_190_0 : X_row 190 0 = some (0, (.iload_n 1, 1), (0, 0, 0)) := by decide +kernel
theorem xr_190_1 : X_row 190 1 = some (1, (.ifCond .lt 11, 3), (0, 0, 0)) := by decide +kernel
theorem xr_190_4 : X_row 190 4 = some (4, (.iload_n 1, 1), (0, 0, 0)) := by decide +kernel
theorem xr_190_5 : X_row 190 5 = some (5, (.aload_n 0, 1), (0, 0, 0)) := by decide +kernel
theorem xr_190_6 : X_row 190 6 = some (6, (.getfield 317, 3), (11, 49, 98)) := by decide +kernel
theorem xr_190_9 : X_row 190 9 = some (9, (.if_icmp .lt 5, 3), (0, 0, 0)) := by decide +kernel
theorem xr_190_12 : X_row 190 12 = some (12, (.iconst (-1), 1), (0, 0, 0)) := by decide +kernel
theorem xr_190_13 : X_row 190 13 = some (13, (.ireturn, 1), (0, 0, 0)) := by decide +kernel
theorem xr_190_14 : X_row 190 14 = some (14, (.iload_n 2, 1), (0, 0, 0)) := by decide +kernel
theorem xr_190_15 : X_row 190 15 = some (15, (.tableswitch 81 0 4 #[33, 40, 47, 54, 61], 33), (0, 0, 0)) := by decide +kernel
theorem xr_190_48 : X_row 190 48 = some (48, (.aload_n 0, 1), (0, 0, 0)) := by decide +kernel
theorem xr_190_49 : X_row 190 49 = some (49, (.getfield 222, 3), (11, 44, 88)) := by decide +kernel
theorem xr_190_52 : X_row 190 52 = some (52, (.iload_n 1, 1), (0, 0, 0)) := by decide +kernel
theorem xr_190_53 : X_row 190 53 = some (53, (.iaload, 1), (0, 0, 0)) := by decide +kernel
theorem xr_190_54 : X_row 190 54 = some (54, (.ireturn, 1), (0, 0, 0)) := by decide +kernel
theorem xr_190_55 : X_row 190 55 = some (55, (.aload_n 0, 1), (0, 0, 0)) := by decide +kernel
theorem xr_190_56 : X_row 190 56 = some (56, (.getfield 225, 3), (11, 45, 90)) := by decide +kernel
theorem xr_190_59 : X_row 190 59 = some (59, (.iload_n 1, 1), (0, 0, 0)) := by decide +kernel
theorem xr_190_60 : X_row 190 60 = some (60, (.iaload, 1), (0, 0, 0)) := by decide +kernel
theorem xr_190_61 : X_row 190 61 = some (61, (.ireturn, 1), (0, 0, 0)) := by decide +kernel
theorem xr_190_62 : X_row 190 62 = some (62, (.aload_n 0, 1), (0, 0, 0)) := by decide +kernel
theorem xr_190_63 : X_row 190 63 = some (63, (.getfield 228, 3), (11, 46, 92)) := by decide +kernel
theorem xr_190_66 : X_row 190 66 = some (66, (.iload_n 1, 1), (0, 0, 0)) := by decide +kernel
theorem xr_190_67 : X_row 190 67 = some (67, (.iaload, 1), (0, 0, 0)) := by decide +kernel
theorem xr_190_68 : X_row 190 68 = some (68, (.ireturn, 1), (0, 0, 0)) := by decide +kernel
theorem xr_190_69 : X_row 190 69 = some (69, (.aload_n 0, 1), (0, 0, 0)) := by decide +kernel
theorem xr_190_70 : X_row 190 70 = some (70, (.getfield 231, 3), (11, 47, 94)) := by decide +kernel
theorem xr_190_73 : X_row 190 73 = some (73, (.iload_n 1, 1), (0, 0, 0)) := by decide +kernel
theorem xr_190_74 : X_row 190 74 = some (74, (.iaload, 1), (0, 0, 0)) := by decide +kernel
theorem xr_190_75 : X_row 190 75 = some (75, (.ireturn, 1), (0, 0, 0)) := by decide +kernel
theorem xr_190_76 : X_row 190 76 = some (76, (.aload_n 0, 1), (0, 0, 0)) := by decide +kernel
theorem xr_190_77 : X_row 190 77 = some (77, (.getfield 231, 3), (11, 47, 94)) := by decide +kernel
theorem xr_190_80 : X_row 190 80 = some (80, (.iload_n 1, 1), (0, 0, 0)) := by decide +kernel
theorem xr_190_81 : X_row 190 81 = some (81, (.iaload, 1), (0, 0, 0)) := by decide +kernel
theorem xr_190_82 : X_row 190 82 = some (82, (.ifCond .ge 7, 3), (0, 0, 0)) := by decide +kernel
theorem xr_190_85 : X_row 190 85 = some (85, (.iconst (-1), 1), (0, 0, 0)) := by decide +kernel
theorem xr_190_86 : X_row 190 86 = some (86, (.goto 9, 3), (0, 0, 0)) := by decide +kernel
theorem xr_190_89 : X_row 190 89 = some (89, (.aload_n 0, 1), (0, 0, 0)) := by decide +kernel
theorem xr_190_90 : X_row 190 90 = some (90, (.getfield 234, 3), (11, 48, 96)) := by decide +kernel
theorem xr_190_93 : X_row 190 93 = some (93, (.iload_n 1, 1), (0, 0, 0)) := by decide +kernel
theorem xr_190_94 : X_row 190 94 = some (94, (.iaload, 1), (0, 0, 0)) := by decide +kernel
theorem xr_190_95 : X_row 190 95 = some (95, (.ireturn, 1), (0, 0, 0)) := by decide +kernel
theorem xr_190_96 : X_row 190 96 = some (96, (.iconst (-1), 1), (0, 0, 0)) := by decide +kernel
theorem xr_190_97 : X_row 190 97 = some (97, (.ireturn, 1), (0, 0, 0)) := by decide +kernel
theorem xr_191_0 : X_row 191 0 = some (0, (.aload_n 0, 1), (0, 0, 0)) := by decide +kernel
theorem xr_191_1 : X_row 191 1 = some (1, (.iload_n 1, 1), (0, 0, 0)) := by decide +kernel
theorem xr_191_2 : X_row 191 2 = some (2, (.invokevirtual 324, 3), (165, 50, 0)) := by decide +kernel
theorem xr_191_5 : X_row 191 5 = some (5, (.ifCond .eq 37, 3), (0, 0, 0)) := by decide +kernel
theorem xr_191_8 : X_row 191 8 = some (8, (.aload_n 0, 1), (0, 0, 0)) := by decide +kernel
theorem xr_191_9 : X_row 191 9 = some (9, (.getfield 156, 3), (11, 22, 44)) := by decide +kernel
theorem xr_191_12 : X_row 191 12 = some (12, (.bipush 30, 2), (0, 0, 0)) := by decide +kernel
theorem xr_191_14 : X_row 191 14 = some (14, (.aload_n 0, 1), (0, 0, 0)) := by decide +kernel
theorem xr_191_15 : X_row 191 15 = some (15, (.getfield 91, 3), (11, 4, 8)) := by decide +kernel
theorem xr_191_18 : X_row 191 18 = some (18, (.imul, 1), (0, 0, 0)) := by decide +kernel
theorem xr_191_19 : X_row 191 19 = some (19, (.iload_n 1, 1), (0, 0, 0)) := by decide +kernel
theorem xr_191_20 : X_row 191 20 = some (20, (.iadd, 1), (0, 0, 0)) := by decide +kernel
theorem xr_191_21 : X_row 191 21 = some (21, (.iaload, 1), (0, 0, 0)) := by decide +kernel
theorem xr_191_22 : X_row 191 22 = some (22, (.ifCond .ge 20, 3), (0, 0, 0)) := by decide +kernel
theorem xr_191_25 : X_row 191 25 = some (25, (.aload_n 0, 1), (0, 0, 0)) := by decide +kernel
theorem xr_191_26 : X_row 191 26 = some (26, (.getfield 153, 3), (11, 21, 42)) := by decide +kernel
theorem xr_191_29 : X_row 191 29 = some (29, (.bipush 30, 2), (0, 0, 0)) := by decide +kernel
theorem xr_191_31 : X_row 191 31 = some (31, (.aload_n 0, 1), (0, 0, 0)) := by decide +kernel
theorem xr_191_32 : X_row 191 32 = some (32, (.getfield 91, 3), (11, 4, 8)) := by decide +kernel
theorem xr_191_35 : X_row 191 35 = some (35, (.imul, 1), (0, 0, 0)) := by decide +kernel
theorem xr_191_36 : X_row 191 36 = some (36, (.iload_n 1, 1), (0, 0, 0)) := by decide +kernel
theorem xr_191_37 : X_row 191 37 = some (37, (.iadd, 1), (0, 0, 0)) := by decide +kernel
theorem xr_191_38 : X_row 191 38 = some (38, (.iaload, 1), (0, 0, 0)) := by decide +kernel
theorem xr_191_39 : X_row 191 39 = some (39, (.ifCond .le 5, 3), (0, 0, 0)) := by decide +kernel
theorem xr_191_42 : X_row 191 42 = some (42, (.iconst 0, 1), (0, 0, 0)) := by decide +kernel
theorem xr_191_43 : X_row 191 43 = some (43, (.ireturn, 1), (0, 0, 0)) := by decide +kernel
theorem xr_191_44 : X_row 191 44 = some (44, (.aload_n 0, 1), (0, 0, 0)) := by decide +kernel
theorem xr_191_45 : X_row 191 45 = some (45, (.getfield 273, 3), (11, 63, 126)) := by decide +kernel
theorem xr_191_48 : X_row 191 48 = some (48, (.iload_n 1, 1), (0, 0, 0)) := by decide +kernel
theorem xr_191_49 : X_row 191 49 = some (49, (.iconst 1, 1), (0, 0, 0)) := by decide +kernel
theorem xr_191_50 : X_row 191 50 = some (50, (.bastore, 1), (0, 0, 0)) := by decide +kernel
theorem xr_191_51 : X_row 191 51 = some (51, (.aload_n 0, 1), (0, 0, 0)) := by decide +kernel
theorem xr_191_52 : X_row 191 52 = some (52, (.getfield 276, 3), (11, 64, 128)) := by decide +kernel
theorem xr_191_55 : X_row 191 55 = some (55, (.iload_n 1, 1), (0, 0, 0)) := by decide +kernel
theorem xr_191_56 : X_row 191 56 = some (56, (.iload_n 2, 1), (0, 0, 0)) := by decide +kernel
theorem xr_191_57 : X_row 191 57 = some (57, (.iastore, 1), (0, 0, 0)) := by decide +kernel
theorem xr_191_58 : X_row 191 58 = some (58, (.iconst 1, 1), (0, 0, 0)) := by decide +kernel
theorem xr_191_59 : X_row 191 59 = some (59, (.ireturn, 1), (0, 0, 0)) := by decide +kernel
theorem xr_198_0 : X_row 198 0 = some (0, (.iload_n 1, 1), (0, 0, 0)) := by decide +kernel
theorem xr_198_1 : X_row 198 1 = some (1, (.ifCond .ne 21, 3), (0, 0, 0)) := by decide +kernel
theorem xr_198_4 : X_row 198 4 = some (4, (.aload_n 0, 1), (0, 0, 0)) := by decide +kernel
theorem xr_198_5 : X_row 198 5 = some (5, (.getfield 320, 3), (11, 68, 136)) := by decide +kernel
theorem xr_198_8 : X_row 198 8 = some (8, (.ifCond .eq 10, 3), (0, 0, 0)) := by decide +kernel
theorem xr_198_11 : X_row 198 11 = some (11, (.aload_n 0, 1), (0, 0, 0)) := by decide +kernel
theorem xr_198_12 : X_row 198 12 = some (12, (.getfield 399, 3), (11, 70, 140)) := by decide +kernel
theorem xr_198_15 : X_row 198 15 = some (15, (.goto 27, 3), (0, 0, 0)) := by decide +kernel
theorem xr_198_18 : X_row 198 18 = some (18, (.iconst 0, 1), (0, 0, 0)) := by decide +kernel
theorem xr_198_19 : X_row 198 19 = some (19, (.goto 23, 3), (0, 0, 0)) := by decide +kernel
theorem xr_198_22 : X_row 198 22 = some (22, (.iload_n 1, 1), (0, 0, 0)) := by decide +kernel
theorem xr_198_23 : X_row 198 23 = some (23, (.iconst 1, 1), (0, 0, 0)) := by decide +kernel
theorem xr_198_24 : X_row 198 24 = some (24, (.if_icmp .ne 17, 3), (0, 0, 0)) := by decide +kernel
theorem xr_198_27 : X_row 198 27 = some (27, (.aload_n 0, 1), (0, 0, 0)) := by decide +kernel
theorem xr_198_28 : X_row 198 28 = some (28, (.getfield 320, 3), (11, 68, 136)) := by decide +kernel
theorem xr_198_31 : X_row 198 31 = some (31, (.ifCond .eq 10, 3), (0, 0, 0)) := by decide +kernel
theorem xr_198_34 : X_row 198 34 = some (34, (.aload_n 0, 1), (0, 0, 0)) := by decide +kernel
theorem xr_198_35 : X_row 198 35 = some (35, (.getfield 402, 3), (11, 69, 138)) := by decide +kernel
theorem xr_198_38 : X_row 198 38 = some (38, (.goto 4, 3), (0, 0, 0)) := by decide +kernel
theorem xr_198_41 : X_row 198 41 = some (41, (.iconst (-1), 1), (0, 0, 0)) := by decide +kernel
theorem xr_198_42 : X_row 198 42 = some (42, (.ireturn, 1), (0, 0, 0)) := by decide +kernel
theorem xr_199_0 : X_row 199 0 = some (0, (.iconst 0, 1), (0, 0, 0)) := by decide +kernel
theorem xr_199_1 : X_row 199 1 = some (1, (.istore_n 1, 1), (0, 0, 0)) := by decide +kernel
theorem xr_199_2 : X_row 199 2 = some (2, (.iload_n 1, 1), (0, 0, 0)) := by decide +kernel
theorem xr_199_3 : X_row 199 3 = some (3, (.aload_n 0, 1), (0, 0, 0)) := by decide +kernel
theorem xr_199_4 : X_row 199 4 = some (4, (.getfield 138, 3), (11, 30, 60)) := by decide +kernel
theorem xr_199_7 : X_row 199 7 = some (7, (.if_icmp .ge 41, 3), (0, 0, 0)) := by decide +kernel
theorem xr_199_10 : X_row 199 10 = some (10, (.iload_n 1, 1), (0, 0, 0)) := by decide +kernel
theorem xr_199_11 : X_row 199 11 = some (11, (.istore_n 2, 1), (0, 0, 0)) := by decide +kernel
theorem xr_199_12 : X_row 199 12 = some (12, (.iload_n 2, 1), (0, 0, 0)) := by decide +kernel
theorem xr_199_13 : X_row 199 13 = some (13, (.aload_n 0, 1), (0, 0, 0)) := by decide +kernel
theorem xr_199_14 : X_row 199 14 = some (14, (.getfield 138, 3), (11, 30, 60)) := by decide +kernel
theorem xr_199_17 : X_row 199 17 = some (17, (.if_icmp .ge 25, 3), (0, 0, 0)) := by decide +kernel
theorem xr_199_20 : X_row 199 20 = some (20, (.aload_n 0, 1), (0, 0, 0)) := by decide +kernel
theorem xr_199_21 : X_row 199 21 = some (21, (.iload_n 1, 1), (0, 0, 0)) := by decide +kernel
theorem xr_199_22 : X_row 199 22 = some (22, (.iload_n 2, 1), (0, 0, 0)) := by decide +kernel
theorem xr_199_23 : X_row 199 23 = some (23, (.invokevirtual 420, 3), (200, 96, 0)) := by decide +kernel
theorem xr_199_26 : X_row 199 26 = some (26, (.ifCond .eq 10, 3), (0, 0, 0)) := by decide +kernel
theorem xr_199_29 : X_row 199 29 = some (29, (.bipush 100, 2), (0, 0, 0)) := by decide +kernel
theorem xr_199_31 : X_row 199 31 = some (31, (.iload_n 1, 1), (0, 0, 0)) := by decide +kernel
theorem xr_199_32 : X_row 199 32 = some (32, (.imul, 1), (0, 0, 0)) := by decide +kernel
theorem xr_199_33 : X_row 199 33 = some (33, (.iload_n 2, 1), (0, 0, 0)) := by decide +kernel
theorem xr_199_34 : X_row 199 34 = some (34, (.iadd, 1), (0, 0, 0)) := by decide +kernel
theorem xr_199_35 : X_row 199 35 = some (35, (.ireturn, 1), (0, 0, 0)) := by decide +kernel
theorem xr_199_36 : X_row 199 36 = some (36, (.iinc 2 1, 3), (0, 0, 0)) := by decide +kernel
theorem xr_199_39 : X_row 199 39 = some (39, (.goto (-27), 3), (0, 0, 0)) := by decide +kernel
theorem xr_199_42 : X_row 199 42 = some (42, (.iinc 1 1, 3), (0, 0, 0)) := by decide +kernel
theorem xr_199_45 : X_row 199 45 = some (45, (.goto (-43), 3), (0, 0, 0)) := by decide +kernel
theorem xr_199_48 : X_row 199 48 = some (48, (.iconst (-1), 1), (0, 0, 0)) := by decide +kernel
theorem xr_199_49 : X_row 199 49 = some (49, (.ireturn, 1), (0, 0, 0)) := by decide +kernel
theorem xr_200_0 : X_row 200 0 = some (0, (.bipush 30, 2), (0, 0, 0)) := by decide +kernel
theorem xr_200_2 : X_row 200 2 = some (2, (.aload_n 0, 1), (0, 0, 0)) := by decide +kernel
theorem xr_200_3 : X_row 200 3 = some (3, (.getfield 91, 3), (11, 4, 8)) := by decide +kernel
theorem xr_200_6 : X_row 200 6 = some (6, (.imul, 1), (0, 0, 0)) := by decide +kernel
theorem xr_200_7 : X_row 200 7 = some (7, (.iload_n 1, 1), (0, 0, 0)) := by decide +kernel
theorem xr_200_8 : X_row 200 8 = some (8, (.iadd, 1), (0, 0, 0)) := by decide +kernel
theorem xr_200_9 : X_row 200 9 = some (9, (.istore_n 3, 1), (0, 0, 0)) := by decide +kernel
theorem xr_200_10 : X_row 200 10 = some (10, (.bipush 30, 2), (0, 0, 0)) := by decide +kernel
theorem xr_200_12 : X_row 200 12 = some (12, (.aload_n 0, 1), (0, 0, 0)) := by decide +kernel
theorem xr_200_13 : X_row 200 13 = some (13, (.getfield 91, 3), (11, 4, 8)) := by decide +kernel
theorem xr_200_16 : X_row 200 16 = some (16, (.imul, 1), (0, 0, 0)) := by decide +kernel
theorem xr_200_17 : X_row 200 17 = some (17, (.iload_n 2, 1), (0, 0, 0)) := by decide +kernel
theorem xr_200_18 : X_row 200 18 = some (18, (.iadd, 1), (0, 0, 0)) := by decide +kernel
theorem xr_200_19 : X_row 200 19 = some (19, (.istore 4, 2), (0, 0, 0)) := by decide +kernel
theorem xr_200_21 : X_row 200 21 = some (21, (.iconst 0, 1), (0, 0, 0)) := by decide +kernel
theorem xr_200_22 : X_row 200 22 = some (22, (.istore 5, 2), (0, 0, 0)) := by decide +kernel
theorem xr_200_24 : X_row 200 24 = some (24, (.iload 5, 2), (0, 0, 0)) := by decide +kernel
theorem xr_200_26 : X_row 200 26 = some (26, (.aload_n 0, 1), (0, 0, 0)) := by decide +kernel
theorem xr_200_27 : X_row 200 27 = some (27, (.getfield 150, 3), (11, 20, 40)) := by decide +kernel
theorem xr_200_30 : X_row 200 30 = some (30, (.iload_n 3, 1), (0, 0, 0)) := by decide +kernel
theorem xr_200_31 : X_row 200 31 = some (31, (.iaload, 1), (0, 0, 0)) := by decide +kernel
theorem xr_200_32 : X_row 200 32 = some (32, (.if_icmp .ge 84, 3), (0, 0, 0)) := by decide +kernel
theorem xr_200_35 : X_row 200 35 = some (35, (.aload_n 0, 1), (0, 0, 0)) := by decide +kernel
theorem xr_200_36 : X_row 200 36 = some (36, (.getfield 168, 3), (11, 25, 50)) := by decide +kernel
theorem xr_200_39 : X_row 200 39 = some (39, (.bipush 8, 2), (0, 0, 0)) := by decide +kernel
theorem xr_200_41 : X_row 200 41 = some (41, (.iload_n 3, 1), (0, 0, 0)) := by decide +kernel
theorem xr_200_42 : X_row 200 42 = some (42, (.imul, 1), (0, 0, 0)) := by decide +kernel
theorem xr_200_43 : X_row 200 43 = some (43, (.iload 5, 2), (0, 0, 0)) := by decide +kernel
theorem xr_200_45 : X_row 200 45 = some (45, (.iadd, 1), (0, 0, 0)) := by decide +kernel
theorem xr_200_46 : X_row 200 46 = some (46, (.laload, 1), (0, 0, 0)) := by decide +kernel
theorem xr_200_47 : X_row 200 47 = some (47, (.lstore 6, 2), (0, 0, 0)) := by decide +kernel
theorem xr_200_49 : X_row 200 49 = some (49, (.iload_n 1, 1), (0, 0, 0)) := by decide +kernel
theorem xr_200_50 : X_row 200 50 = some (50, (.iload_n 2, 1), (0, 0, 0)) := by decide +kernel
theorem xr_200_51 : X_row 200 51 = some (51, (.if_icmp .ne 10, 3), (0, 0, 0)) := by decide +kernel
theorem xr_200_54 : X_row 200 54 = some (54, (.iload 5, 2), (0, 0, 0)) := by decide +kernel
theorem xr_200_56 : X_row 200 56 = some (56, (.iconst 1, 1), (0, 0, 0)) := by decide +kernel
theorem xr_200_57 : X_row 200 57 = some (57, (.iadd, 1), (0, 0, 0)) := by decide +kernel
theorem xr_200_58 : X_row 200 58 = some (58, (.goto 4, 3), (0, 0, 0)) := by decide +kernel
theorem xr_200_61 : X_row 200 61 = some (61, (.iconst 0, 1), (0, 0, 0)) := by decide +kernel
theorem xr_200_62 : X_row 200 62 = some (62, (.istore 8, 2), (0, 0, 0)) := by decide +kernel
theorem xr_200_64 : X_row 200 64 = some (64, (.iload 8, 2), (0, 0, 0)) := by decide +kernel
theorem xr_200_66 : X_row 200 66 = some (66, (.aload_n 0, 1), (0, 0, 0)) := by decide +kernel
theorem xr_200_67 : X_row 200 67 = some (67, (.getfield 150, 3), (11, 20, 40)) := by decide +kernel
theorem xr_200_70 : X_row 200 70 = some (70, (.iload 4, 2), (0, 0, 0)) := by decide +kernel
theorem xr_200_72 : X_row 200 72 = some (72, (.iaload, 1), (0, 0, 0)) := by decide +kernel
theorem xr_200_73 : X_row 200 73 = some (73, (.if_icmp .ge 37, 3), (0, 0, 0)) := by decide +kernel
theorem xr_200_76 : X_row 200 76 = some (76, (.lload 6, 2), (0, 0, 0)) := by decide +kernel
theorem xr_200_78 : X_row 200 78 = some (78, (.lconst 0, 1), (0, 0, 0)) := by decide +kernel
theorem xr_200_79 : X_row 200 79 = some (79, (.lcmp, 1), (0, 0, 0)) := by decide +kernel
theorem xr_200_80 : X_row 200 80 = some (80, (.ifCond .eq 24, 3), (0, 0, 0)) := by decide +kernel
theorem xr_200_83 : X_row 200 83 = some (83, (.lload 6, 2), (0, 0, 0)) := by decide +kernel
theorem xr_200_85 : X_row 200 85 = some (85, (.aload_n 0, 1), (0, 0, 0)) := by decide +kernel
theorem xr_200_86 : X_row 200 86 = some (86, (.getfield 168, 3), (11, 25, 50)) := by decide +kernel
theorem xr_200_89 : X_row 200 89 = some (89, (.bipush 8, 2), (0, 0, 0)) := by decide +kernel
theorem xr_200_91 : X_row 200 91 = some (91, (.iload 4, 2), (0, 0, 0)) := by decide +kernel
theorem xr_200_93 : X_row 200 93 = some (93, (.imul, 1), (0, 0, 0)) := by decide +kernel
theorem xr_200_94 : X_row 200 94 = some (94, (.iload 8, 2), (0, 0, 0)) := by decide +kernel
theorem xr_200_96 : X_row 200 96 = some (96, (.iadd, 1), (0, 0, 0)) := by decide +kernel
theorem xr_200_97 : X_row 200 97 = some (97, (.laload, 1), (0, 0, 0)) := by decide +kernel
theorem xr_200_98 : X_row 200 98 = some (98, (.lcmp, 1), (0, 0, 0)) := by decide +kernel
theorem xr_200_99 : X_row 200 99 = some (99, (.ifCond .ne 5, 3), (0, 0, 0)) := by decide +kernel
theorem xr_200_102 : X_row 200 102 = some (102, (.iconst 1, 1), (0, 0, 0)) := by decide +kernel
theorem xr_200_103 : X_row 200 103 = some (103, (.ireturn, 1), (0, 0, 0)) := by decide +kernel
theorem xr_200_104 : X_row 200 104 = some (104, (.iinc 8 1, 3), (0, 0, 0)) := by decide +kernel
theorem xr_200_107 : X_row 200 107 = some (107, (.goto (-43), 3), (0, 0, 0)) := by decide +kernel
theorem xr_200_110 : X_row 200 110 = some (110, (.iinc 5 1, 3), (0, 0, 0)) := by decide +kernel
theorem xr_200_113 : X_row 200 113 = some (113, (.goto (-89), 3), (0, 0, 0)) := by decide +kernel
theorem xr_200_116 : X_row 200 116 = some (116, (.iload_n 1, 1), (0, 0, 0)) := by decide +kernel
theorem xr_200_117 : X_row 200 117 = some (117, (.iload_n 2, 1), (0, 0, 0)) := by decide +kernel
theorem xr_200_118 : X_row 200 118 = some (118, (.if_icmp .ne 27, 3), (0, 0, 0)) := by decide +kernel
theorem xr_200_121 : X_row 200 121 = some (121, (.aload_n 0, 1), (0, 0, 0)) := by decide +kernel
theorem xr_200_122 : X_row 200 122 = some (122, (.iload_n 3, 1), (0, 0, 0)) := by decide +kernel
theorem xr_200_123 : X_row 200 123 = some (123, (.invokevirtual 162, 3), (160, 46, 0)) := by decide +kernel
theorem xr_200_126 : X_row 200 126 = some (126, (.iconst 3, 1), (0, 0, 0)) := by decide +kernel
theorem xr_200_127 : X_row 200 127 = some (127, (.if_icmp .ne 16, 3), (0, 0, 0)) := by decide +kernel
theorem xr_200_130 : X_row 200 130 = some (130, (.aload_n 0, 1), (0, 0, 0)) := by decide +kernel
theorem xr_200_131 : X_row 200 131 = some (131, (.getfield 144, 3), (11, 18, 36)) := by decide +kernel
theorem xr_200_134 : X_row 200 134 = some (134, (.iload_n 3, 1), (0, 0, 0)) := by decide +kernel
theorem xr_200_135 : X_row 200 135 = some (135, (.iaload, 1), (0, 0, 0)) := by decide +kernel
theorem xr_200_136 : X_row 200 136 = some (136, (.ifCond .ne 7, 3), (0, 0, 0)) := by decide +kernel
theorem xr_200_139 : X_row 200 139 = some (139, (.iconst 1, 1), (0, 0, 0)) := by decide +kernel
theorem xr_200_140 : X_row 200 140 = some (140, (.goto 4, 3), (0, 0, 0)) := by decide +kernel
theorem xr_200_143 : X_row 200 143 = some (143, (.iconst 0, 1), (0, 0, 0)) := by decide +kernel
theorem xr_200_144 : X_row 200 144 = some (144, (.ireturn, 1), (0, 0, 0)) := by decide +kernel
theorem xr_200_145 : X_row 200 145 = some (145, (.aload_n 0, 1), (0, 0, 0)) := by decide +kernel
theorem xr_200_146 : X_row 200 146 = some (146, (.iload_n 3, 1), (0, 0, 0)) := by decide +kernel
theorem xr_200_147 : X_row 200 147 = some (147, (.invokevirtual 162, 3), (160, 46, 0)) := by decide +kernel
theorem xr_200_150 : X_row 200 150 = some (150, (.ifCond .eq 52, 3), (0, 0, 0)) := by decide +kernel
theorem xr_200_153 : X_row 200 153 = some (153, (.aload_n 0, 1), (0, 0, 0)) := by decide +kernel
theorem xr_200_154 : X_row 200 154 = some (154, (.iload 4, 2), (0, 0, 0)) := by decide +kernel
theorem xr_200_156 : X_row 200 156 = some (156, (.invokevirtual 162, 3), (160, 46, 0)) := by decide +kernel
theorem xr_200_159 : X_row 200 159 = some (159, (.ifCond .eq 43, 3), (0, 0, 0)) := by decide +kernel
theorem xr_200_162 : X_row 200 162 = some (162, (.aload_n 0, 1), (0, 0, 0)) := by decide +kernel
theorem xr_200_163 : X_row 200 163 = some (163, (.aload_n 0, 1), (0, 0, 0)) := by decide +kernel
theorem xr_200_164 : X_row 200 164 = some (164, (.getfield 141, 3), (11, 17, 34)) := by decide +kernel
theorem xr_200_167 : X_row 200 167 = some (167, (.iload_n 3, 1), (0, 0, 0)) := by decide +kernel
theorem xr_200_168 : X_row 200 168 = some (168, (.iaload, 1), (0, 0, 0)) := by decide +kernel
theorem xr_200_169 : X_row 200 169 = some (169, (.aload_n 0, 1), (0, 0, 0)) := by decide +kernel
theorem xr_200_170 : X_row 200 170 = some (170, (.getfield 141, 3), (11, 17, 34)) := by decide +kernel
theorem xr_200_173 : X_row 200 173 = some (173, (.iload 4, 2), (0, 0, 0)) := by decide +kernel
theorem xr_200_175 : X_row 200 175 = some (175, (.iaload, 1), (0, 0, 0)) := by decide +kernel
theorem xr_200_176 : X_row 200 176 = some (176, (.invokevirtual 123, 3), (154, 32, 0)) := by decide +kernel
theorem xr_200_179 : X_row 200 179 = some (179, (.ifCond .ne 23, 3), (0, 0, 0)) := by decide +kernel
theorem xr_200_182 : X_row 200 182 = some (182, (.aload_n 0, 1), (0, 0, 0)) := by decide +kernel
theorem xr_200_183 : X_row 200 183 = some (183, (.aload_n 0, 1), (0, 0, 0)) := by decide +kernel
theorem xr_200_184 : X_row 200 184 = some (184, (.getfield 141, 3), (11, 17, 34)) := by decide +kernel
theorem xr_200_187 : X_row 200 187 = some (187, (.iload 4, 2), (0, 0, 0)) := by decide +kernel
theorem xr_200_189 : X_row 200 189 = some (189, (.iaload, 1), (0, 0, 0)) := by decide +kernel
theorem xr_200_190 : X_row 200 190 = some (190, (.aload_n 0, 1), (0, 0, 0)) := by decide +kernel
theorem xr_200_191 : X_row 200 191 = some (191, (.getfield 141, 3), (11, 17, 34)) := by decide +kernel
theorem xr_200_194 : X_row 200 194 = some (194, (.iload_n 3, 1), (0, 0, 0)) := by decide +kernel
theorem xr_200_195 : X_row 200 195 = some (195, (.iaload, 1), (0, 0, 0)) := by decide +kernel
theorem xr_200_196 : X_row 200 196 = some (196, (.invokevirtual 123, 3), (154, 32, 0)) := by decide +kernel
theorem xr_200_199 : X_row 200 199 = some (199, (.ifCond .eq 5, 3), (0, 0, 0)) := by decide +kernel
theorem xr_200_202 : X_row 200 202 = some (202, (.iconst 0, 1), (0, 0, 0)) := by decide +kernel
theorem xr_200_203 : X_row 200 203 = some (203, (.ireturn, 1), (0, 0, 0)) := by decide +kernel
theorem xr_200_204 : X_row 200 204 = some (204, (.aload_n 0, 1), (0, 0, 0)) := by decide +kernel
theorem xr_200_205 : X_row 200 205 = some (205, (.getfield 141, 3), (11, 17, 34)) := by decide +kernel
theorem xr_200_208 : X_row 200 208 = some (208, (.iload_n 3, 1), (0, 0, 0)) := by decide +kernel
theorem xr_200_209 : X_row 200 209 = some (209, (.iaload, 1), (0, 0, 0)) := by decide +kernel
theorem xr_200_210 : X_row 200 210 = some (210, (.aload_n 0, 1), (0, 0, 0)) := by decide +kernel
theorem xr_200_211 : X_row 200 211 = some (211, (.getfield 141, 3), (11, 17, 34)) := by decide +kernel
theorem xr_200_214 : X_row 200 214 = some (214, (.iload 4, 2), (0, 0, 0)) := by decide +kernel
theorem xr_200_216 : X_row 200 216 = some (216, (.iaload, 1), (0, 0, 0)) := by decide +kernel
theorem xr_200_217 : X_row 200 217 = some (217, (.if_icmp .ne 28, 3), (0, 0, 0)) := by decide +kernel
theorem xr_200_220 : X_row 200 220 = some (220, (.aload_n 0, 1), (0, 0, 0)) := by decide +kernel
theorem xr_200_221 : X_row 200 221 = some (221, (.getfield 144, 3), (11, 18, 36)) := by decide +kernel
theorem xr_200_224 : X_row 200 224 = some (224, (.iload_n 3, 1), (0, 0, 0)) := by decide +kernel
theorem xr_200_225 : X_row 200 225 = some (225, (.iaload, 1), (0, 0, 0)) := by decide +kernel
theorem xr_200_226 : X_row 200 226 = some (226, (.ifCond .eq 19, 3), (0, 0, 0)) := by decide +kernel
theorem xr_200_229 : X_row 200 229 = some (229, (.aload_n 0, 1), (0, 0, 0)) := by decide +kernel
theorem xr_200_230 : X_row 200 230 = some (230, (.getfield 144, 3), (11, 18, 36)) := by decide +kernel
theorem xr_200_233 : X_row 200 233 = some (233, (.iload_n 3, 1), (0, 0, 0)) := by decide +kernel
theorem xr_200_234 : X_row 200 234 = some (234, (.iaload, 1), (0, 0, 0)) := by decide +kernel
theorem xr_200_235 : X_row 200 235 = some (235, (.aload_n 0, 1), (0, 0, 0)) := by decide +kernel
theorem xr_200_236 : X_row 200 236 = some (236, (.getfield 144, 3), (11, 18, 36)) := by decide +kernel
theorem xr_200_239 : X_row 200 239 = some (239, (.iload 4, 2), (0, 0, 0)) := by decide +kernel
theorem xr_200_241 : X_row 200 241 = some (241, (.iaload, 1), (0, 0, 0)) := by decide +kernel
theorem xr_200_242 : X_row 200 242 = some (242, (.if_icmp .eq 7, 3), (0, 0, 0)) := by decide +kernel
theorem xr_200_245 : X_row 200 245 = some (245, (.iconst 1, 1), (0, 0, 0)) := by decide +kernel
theorem xr_200_246 : X_row 200 246 = some (246, (.goto 4, 3), (0, 0, 0)) := by decide +kernel
theorem xr_200_249 : X_row 200 249 = some (249, (.iconst 0, 1), (0, 0, 0)) := by decide +kernel
theorem xr_200_250 : X_row 200 250 = some (250, (.ireturn, 1), (0, 0, 0)) := by decide +kernel
theorem xr_201_0 : X_row 201 0 = some (0, (.aload_n 0, 1), (0, 0, 0)) := by decide +kernel
theorem xr_201_1 : X_row 201 1 = some (1, (.getfield 293, 3), (11, 1, 2)) := by decide +kernel
theorem xr_201_4 : X_row 201 4 = some (4, (.bipush 20, 2), (0, 0, 0)) := by decide +kernel
theorem xr_201_6 : X_row 201 6 = some (6, (.iadd, 1), (0, 0, 0)) := by decide +kernel
theorem xr_201_7 : X_row 201 7 = some (7, (.sipush 2000, 3), (0, 0, 0)) := by decide +kernel
theorem xr_201_10 : X_row 201 10 = some (10, (.if_icmp .le 5, 3), (0, 0, 0)) := by decide +kernel
theorem xr_201_13 : X_row 201 13 = some (13, (.iconst (-1), 1), (0, 0, 0)) := by decide +kernel
theorem xr_201_14 : X_row 201 14 = some (14, (.ireturn, 1), (0, 0, 0)) := by decide +kernel
theorem xr_201_15 : X_row 201 15 = some (15, (.iconst 0, 1), (0, 0, 0)) := by decide +kernel
theorem xr_201_16 : X_row 201 16 = some (16, (.istore 6, 2), (0, 0, 0)) := by decide +kernel
theorem xr_201_18 : X_row 201 18 = some (18, (.iload 6, 2), (0, 0, 0)) := by decide +kernel
theorem xr_201_20 : X_row 201 20 = some (20, (.bipush 20, 2), (0, 0, 0)) := by decide +kernel
theorem xr_201_22 : X_row 201 22 = some (22, (.if_icmp .ge 83, 3), (0, 0, 0)) := by decide +kernel
theorem xr_201_25 : X_row 201 25 = some (25, (.iload 6, 2), (0, 0, 0)) := by decide +kernel
theorem xr_201_27 : X_row 201 27 = some (27, (.iconst 4, 1), (0, 0, 0)) := by decide +kernel
theorem xr_201_28 : X_row 201 28 = some (28, (.if_icmp .ge 7, 3), (0, 0, 0)) := by decide +kernel
theorem xr_201_31 : X_row 201 31 = some (31, (.iload_n 1, 1), (0, 0, 0)) := by decide +kernel
theorem xr_201_32 : X_row 201 32 = some (32, (.goto 39, 3), (0, 0, 0)) := by decide +kernel
theorem xr_201_35 : X_row 201 35 = some (35, (.iload 6, 2), (0, 0, 0)) := by decide +kernel
theorem xr_201_37 : X_row 201 37 = some (37, (.bipush 8, 2), (0, 0, 0)) := by decide +kernel
theorem xr_201_39 : X_row 201 39 = some (39, (.if_icmp .ge 7, 3), (0, 0, 0)) := by decide +kernel
theorem xr_201_42 : X_row 201 42 = some (42, (.iload_n 2, 1), (0, 0, 0)) := by decide +kernel
theorem xr_201_43 : X_row 201 43 = some (43, (.goto 28, 3), (0, 0, 0)) := by decide +kernel
theorem xr_201_46 : X_row 201 46 = some (46, (.iload 6, 2), (0, 0, 0)) := by decide +kernel
theorem xr_201_48 : X_row 201 48 = some (48, (.bipush 12, 2), (0, 0, 0)) := by decide +kernel
theorem xr_201_50 : X_row 201 50 = some (50, (.if_icmp .ge 7, 3), (0, 0, 0)) := by decide +kernel
theorem xr_201_53 : X_row 201 53 = some (53, (.iload_n 3, 1), (0, 0, 0)) := by decide +kernel
theorem xr_201_54 : X_row 201 54 = some (54, (.goto 17, 3), (0, 0, 0)) := by decide +kernel
theorem xr_201_57 : X_row 201 57 = some (57, (.iload 6, 2), (0, 0, 0)) := by decide +kernel
theorem xr_201_59 : X_row 201 59 = some (59, (.bipush 16, 2), (0, 0, 0)) := by decide +kernel
theorem xr_201_61 : X_row 201 61 = some (61, (.if_icmp .ge 8, 3), (0, 0, 0)) := by decide +kernel
theorem xr_201_64 : X_row 201 64 = some (64, (.iload 4, 2), (0, 0, 0)) := by decide +kernel
theorem xr_201_66 : X_row 201 66 = some (66, (.goto 5, 3), (0, 0, 0)) := by decide +kernel
theorem xr_201_69 : X_row 201 69 = some (69, (.iload 5, 2), (0, 0, 0)) := by decide +kernel
theorem xr_201_71 : X_row 201 71 = some (71, (.istore 7, 2), (0, 0, 0)) := by decide +kernel
theorem xr_201_73 : X_row 201 73 = some (73, (.aload_n 0, 1), (0, 0, 0)) := by decide +kernel
theorem xr_201_74 : X_row 201 74 = some (74, (.getfield 188, 3), (11, 0, 0)) := by decide +kernel
theorem xr_201_77 : X_row 201 77 = some (77, (.aload_n 0, 1), (0, 0, 0)) := by decide +kernel
theorem xr_201_78 : X_row 201 78 = some (78, (.getfield 293, 3), (11, 1, 2)) := by decide +kernel
theorem xr_201_81 : X_row 201 81 = some (81, (.iload 6, 2), (0, 0, 0)) := by decide +kernel
theorem xr_201_83 : X_row 201 83 = some (83, (.iadd, 1), (0, 0, 0)) := by decide +kernel
theorem xr_201_84 : X_row 201 84 = some (84, (.iload 7, 2), (0, 0, 0)) := by decide +kernel
theorem xr_201_86 : X_row 201 86 = some (86, (.bipush 24, 2), (0, 0, 0)) := by decide +kernel
theorem xr_201_88 : X_row 201 88 = some (88, (.bipush 8, 2), (0, 0, 0)) := by decide +kernel
theorem xr_201_90 : X_row 201 90 = some (90, (.iload 6, 2), (0, 0, 0)) := by decide +kernel
theorem xr_201_92 : X_row 201 92 = some (92, (.iconst 3, 1), (0, 0, 0)) := by decide +kernel
theorem xr_201_93 : X_row 201 93 = some (93, (.iand, 1), (0, 0, 0)) := by decide +kernel
theorem xr_201_94 : X_row 201 94 = some (94, (.imul, 1), (0, 0, 0)) := by decide +kernel
theorem xr_201_95 : X_row 201 95 = some (95, (.isub, 1), (0, 0, 0)) := by decide +kernel
theorem xr_201_96 : X_row 201 96 = some (96, (.ishr, 1), (0, 0, 0)) := by decide +kernel
theorem xr_201_97 : X_row 201 97 = some (97, (.i2b, 1), (0, 0, 0)) := by decide +kernel
theorem xr_201_98 : X_row 201 98 = some (98, (.bastore, 1), (0, 0, 0)) := by decide +kernel
theorem xr_201_99 : X_row 201 99 = some (99, (.iinc 6 1, 3), (0, 0, 0)) := by decide +kernel
theorem xr_201_102 : X_row 201 102 = some (102, (.goto (-84), 3), (0, 0, 0)) := by decide +kernel
theorem xr_201_105 : X_row 201 105 = some (105, (.aload_n 0, 1), (0, 0, 0)) := by decide +kernel
theorem xr_201_106 : X_row 201 106 = some (106, (.dup, 1), (0, 0, 0)) := by decide +kernel
theorem xr_201_107 : X_row 201 107 = some (107, (.getfield 293, 3), (11, 1, 2)) := by decide +kernel
theorem xr_201_110 : X_row 201 110 = some (110, (.bipush 20, 2), (0, 0, 0)) := by decide +kernel
theorem xr_201_112 : X_row 201 112 = some (112, (.iadd, 1), (0, 0, 0)) := by decide +kernel
theorem xr_201_113 : X_row 201 113 = some (113, (.putfield 293, 3), (11, 1, 2)) := by decide +kernel
theorem xr_201_116 : X_row 201 116 = some (116, (.aload_n 0, 1), (0, 0, 0)) := by decide +kernel
theorem xr_201_117 : X_row 201 117 = some (117, (.getfield 293, 3), (11, 1, 2)) := by decide +kernel
theorem xr_201_120 : X_row 201 120 = some (120, (.ireturn, 1), (0, 0, 0)) := by decide +kernel
theorem xr_202_0 : X_row 202 0 = some (0, (.iload_n 1, 1), (0, 0, 0)) := by decide +kernel
theorem xr_202_1 : X_row 202 1 = some (1, (.ifCond .lt 11, 3), (0, 0, 0)) := by decide +kernel
theorem xr_202_4 : X_row 202 4 = some (4, (.iload_n 1, 1), (0, 0, 0)) := by decide +kernel
theorem xr_202_5 : X_row 202 5 = some (5, (.aload_n 0, 1), (0, 0, 0)) := by decide +kernel
theorem xr_202_6 : X_row 202 6 = some (6, (.getfield 293, 3), (11, 1, 2)) := by decide +kernel
theorem xr_202_9 : X_row 202 9 = some (9, (.if_icmp .le 5, 3), (0, 0, 0)) := by decide +kernel
theorem xr_202_12 : X_row 202 12 = some (12, (.iconst (-1), 1), (0, 0, 0)) := by decide +kernel
theorem xr_202_13 : X_row 202 13 = some (13, (.ireturn, 1), (0, 0, 0)) := by decide +kernel
theorem xr_202_14 : X_row 202 14 = some (14, (.aload_n 0, 1), (0, 0, 0)) := by decide +kernel
theorem xr_202_15 : X_row 202 15 = some (15, (.iload_n 1, 1), (0, 0, 0)) := by decide +kernel
theorem xr_202_16 : X_row 202 16 = some (16, (.putfield 293, 3), (11, 1, 2)) := by decide +kernel
theorem xr_202_19 : X_row 202 19 = some (19, (.iload_n 1, 1), (0, 0, 0)) := by decide +kernel
theorem xr_202_20 : X_row 202 20 = some (20, (.ireturn, 1), (0, 0, 0)) := by decide +kernel
theorem xn_163 : X_nL 163 = 2 := by decide +kernel
theorem xf_163 : X_na 163 = 1 ∧ X_ci 163 = 11 ∧ X_rt 163 = (some .int) := by decide +kernel
theorem xn_164 : X_nL 164 = 2 := by decide +kernel
theorem xf_164 : X_na 164 = 1 ∧ X_ci 164 = 11 ∧ X_rt 164 = (some .int) := by decide +kernel
theorem xn_165 : X_nL 165 = 2 := by decide +kernel
theorem xf_165 : X_na 165 = 1 ∧ X_ci 165 = 11 ∧ X_rt 165 = (some .boolean) := by decide +kernel
theorem xn_166 : X_nL 166 = 4 := by decide +kernel
theorem xf_166 : X_na 166 = 2 ∧ X_ci 166 = 11 ∧ X_rt 166 = (some .int) := by decide +kernel
theorem xn_167 : X_nL 167 = 3 := by decide +kernel
theorem xf_167 : X_na 167 = 2 ∧ X_ci 167 = 11 ∧ X_rt 167 = (some .int) := by decide +kernel
theorem xn_169 : X_nL 169 = 3 := by decide +kernel
theorem xf_169 : X_na 169 = 2 ∧ X_ci 169 = 11 ∧ X_rt 169 = (some .int) := by decide +kernel
theorem xn_190 : X_nL 190 = 3 := by decide +kernel
theorem xf_190 : X_na 190 = 2 ∧ X_ci 190 = 11 ∧ X_rt 190 = (some .int) := by decide +kernel
theorem xn_191 : X_nL 191 = 3 := by decide +kernel
theorem xf_191 : X_na 191 = 2 ∧ X_ci 191 = 11 ∧ X_rt 191 = (some .boolean) := by decide +kernel
theorem xn_198 : X_nL 198 = 2 := by decide +kernel
theorem xf_198 : X_na 198 = 1 ∧ X_ci 198 = 11 ∧ X_rt 198 = (some .int) := by decide +kernel
theorem xn_199 : X_nL 199 = 3 := by decide +kernel
theorem xf_199 : X_na 199 = 0 ∧ X_ci 199 = 11 ∧ X_rt 199 = (some .int) := by decide +kernel
theorem xn_200 : X_nL 200 = 9 := by decide +kernel
theorem xf_200 : X_na 200 = 2 ∧ X_ci 200 = 11 ∧ X_rt 200 = (some .boolean) := by decide +kernel
theorem xn_201 : X_nL 201 = 8 := by decide +kernel
theorem xf_201 : X_na 201 = 5 ∧ X_ci 201 = 11 ∧ X_rt 201 = (some .int) := by decide +kernel
theorem xn_202 : X_nL 202 = 2 := by decide +kernel
theorem xf_202 : X_na 202 = 1 ∧ X_ci 202 = 11 ∧ X_rt 202 = (some .int) := by decide +kernel
def X_fb2 (a b c d e k : Int) : Int := (((iI ((iI (if k < 4 then a else if k < 8 then b else if k < 12 then c else if k < 16 then d else e) >>> (iI (24 - 8 * (k % 4)) &&& 31)).toInt)).toInt8.toInt32).toInt)
theorem X_fb2_b {a b c d e k : Int} : X_by (X_fb2 a b c d e k) = X_fb a b c d e k := rfl
theorem r_feed (sc : X_Sc) (S : X_S) (tp : Int → Int) (o : Nat → Int) (nm : Int64) (b : Int) (rc : Int) (G : X_G) (tn : Int) (len : Int) (a : Int) (b_ : Int) (c : Int) (d : Int) (e : Int) (hO530 : S.1 530 = .inr (11, [.ref 531, .int (iI len), .ref 532, .int (iI (o 3)), .int (iI b), .int (iI (o 5)), .int (iI (o 6)), .int (iI (o 7)), .int (iI (o 8)), .int (iI (o 9)), .int (iI (o 10)), .int (iI (o 11)), .long nm, .ref 533, .ref 534, .ref 535, .ref 536, .ref 537, .ref 538, .ref 539, .ref 540, .ref 541, .ref 542, .ref 543, .ref 544, .ref 545, .ref 546, .ref 547, .int (iI rc), .int (iI (gk G)), .int (iI (gw G)), .int (iI (o 31)), .int (iI (o 32)), .int (iI (o 33)), .ref 548, .ref 549, .ref 550, .ref 551, .int (iI tn), .ref 552, .ref 553, .ref 554, .ref 555, .ref 556, .ref 557, .ref 558, .ref 559, .ref 560, .ref 561, .int (iI (o 49)), .ref 562, .ref 563, .ref 564, .ref 565, .ref 566, .ref 567, .ref 568, .ref 569, .int (iI (o 58)), .ref 570, .ref 571, .ref 572, .ref 573, .ref 574, .ref 575, .ref 576, .ref 577, .ref 578, .int (iI (o 68)), .int (iI (o 69)), .int (iI (o 70)), .ref 579])) (hA531 : S.1 531 = .inl (.byte, 2020, .inl fun k : Nat => iI (tp (k : Int)))) (hl : 0 ≤ len ∧ len ≤ 2000) : X_T sc 201 (0, [(0, .ref 530), (1, .int (iI a)), (2, .int (iI b_)), (3, .int (iI c)), (4, .int (iI d)), (5, .int (iI e))], [], S) (fun v S' => (v = some (.int (iI (-1))) ∧ 2000 < len + 20 ∧ S' = S) ∨ (∃ (tp1 : Int → Int), v = some (.int (iI (len + 20))) ∧ len + 20 ≤ 2000 ∧ (∀ q, 0 ≤ q → q < len → tp1 q = tp q) ∧ (∀ m, 0 ≤ m → m < 20 → tp1 (len + m) = X_fb a b_ c d e m) ∧ S'.1 530 = .inr (11, [.ref 531, .int (iI (len + 20)), .ref 532, .int (iI (o 3)), .int (iI b), .int (iI (o 5)), .int (iI (o 6)), .int (iI (o 7)), .int (iI (o 8)), .int (iI (o 9)), .int (iI (o 10)), .int (iI (o 11)), .long nm, .ref 533, .ref 534, .ref 535, .ref 536, .ref 537, .ref 538, .ref 539, .ref 540, .ref 541, .ref 542, .ref 543, .ref 544, .ref 545, .ref 546, .ref 547, .int (iI rc), .int (iI (gk G)), .int (iI (gw G)), .int (iI (o 31)), .int (iI (o 32)), .int (iI (o 33)), .ref 548, .ref 549, .ref 550, .ref 551, .int (iI tn), .ref 552, .ref 553, .ref 554, .ref 555, .ref 556, .ref 557, .ref 558, .ref 559, .ref 560, .ref 561, .int (iI (o 49)), .ref 562, .ref 563, .ref 564, .ref 565, .ref 566, .ref 567, .ref 568, .ref 569, .int (iI (o 58)), .ref 570, .ref 571, .ref 572, .ref 573, .ref 574, .ref 575, .ref 576, .ref 577, .ref 578, .int (iI (o 68)), .int (iI (o 69)), .int (iI (o 70)), .ref 579]) ∧ S'.1 531 = .inl (.byte, 2020, .inl fun k : Nat => iI (tp1 (k : Int))) ∧ (X_Fr (fun q => q = 530 ∨ q = 531) S S'))) := by
  refine X_QI (fun Q hQ => ?_)
  refine T_p xr_201_0 xn_201 (pc' := 1) (ls' := [(0, .ref 530), (1, .int (iI a)), (2, .int (iI b_)), (3, .int (iI c)), (4, .int (iI d)), (5, .int (iI e))]) (st' := [.ref 530]) rfl ?_
  refine T_get xr_201_1 hO530 rfl (v := .int (iI len)) rfl (pc' := 4) rfl ?_
  refine T_p xr_201_4 xn_201 (pc' := 6) (ls' := [(0, .ref 530), (1, .int (iI a)), (2, .int (iI b_)), (3, .int (iI c)), (4, .int (iI d)), (5, .int (iI e))]) (st' := [.int (iI 20), .int (iI len)]) rfl ?_
  refine T_ziadd xr_201_6 (z := len + 20) rfl (pc' := 7) rfl ?_
  refine T_p xr_201_7 xn_201 (pc' := 10) (ls' := [(0, .ref 530), (1, .int (iI a)), (2, .int (iI b_)), (3, .int (iI c)), (4, .int (iI d)), (5, .int (iI e))]) (st' := [.int (iI 2000), .int (iI (len + 20))]) rfl ?_
  refine T_zicmp_le xr_201_10 (t := 15) (pc' := 13) rfl rfl (fun c2268 => ?_) (fun c2268 => ?_)
  · skip
    have c2268 : (len + 20) ≤ 2000 := c2268
    refine T_p xr_201_15 xn_201 (pc' := 16) (ls' := [(0, .ref 530), (1, .int (iI a)), (2, .int (iI b_)), (3, .int (iI c)), (4, .int (iI d)), (5, .int (iI e))]) (st' := [.int (iI 0)]) rfl ?_
    refine T_p xr_201_16 xn_201 (pc' := 18) (ls' := [(6, .int (iI 0)), (0, .ref 530), (1, .int (iI a)), (2, .int (iI b_)), (3, .int (iI c)), (4, .int (iI d)), (5, .int (iI e))]) (st' := []) rfl ?_
    have L2269 : ∀ (m2271 : Nat) (S2274 : X_S) (k : Int) (tq : Int → Int) (htq : S2274.1 531 = .inl (.byte, 2020, .inl fun k : Nat => iI (tq (k : Int)))) (hF2273 : X_Fr (fun q => q = 531) S S2274) (hk : 0 ≤ k ∧ k ≤ 20) (ho : ∀ q, 0 ≤ q → q < len → tq q = tp q) (hi : ∀ m, 0 ≤ m → m < k → tq (len + m) = X_fb a b_ c d e m) (hm2272 : 20 - k < m2271), X_T sc 201 (18, [(6, .int (iI k)), (5, .int (iI e)), (4, .int (iI d)), (3, .int (iI c)), (2, .int (iI b_)), (1, .int (iI a)), (0, .ref 530)], [], S2274) Q := by
      intro m2271
      induction m2271 with
      | zero =>
        intro S2274 k tq htq hF2273 hk ho hi hm2272
        exact (show False by omega).elim
      | succ m2271 ih2270 =>
        intro S2274 k tq htq hF2273 hk ho hi hm2272
        refine T_p xr_201_18 xn_201 (pc' := 20) (ls' := [(6, .int (iI k)), (5, .int (iI e)), (4, .int (iI d)), (3, .int (iI c)), (2, .int (iI b_)), (1, .int (iI a)), (0, .ref 530)]) (st' := [.int (iI k)]) rfl ?_
        refine T_p xr_201_20 xn_201 (pc' := 22) (ls' := [(6, .int (iI k)), (5, .int (iI e)), (4, .int (iI d)), (3, .int (iI c)), (2, .int (iI b_)), (1, .int (iI a)), (0, .ref 530)]) (st' := [.int (iI 20), .int (iI k)]) rfl ?_
        refine T_zicmp_ge xr_201_22 (t := 105) (pc' := 25) rfl rfl (fun c2275 => ?_) (fun c2275 => ?_)
        · skip
          have c2275 : 20 ≤ k := c2275
          refine T_p xr_201_105 xn_201 (pc' := 106) (ls' := [(6, .int (iI k)), (5, .int (iI e)), (4, .int (iI d)), (3, .int (iI c)), (2, .int (iI b_)), (1, .int (iI a)), (0, .ref 530)]) (st' := [.ref 530]) rfl ?_
          refine T_p xr_201_106 xn_201 (pc' := 107) (ls' := [(6, .int (iI k)), (5, .int (iI e)), (4, .int (iI d)), (3, .int (iI c)), (2, .int (iI b_)), (1, .int (iI a)), (0, .ref 530)]) (st' := [.ref 530, .ref 530]) rfl ?_
          have h2276 := (hF2273.1 530 (by first | decide | omega)).trans (hO530)
          refine T_get xr_201_107 h2276 rfl (v := .int (iI len)) rfl (pc' := 110) rfl ?_
          refine T_p xr_201_110 xn_201 (pc' := 112) (ls' := [(6, .int (iI k)), (5, .int (iI e)), (4, .int (iI d)), (3, .int (iI c)), (2, .int (iI b_)), (1, .int (iI a)), (0, .ref 530)]) (st' := [.int (iI 20), .int (iI len), .ref 530]) rfl ?_
          refine T_ziadd xr_201_112 (z := len + 20) rfl (pc' := 113) rfl ?_
          refine T_put xr_201_113 h2276 rfl (Nat.le_of_ble_eq_true rfl) rfl (fs' := [.ref 531, .int (iI (len + 20)), .ref 532, .int (iI (o 3)), .int (iI b), .int (iI (o 5)), .int (iI (o 6)), .int (iI (o 7)), .int (iI (o 8)), .int (iI (o 9)), .int (iI (o 10)), .int (iI (o 11)), .long nm, .ref 533, .ref 534, .ref 535, .ref 536, .ref 537, .ref 538, .ref 539, .ref 540, .ref 541, .ref 542, .ref 543, .ref 544, .ref 545, .ref 546, .ref 547, .int (iI rc), .int (iI (gk G)), .int (iI (gw G)), .int (iI (o 31)), .int (iI (o 32)), .int (iI (o 33)), .ref 548, .ref 549, .ref 550, .ref 551, .int (iI tn), .ref 552, .ref 553, .ref 554, .ref 555, .ref 556, .ref 557, .ref 558, .ref 559, .ref 560, .ref 561, .int (iI (o 49)), .ref 562, .ref 563, .ref 564, .ref 565, .ref 566, .ref 567, .ref 568, .ref 569, .int (iI (o 58)), .ref 570, .ref 571, .ref 572, .ref 573, .ref 574, .ref 575, .ref 576, .ref 577, .ref 578, .int (iI (o 68)), .int (iI (o 69)), .int (iI (o 70)), .ref 579]) rfl (pc' := 116) rfl (fun S2277 h2278 n2279 e2280 => ?_)
          refine T_p xr_201_116 xn_201 (pc' := 117) (ls' := [(6, .int (iI k)), (5, .int (iI e)), (4, .int (iI d)), (3, .int (iI c)), (2, .int (iI b_)), (1, .int (iI a)), (0, .ref 530)]) (st' := [.ref 530]) rfl ?_
          refine T_get xr_201_117 h2278 rfl (v := .int (iI (len + 20))) rfl (pc' := 120) rfl ?_
          refine T_iret xr_201_120 xf_201.2.2 rfl ?_
          refine hQ _ _ ?_
          have h2281 := (n2279 531 (by decide)).trans (htq)
          exact Or.inr ⟨tq, rfl, (by omega), ho, (fun m h1 h2 => hi m h1 (by omega)), h2278, h2281, ((X_Fr.rf).tr (X_Fr.mono ⟨hF2273.1, hF2273.2⟩ (fun q hq => by first | exact hq | (rcases hq with rfl <;> decide) | (rcases hq with rfl | rfl <;> decide) | (rcases hq with rfl | rfl | rfl <;> decide) | (rcases hq with rfl | rfl | rfl | rfl <;> decide) | (rcases hq with rfl | rfl | rfl | rfl | rfl <;> decide) | (rcases hq with rfl | rfl | rfl | rfl | rfl | rfl <;> decide) | (rcases hq with rfl | rfl | rfl | rfl | rfl | rfl | rfl <;> decide) | omega))).tr (X_Fr.of n2279 e2280 (by first | decide | exact ⟨Nat.le_add_right _ _, Nat.add_le_add_left (by decide) _⟩ | omega))⟩
        · skip
          have c2275 : ¬ (20 ≤ k) := c2275
          have J2282 : X_T sc 201 (71, [(6, .int (iI k)), (5, .int (iI e)), (4, .int (iI d)), (3, .int (iI c)), (2, .int (iI b_)), (1, .int (iI a)), (0, .ref 530)], [.int (iI (if k < 4 then a else if k < 8 then b_ else if k < 12 then c else if k < 16 then d else e))], S2274) Q := by
            refine T_p xr_201_71 xn_201 (pc' := 73) (ls' := [(7, .int (iI (if k < 4 then a else if k < 8 then b_ else if k < 12 then c else if k < 16 then d else e))), (6, .int (iI k)), (5, .int (iI e)), (4, .int (iI d)), (3, .int (iI c)), (2, .int (iI b_)), (1, .int (iI a)), (0, .ref 530)]) (st' := []) rfl ?_
            refine T_p xr_201_73 xn_201 (pc' := 74) (ls' := [(7, .int (iI (if k < 4 then a else if k < 8 then b_ else if k < 12 then c else if k < 16 then d else e))), (6, .int (iI k)), (5, .int (iI e)), (4, .int (iI d)), (3, .int (iI c)), (2, .int (iI b_)), (1, .int (iI a)), (0, .ref 530)]) (st' := [.ref 530]) rfl ?_
            have h2283 := (hF2273.1 530 (by first | decide | omega)).trans (hO530)
            refine T_get xr_201_74 h2283 rfl (v := .ref 531) rfl (pc' := 77) rfl ?_
            refine T_p xr_201_77 xn_201 (pc' := 78) (ls' := [(7, .int (iI (if k < 4 then a else if k < 8 then b_ else if k < 12 then c else if k < 16 then d else e))), (6, .int (iI k)), (5, .int (iI e)), (4, .int (iI d)), (3, .int (iI c)), (2, .int (iI b_)), (1, .int (iI a)), (0, .ref 530)]) (st' := [.ref 530, .ref 531]) rfl ?_
            refine T_get xr_201_78 h2283 rfl (v := .int (iI len)) rfl (pc' := 81) rfl ?_
            refine T_p xr_201_81 xn_201 (pc' := 83) (ls' := [(7, .int (iI (if k < 4 then a else if k < 8 then b_ else if k < 12 then c else if k < 16 then d else e))), (6, .int (iI k)), (5, .int (iI e)), (4, .int (iI d)), (3, .int (iI c)), (2, .int (iI b_)), (1, .int (iI a)), (0, .ref 530)]) (st' := [.int (iI k), .int (iI len), .ref 531]) rfl ?_
            refine T_ziadd xr_201_83 (z := len + k) rfl (pc' := 84) rfl ?_
            refine T_p xr_201_84 xn_201 (pc' := 86) (ls' := [(7, .int (iI (if k < 4 then a else if k < 8 then b_ else if k < 12 then c else if k < 16 then d else e))), (6, .int (iI k)), (5, .int (iI e)), (4, .int (iI d)), (3, .int (iI c)), (2, .int (iI b_)), (1, .int (iI a)), (0, .ref 530)]) (st' := [.int (iI (if k < 4 then a else if k < 8 then b_ else if k < 12 then c else if k < 16 then d else e)), .int (iI (len + k)), .ref 531]) rfl ?_
            refine T_p xr_201_86 xn_201 (pc' := 88) (ls' := [(7, .int (iI (if k < 4 then a else if k < 8 then b_ else if k < 12 then c else if k < 16 then d else e))), (6, .int (iI k)), (5, .int (iI e)), (4, .int (iI d)), (3, .int (iI c)), (2, .int (iI b_)), (1, .int (iI a)), (0, .ref 530)]) (st' := [.int (iI 24), .int (iI (if k < 4 then a else if k < 8 then b_ else if k < 12 then c else if k < 16 then d else e)), .int (iI (len + k)), .ref 531]) rfl ?_
            refine T_p xr_201_88 xn_201 (pc' := 90) (ls' := [(7, .int (iI (if k < 4 then a else if k < 8 then b_ else if k < 12 then c else if k < 16 then d else e))), (6, .int (iI k)), (5, .int (iI e)), (4, .int (iI d)), (3, .int (iI c)), (2, .int (iI b_)), (1, .int (iI a)), (0, .ref 530)]) (st' := [.int (iI 8), .int (iI 24), .int (iI (if k < 4 then a else if k < 8 then b_ else if k < 12 then c else if k < 16 then d else e)), .int (iI (len + k)), .ref 531]) rfl ?_
            refine T_p xr_201_90 xn_201 (pc' := 92) (ls' := [(7, .int (iI (if k < 4 then a else if k < 8 then b_ else if k < 12 then c else if k < 16 then d else e))), (6, .int (iI k)), (5, .int (iI e)), (4, .int (iI d)), (3, .int (iI c)), (2, .int (iI b_)), (1, .int (iI a)), (0, .ref 530)]) (st' := [.int (iI k), .int (iI 8), .int (iI 24), .int (iI (if k < 4 then a else if k < 8 then b_ else if k < 12 then c else if k < 16 then d else e)), .int (iI (len + k)), .ref 531]) rfl ?_
            refine T_p xr_201_92 xn_201 (pc' := 93) (ls' := [(7, .int (iI (if k < 4 then a else if k < 8 then b_ else if k < 12 then c else if k < 16 then d else e))), (6, .int (iI k)), (5, .int (iI e)), (4, .int (iI d)), (3, .int (iI c)), (2, .int (iI b_)), (1, .int (iI a)), (0, .ref 530)]) (st' := [.int (iI 3), .int (iI k), .int (iI 8), .int (iI 24), .int (iI (if k < 4 then a else if k < 8 then b_ else if k < 12 then c else if k < 16 then d else e)), .int (iI (len + k)), .ref 531]) rfl ?_
            refine T_zop xr_201_93 (pc' := 94) rfl (z := (iI k &&& iI 3).toInt) (iI_of _) ?_
            refine T_zimul xr_201_94 (z := 8 * ((iI k &&& iI 3).toInt)) rfl (pc' := 95) rfl ?_
            refine T_zisub xr_201_95 (z := 24 - (8 * ((iI k &&& iI 3).toInt))) rfl (pc' := 96) rfl ?_
            refine T_zop xr_201_96 (pc' := 97) rfl (z := (iI (if k < 4 then a else if k < 8 then b_ else if k < 12 then c else if k < 16 then d else e) >>> (iI (24 - (8 * ((iI k &&& iI 3).toInt))) &&& 31)).toInt) (iI_of _) ?_
            refine T_zop xr_201_97 (pc' := 98) rfl (z := ((iI ((iI (if k < 4 then a else if k < 8 then b_ else if k < 12 then c else if k < 16 then d else e) >>> (iI (24 - (8 * ((iI k &&& iI 3).toInt))) &&& 31)).toInt)).toInt8.toInt32).toInt) (iI_of _) ?_
            refine T_ie (y := iI (X_fb2 a b_ c d e k)) (by
                  have h4 : (iI k &&& iI 3).toInt = k % 4 := by
                    rcases (show k = 0 ∨ k = 1 ∨ k = 2 ∨ k = 3 ∨ k = 4 ∨ k = 5 ∨ k = 6 ∨ k = 7 ∨ k = 8 ∨ k = 9 ∨ k = 10 ∨ k = 11 ∨ k = 12 ∨ k = 13 ∨ k = 14 ∨ k = 15 ∨ k = 16 ∨ k = 17 ∨ k = 18 ∨ k = 19 by omega) with h | h | h | h | h | h | h | h | h | h | h | h | h | h | h | h | h | h | h | h <;> subst h <;> decide
                  rw [h4]; rfl) ?_
            refine T_zbast xr_201_98 htq (pc' := 99) rfl (fun S2284 h2285 n2286 e2287 => ?_)
            refine T_ziinc xr_201_99 xn_201 (a := k) (z := k + 1) rfl (Nat.le_of_ble_eq_true rfl) (by omega) (ls' := [(6, .int (iI (k + 1))), (7, .int (iI (if k < 4 then a else if k < 8 then b_ else if k < 12 then c else if k < 16 then d else e))), (5, .int (iI e)), (4, .int (iI d)), (3, .int (iI c)), (2, .int (iI b_)), (1, .int (iI a)), (0, .ref 530)]) rfl (pc' := 102) rfl ?_
            refine T_p xr_201_102 xn_201 (pc' := 18) (ls' := [(6, .int (iI (k + 1))), (7, .int (iI (if k < 4 then a else if k < 8 then b_ else if k < 12 then c else if k < 16 then d else e))), (5, .int (iI e)), (4, .int (iI d)), (3, .int (iI c)), (2, .int (iI b_)), (1, .int (iI a)), (0, .ref 530)]) (st' := []) rfl ?_
            refine T_sub (ls := [(6, .int (iI (k + 1))), (5, .int (iI e)), (4, .int (iI d)), (3, .int (iI c)), (2, .int (iI b_)), (1, .int (iI a)), (0, .ref 530)]) ⟨rfl, rfl, rfl, rfl, rfl, rfl, rfl, trivial⟩ rfl rfl ?_
            exact ih2270 S2284 (k + 1) (X_ug tq (len + k) (X_by (X_fb2 a b_ c d e k))) h2285 (hF2273.tr ((X_Fr.rf).tr (X_Fr.of n2286 e2287 (by first | decide | exact ⟨Nat.le_add_right _ _, Nat.add_le_add_left (by decide) _⟩ | omega)))) (by omega) (fun q h1 h2 => by rw [X_ug_n _ _ (by omega)]; exact ho q h1 h2) (fun m h1 h2 => by
                  by_cases hm : m = k
                  · rw [hm, X_ug_s]; exact X_fb2_b
                  · rw [X_ug_n _ _ (by omega)]; exact hi m h1 (by omega)) (by omega)
          refine T_p xr_201_25 xn_201 (pc' := 27) (ls' := [(6, .int (iI k)), (5, .int (iI e)), (4, .int (iI d)), (3, .int (iI c)), (2, .int (iI b_)), (1, .int (iI a)), (0, .ref 530)]) (st' := [.int (iI k)]) rfl ?_
          refine T_p xr_201_27 xn_201 (pc' := 28) (ls' := [(6, .int (iI k)), (5, .int (iI e)), (4, .int (iI d)), (3, .int (iI c)), (2, .int (iI b_)), (1, .int (iI a)), (0, .ref 530)]) (st' := [.int (iI 4), .int (iI k)]) rfl ?_
          refine T_zicmp_ge xr_201_28 (t := 35) (pc' := 31) rfl rfl (fun c2288 => ?_) (fun c2288 => ?_)
          · skip
            have c2288 : 4 ≤ k := c2288
            refine T_p xr_201_35 xn_201 (pc' := 37) (ls' := [(6, .int (iI k)), (5, .int (iI e)), (4, .int (iI d)), (3, .int (iI c)), (2, .int (iI b_)), (1, .int (iI a)), (0, .ref 530)]) (st' := [.int (iI k)]) rfl ?_
            refine T_p xr_201_37 xn_201 (pc' := 39) (ls' := [(6, .int (iI k)), (5, .int (iI e)), (4, .int (iI d)), (3, .int (iI c)), (2, .int (iI b_)), (1, .int (iI a)), (0, .ref 530)]) (st' := [.int (iI 8), .int (iI k)]) rfl ?_
            refine T_zicmp_ge xr_201_39 (t := 46) (pc' := 42) rfl rfl (fun c2289 => ?_) (fun c2289 => ?_)
            · skip
              have c2289 : 8 ≤ k := c2289
              refine T_p xr_201_46 xn_201 (pc' := 48) (ls' := [(6, .int (iI k)), (5, .int (iI e)), (4, .int (iI d)), (3, .int (iI c)), (2, .int (iI b_)), (1, .int (iI a)), (0, .ref 530)]) (st' := [.int (iI k)]) rfl ?_
              refine T_p xr_201_48 xn_201 (pc' := 50) (ls' := [(6, .int (iI k)), (5, .int (iI e)), (4, .int (iI d)), (3, .int (iI c)), (2, .int (iI b_)), (1, .int (iI a)), (0, .ref 530)]) (st' := [.int (iI 12), .int (iI k)]) rfl ?_
              refine T_zicmp_ge xr_201_50 (t := 57) (pc' := 53) rfl rfl (fun c2290 => ?_) (fun c2290 => ?_)
              · skip
                have c2290 : 12 ≤ k := c2290
                refine T_p xr_201_57 xn_201 (pc' := 59) (ls' := [(6, .int (iI k)), (5, .int (iI e)), (4, .int (iI d)), (3, .int (iI c)), (2, .int (iI b_)), (1, .int (iI a)), (0, .ref 530)]) (st' := [.int (iI k)]) rfl ?_
                refine T_p xr_201_59 xn_201 (pc' := 61) (ls' := [(6, .int (iI k)), (5, .int (iI e)), (4, .int (iI d)), (3, .int (iI c)), (2, .int (iI b_)), (1, .int (iI a)), (0, .ref 530)]) (st' := [.int (iI 16), .int (iI k)]) rfl ?_
                refine T_zicmp_ge xr_201_61 (t := 69) (pc' := 64) rfl rfl (fun c2291 => ?_) (fun c2291 => ?_)
                · skip
                  have c2291 : 16 ≤ k := c2291
                  refine T_p xr_201_69 xn_201 (pc' := 71) (ls' := [(6, .int (iI k)), (5, .int (iI e)), (4, .int (iI d)), (3, .int (iI c)), (2, .int (iI b_)), (1, .int (iI a)), (0, .ref 530)]) (st' := [.int (iI e)]) rfl ?_
                  refine T_ie (y := iI (if k < 4 then a else if k < 8 then b_ else if k < 12 then c else if k < 16 then d else e)) (by refine congrArg iI (Eq.symm ?_); (repeat (first | rw [if_pos (by omega)] | rw [if_neg (by omega)]))) ?_
                  exact J2282
                · skip
                  have c2291 : ¬ (16 ≤ k) := c2291
                  refine T_p xr_201_64 xn_201 (pc' := 66) (ls' := [(6, .int (iI k)), (5, .int (iI e)), (4, .int (iI d)), (3, .int (iI c)), (2, .int (iI b_)), (1, .int (iI a)), (0, .ref 530)]) (st' := [.int (iI d)]) rfl ?_
                  refine T_p xr_201_66 xn_201 (pc' := 71) (ls' := [(6, .int (iI k)), (5, .int (iI e)), (4, .int (iI d)), (3, .int (iI c)), (2, .int (iI b_)), (1, .int (iI a)), (0, .ref 530)]) (st' := [.int (iI d)]) rfl ?_
                  refine T_ie (y := iI (if k < 4 then a else if k < 8 then b_ else if k < 12 then c else if k < 16 then d else e)) (by refine congrArg iI (Eq.symm ?_); (repeat (first | rw [if_pos (by omega)] | rw [if_neg (by omega)]))) ?_
                  exact J2282
              · skip
                have c2290 : ¬ (12 ≤ k) := c2290
                refine T_p xr_201_53 xn_201 (pc' := 54) (ls' := [(6, .int (iI k)), (5, .int (iI e)), (4, .int (iI d)), (3, .int (iI c)), (2, .int (iI b_)), (1, .int (iI a)), (0, .ref 530)]) (st' := [.int (iI c)]) rfl ?_
                refine T_p xr_201_54 xn_201 (pc' := 71) (ls' := [(6, .int (iI k)), (5, .int (iI e)), (4, .int (iI d)), (3, .int (iI c)), (2, .int (iI b_)), (1, .int (iI a)), (0, .ref 530)]) (st' := [.int (iI c)]) rfl ?_
                refine T_ie (y := iI (if k < 4 then a else if k < 8 then b_ else if k < 12 then c else if k < 16 then d else e)) (by refine congrArg iI (Eq.symm ?_); (repeat (first | rw [if_pos (by omega)] | rw [if_neg (by omega)]))) ?_
                exact J2282
            · skip
              have c2289 : ¬ (8 ≤ k) := c2289
              refine T_p xr_201_42 xn_201 (pc' := 43) (ls' := [(6, .int (iI k)), (5, .int (iI e)), (4, .int (iI d)), (3, .int (iI c)), (2, .int (iI b_)), (1, .int (iI a)), (0, .ref 530)]) (st' := [.int (iI b_)]) rfl ?_
              refine T_p xr_201_43 xn_201 (pc' := 71) (ls' := [(6, .int (iI k)), (5, .int (iI e)), (4, .int (iI d)), (3, .int (iI c)), (2, .int (iI b_)), (1, .int (iI a)), (0, .ref 530)]) (st' := [.int (iI b_)]) rfl ?_
              refine T_ie (y := iI (if k < 4 then a else if k < 8 then b_ else if k < 12 then c else if k < 16 then d else e)) (by refine congrArg iI (Eq.symm ?_); (repeat (first | rw [if_pos (by omega)] | rw [if_neg (by omega)]))) ?_
              exact J2282
          · skip
            have c2288 : ¬ (4 ≤ k) := c2288
            refine T_p xr_201_31 xn_201 (pc' := 32) (ls' := [(6, .int (iI k)), (5, .int (iI e)), (4, .int (iI d)), (3, .int (iI c)), (2, .int (iI b_)), (1, .int (iI a)), (0, .ref 530)]) (st' := [.int (iI a)]) rfl ?_
            refine T_p xr_201_32 xn_201 (pc' := 71) (ls' := [(6, .int (iI k)), (5, .int (iI e)), (4, .int (iI d)), (3, .int (iI c)), (2, .int (iI b_)), (1, .int (iI a)), (0, .ref 530)]) (st' := [.int (iI a)]) rfl ?_
            refine T_ie (y := iI (if k < 4 then a else if k < 8 then b_ else if k < 12 then c else if k < 16 then d else e)) (by refine congrArg iI (Eq.symm ?_); (repeat (first | rw [if_pos (by omega)] | rw [if_neg (by omega)]))) ?_
            exact J2282
    refine T_sub (ls := [(6, .int (iI 0)), (5, .int (iI e)), (4, .int (iI d)), (3, .int (iI c)), (2, .int (iI b_)), (1, .int (iI a)), (0, .ref 530)]) ⟨rfl, rfl, rfl, rfl, rfl, rfl, rfl, trivial⟩ rfl rfl ?_
    exact L2269 ((20 : Int) + 1).toNat S 0 tp hA531 ((X_Fr.rf)) (by omega) (fun q h1 h2 => rfl) (fun m h1 h2 => absurd h2 (by omega)) (by omega)
  · skip
    have c2268 : ¬ ((len + 20) ≤ 2000) := c2268
    refine T_p xr_201_13 xn_201 (pc' := 14) (ls' := [(0, .ref 530), (1, .int (iI a)), (2, .int (iI b_)), (3, .int (iI c)), (4, .int (iI d)), (5, .int (iI e))]) (st' := [.int (iI (-1))]) rfl ?_
    refine T_iret xr_201_14 xf_201.2.2 rfl ?_
    refine hQ _ _ ?_
    exact Or.inl ⟨rfl, (by omega), rfl⟩
theorem r_end (sc : X_Sc) (S : X_S) (o : Nat → Int) (nm : Int64) (b : Int) (rc : Int) (G : X_G) (tn : Int) (len : Int) (n : Int) (hO530 : S.1 530 = .inr (11, [.ref 531, .int (iI len), .ref 532, .int (iI (o 3)), .int (iI b), .int (iI (o 5)), .int (iI (o 6)), .int (iI (o 7)), .int (iI (o 8)), .int (iI (o 9)), .int (iI (o 10)), .int (iI (o 11)), .long nm, .ref 533, .ref 534, .ref 535, .ref 536, .ref 537, .ref 538, .ref 539, .ref 540, .ref 541, .ref 542, .ref 543, .ref 544, .ref 545, .ref 546, .ref 547, .int (iI rc), .int (iI (gk G)), .int (iI (gw G)), .int (iI (o 31)), .int (iI (o 32)), .int (iI (o 33)), .ref 548, .ref 549, .ref 550, .ref 551, .int (iI tn), .ref 552, .ref 553, .ref 554, .ref 555, .ref 556, .ref 557, .ref 558, .ref 559, .ref 560, .ref 561, .int (iI (o 49)), .ref 562, .ref 563, .ref 564, .ref 565, .ref 566, .ref 567, .ref 568, .ref 569, .int (iI (o 58)), .ref 570, .ref 571, .ref 572, .ref 573, .ref 574, .ref 575, .ref 576, .ref 577, .ref 578, .int (iI (o 68)), .int (iI (o 69)), .int (iI (o 70)), .ref 579])) (hl : 0 ≤ len ∧ len ≤ 2000) (hn : -2147483648 ≤ n ∧ n ≤ 2147483647) : X_T sc 202 (0, [(0, .ref 530), (1, .int (iI n))], [], S) (fun v S' => (v = some (.int (iI (-1))) ∧ (n < 0 ∨ len < n) ∧ S' = S) ∨ (v = some (.int (iI n)) ∧ (0 ≤ n ∧ n ≤ len) ∧ S'.1 530 = .inr (11, [.ref 531, .int (iI n), .ref 532, .int (iI (o 3)), .int (iI b), .int (iI (o 5)), .int (iI (o 6)), .int (iI (o 7)), .int (iI (o 8)), .int (iI (o 9)), .int (iI (o 10)), .int (iI (o 11)), .long nm, .ref 533, .ref 534, .ref 535, .ref 536, .ref 537, .ref 538, .ref 539, .ref 540, .ref 541, .ref 542, .ref 543, .ref 544, .ref 545, .ref 546, .ref 547, .int (iI rc), .int (iI (gk G)), .int (iI (gw G)), .int (iI (o 31)), .int (iI (o 32)), .int (iI (o 33)), .ref 548, .ref 549, .ref 550, .ref 551, .int (iI tn), .ref 552, .ref 553, .ref 554, .ref 555, .ref 556, .ref 557, .ref 558, .ref 559, .ref 560, .ref 561, .int (iI (o 49)), .ref 562, .ref 563, .ref 564, .ref 565, .ref 566, .ref 567, .ref 568, .ref 569, .int (iI (o 58)), .ref 570, .ref 571, .ref 572, .ref 573, .ref 574, .ref 575, .ref 576, .ref 577, .ref 578, .int (iI (o 68)), .int (iI (o 69)), .int (iI (o 70)), .ref 579]) ∧ X_Fr (fun q => q = 530) S S')) := by
  refine X_QI (fun Q hQ => ?_)
  refine T_p xr_202_0 xn_202 (pc' := 1) (ls' := [(0, .ref 530), (1, .int (iI n))]) (st' := [.int (iI n)]) rfl ?_
  refine T_zif_lt xr_202_1 (t := 12) (pc' := 4) rfl rfl (fun c2292 => ?_) (fun c2292 => ?_)
  · skip
    have c2292 : n < 0 := c2292
    refine T_p xr_202_12 xn_202 (pc' := 13) (ls' := [(0, .ref 530), (1, .int (iI n))]) (st' := [.int (iI (-1))]) rfl ?_
    refine T_iret xr_202_13 xf_202.2.2 rfl ?_
    refine hQ _ _ ?_
    exact Or.inl ⟨rfl, (by omega), rfl⟩
  · skip
    have c2292 : ¬ (n < 0) := c2292
    refine T_p xr_202_4 xn_202 (pc' := 5) (ls' := [(0, .ref 530), (1, .int (iI n))]) (st' := [.int (iI n)]) rfl ?_
    refine T_p xr_202_5 xn_202 (pc' := 6) (ls' := [(0, .ref 530), (1, .int (iI n))]) (st' := [.ref 530, .int (iI n)]) rfl ?_
    refine T_get xr_202_6 hO530 rfl (v := .int (iI len)) rfl (pc' := 9) rfl ?_
    refine T_zicmp_le xr_202_9 (t := 14) (pc' := 12) rfl rfl (fun c2293 => ?_) (fun c2293 => ?_)
    · skip
      have c2293 : n ≤ len := c2293
      refine T_p xr_202_14 xn_202 (pc' := 15) (ls' := [(0, .ref 530), (1, .int (iI n))]) (st' := [.ref 530]) rfl ?_
      refine T_p xr_202_15 xn_202 (pc' := 16) (ls' := [(0, .ref 530), (1, .int (iI n))]) (st' := [.int (iI n), .ref 530]) rfl ?_
      refine T_put xr_202_16 hO530 rfl (Nat.le_of_ble_eq_true rfl) rfl (fs' := [.ref 531, .int (iI n), .ref 532, .int (iI (o 3)), .int (iI b), .int (iI (o 5)), .int (iI (o 6)), .int (iI (o 7)), .int (iI (o 8)), .int (iI (o 9)), .int (iI (o 10)), .int (iI (o 11)), .long nm, .ref 533, .ref 534, .ref 535, .ref 536, .ref 537, .ref 538, .ref 539, .ref 540, .ref 541, .ref 542, .ref 543, .ref 544, .ref 545, .ref 546, .ref 547, .int (iI rc), .int (iI (gk G)), .int (iI (gw G)), .int (iI (o 31)), .int (iI (o 32)), .int (iI (o 33)), .ref 548, .ref 549, .ref 550, .ref 551, .int (iI tn), .ref 552, .ref 553, .ref 554, .ref 555, .ref 556, .ref 557, .ref 558, .ref 559, .ref 560, .ref 561, .int (iI (o 49)), .ref 562, .ref 563, .ref 564, .ref 565, .ref 566, .ref 567, .ref 568, .ref 569, .int (iI (o 58)), .ref 570, .ref 571, .ref 572, .ref 573, .ref 574, .ref 575, .ref 576, .ref 577, .ref 578, .int (iI (o 68)), .int (iI (o 69)), .int (iI (o 70)), .ref 579]) rfl (pc' := 19) rfl (fun S2294 h2295 n2296 e2297 => ?_)
      refine T_p xr_202_19 xn_202 (pc' := 20) (ls' := [(0, .ref 530), (1, .int (iI n))]) (st' := [.int (iI n)]) rfl ?_
      refine T_iret xr_202_20 xf_202.2.2 rfl ?_
      refine hQ _ _ ?_
      exact Or.inr ⟨rfl, (by omega), h2295, (X_Fr.rf).tr (X_Fr.of n2296 e2297 (by first | decide | exact ⟨Nat.le_add_right _ _, Nat.add_le_add_left (by decide) _⟩ | omega))⟩
    · skip
      have c2293 : ¬ (n ≤ len) := c2293
      refine T_p xr_202_12 xn_202 (pc' := 13) (ls' := [(0, .ref 530), (1, .int (iI n))]) (st' := [.int (iI (-1))]) rfl ?_
      refine T_iret xr_202_13 xf_202.2.2 rfl ?_
      refine hQ _ _ ?_
      exact Or.inl ⟨rfl, (by omega), rfl⟩
theorem r_fault (sc : X_Sc) (S : X_S) (o : Nat → Int) (nm : Int64) (b : Int) (rc : Int) (G : X_G) (tn : Int) (w : Int) (hO530 : S.1 530 = .inr (11, [.ref 531, .int (iI (o 1)), .ref 532, .int (iI (o 3)), .int (iI b), .int (iI (o 5)), .int (iI (o 6)), .int (iI (o 7)), .int (iI (o 8)), .int (iI (o 9)), .int (iI (o 10)), .int (iI (o 11)), .long nm, .ref 533, .ref 534, .ref 535, .ref 536, .ref 537, .ref 538, .ref 539, .ref 540, .ref 541, .ref 542, .ref 543, .ref 544, .ref 545, .ref 546, .ref 547, .int (iI rc), .int (iI (gk G)), .int (iI (gw G)), .int (iI (o 31)), .int (iI (o 32)), .int (iI (o 33)), .ref 548, .ref 549, .ref 550, .ref 551, .int (iI tn), .ref 552, .ref 553, .ref 554, .ref 555, .ref 556, .ref 557, .ref 558, .ref 559, .ref 560, .ref 561, .int (iI (o 49)), .ref 562, .ref 563, .ref 564, .ref 565, .ref 566, .ref 567, .ref 568, .ref 569, .int (iI (o 58)), .ref 570, .ref 571, .ref 572, .ref 573, .ref 574, .ref 575, .ref 576, .ref 577, .ref 578, .int (iI (o 68)), .int (iI (o 69)), .int (iI (o 70)), .ref 579])) (hw : -2147483648 ≤ w ∧ w ≤ 2147483647) : X_T sc 163 (0, [(0, .ref 530), (1, .int (iI w))], [], S) (fun v S' => ∃ (r : Int), v = some (.int (iI r)) ∧ S' = S) := by
  refine X_QI (fun Q hQ => ?_)
  refine T_p xr_163_0 xn_163 (pc' := 1) (ls' := [(0, .ref 530), (1, .int (iI w))]) (st' := [.int (iI w)]) rfl ?_
  refine T_zif_ne xr_163_1 (t := 11) (pc' := 4) rfl rfl (fun c2298 => ?_) (fun c2298 => ?_)
  · skip
    have c2298 : ¬ w = 0 := c2298
    refine T_p xr_163_11 xn_163 (pc' := 12) (ls' := [(0, .ref 530), (1, .int (iI w))]) (st' := [.int (iI w)]) rfl ?_
    refine T_p xr_163_12 xn_163 (pc' := 13) (ls' := [(0, .ref 530), (1, .int (iI w))]) (st' := [.int (iI 1), .int (iI w)]) rfl ?_
    refine T_zicmp_ne xr_163_13 (t := 23) (pc' := 16) rfl rfl (fun c2299 => ?_) (fun c2299 => ?_)
    · skip
      have c2299 : ¬ w = 1 := c2299
      refine T_p xr_163_23 xn_163 (pc' := 24) (ls' := [(0, .ref 530), (1, .int (iI w))]) (st' := [.int (iI (-1))]) rfl ?_
      refine T_iret xr_163_24 xf_163.2.2 rfl ?_
      refine hQ _ _ ?_
      exact ⟨(-1), rfl, rfl⟩
    · skip
      have c2299 : ¬ (¬ w = 1) := c2299
      refine T_p xr_163_16 xn_163 (pc' := 17) (ls' := [(0, .ref 530), (1, .int (iI w))]) (st' := [.ref 530]) rfl ?_
      refine T_get xr_163_17 hO530 rfl (v := .int (iI (o 6))) rfl (pc' := 20) rfl ?_
      refine T_p xr_163_20 xn_163 (pc' := 24) (ls' := [(0, .ref 530), (1, .int (iI w))]) (st' := [.int (iI (o 6))]) rfl ?_
      refine T_iret xr_163_24 xf_163.2.2 rfl ?_
      refine hQ _ _ ?_
      exact ⟨o 6, rfl, rfl⟩
  · skip
    have c2298 : ¬ (¬ w = 0) := c2298
    refine T_p xr_163_4 xn_163 (pc' := 5) (ls' := [(0, .ref 530), (1, .int (iI w))]) (st' := [.ref 530]) rfl ?_
    refine T_get xr_163_5 hO530 rfl (v := .int (iI (o 5))) rfl (pc' := 8) rfl ?_
    refine T_p xr_163_8 xn_163 (pc' := 24) (ls' := [(0, .ref 530), (1, .int (iI w))]) (st' := [.int (iI (o 5))]) rfl ?_
    refine T_iret xr_163_24 xf_163.2.2 rfl ?_
    refine hQ _ _ ?_
    exact ⟨o 5, rfl, rfl⟩
theorem r_about (sc : X_Sc) (S : X_S) (o : Nat → Int) (nm : Int64) (b : Int) (rc : Int) (G : X_G) (tn : Int) (nc : Int) (len : Int) (w : Int) (hO530 : S.1 530 = .inr (11, [.ref 531, .int (iI len), .ref 532, .int (iI (o 3)), .int (iI b), .int (iI (o 5)), .int (iI (o 6)), .int (iI (o 7)), .int (iI (o 8)), .int (iI (o 9)), .int (iI (o 10)), .int (iI (o 11)), .long nm, .ref 533, .ref 534, .ref 535, .ref 536, .ref 537, .ref 538, .ref 539, .ref 540, .ref 541, .ref 542, .ref 543, .ref 544, .ref 545, .ref 546, .ref 547, .int (iI rc), .int (iI (gk G)), .int (iI (gw G)), .int (iI (o 31)), .int (iI (o 32)), .int (iI (o 33)), .ref 548, .ref 549, .ref 550, .ref 551, .int (iI tn), .ref 552, .ref 553, .ref 554, .ref 555, .ref 556, .ref 557, .ref 558, .ref 559, .ref 560, .ref 561, .int (iI nc), .ref 562, .ref 563, .ref 564, .ref 565, .ref 566, .ref 567, .ref 568, .ref 569, .int (iI (o 58)), .ref 570, .ref 571, .ref 572, .ref 573, .ref 574, .ref 575, .ref 576, .ref 577, .ref 578, .int (iI (o 68)), .int (iI (o 69)), .int (iI (o 70)), .ref 579])) (hw : -2147483648 ≤ w ∧ w ≤ 2147483647) : X_T sc 164 (0, [(0, .ref 530), (1, .int (iI w))], [], S) (fun v S' => v = some (.int (iI (X_qAb rc (gk G) (gw G) tn nc len w))) ∧ S' = S) := by
  refine X_QI (fun Q hQ => ?_)
  refine T_p xr_164_0 xn_164 (pc' := 1) (ls' := [(0, .ref 530), (1, .int (iI w))]) (st' := [.int (iI w)]) rfl ?_
  rcases (show w = 0 ∨ w = 1 ∨ w = 2 ∨ w = 3 ∨ w = 4 ∨ w = 5 ∨ (w < 0 ∨ 5 < w) by omega) with cs2300 | cs2300 | cs2300 | cs2300 | cs2300 | cs2300 | cs2300
  · skip
    refine T_tsk xr_164_1 cs2300 (by decide) (by decide) (off := 39) rfl (t := 40) rfl ?_
    refine T_p xr_164_40 xn_164 (pc' := 41) (ls' := [(0, .ref 530), (1, .int (iI w))]) (st' := [.ref 530]) rfl ?_
    refine T_get xr_164_41 hO530 rfl (v := .int (iI rc)) rfl (pc' := 44) rfl ?_
    refine T_iret xr_164_44 xf_164.2.2 rfl ?_
    refine hQ _ _ ?_
    exact ⟨(by rw [show X_qAb rc (gk G) (gw G) tn nc len w = rc from by unfold X_qAb; (repeat (first | rw [if_pos (by omega)] | rw [if_neg (by omega)]))]), rfl⟩
  · skip
    refine T_tsk xr_164_1 cs2300 (by decide) (by decide) (off := 44) rfl (t := 45) rfl ?_
    refine T_p xr_164_45 xn_164 (pc' := 46) (ls' := [(0, .ref 530), (1, .int (iI w))]) (st' := [.ref 530]) rfl ?_
    refine T_get xr_164_46 hO530 rfl (v := .int (iI (gk G))) rfl (pc' := 49) rfl ?_
    refine T_iret xr_164_49 xf_164.2.2 rfl ?_
    refine hQ _ _ ?_
    exact ⟨(by rw [show X_qAb rc (gk G) (gw G) tn nc len w = gk G from by unfold X_qAb; (repeat (first | rw [if_pos (by omega)] | rw [if_neg (by omega)]))]), rfl⟩
  · skip
    refine T_tsk xr_164_1 cs2300 (by decide) (by decide) (off := 49) rfl (t := 50) rfl ?_
    refine T_p xr_164_50 xn_164 (pc' := 51) (ls' := [(0, .ref 530), (1, .int (iI w))]) (st' := [.ref 530]) rfl ?_
    refine T_get xr_164_51 hO530 rfl (v := .int (iI (gw G))) rfl (pc' := 54) rfl ?_
    refine T_iret xr_164_54 xf_164.2.2 rfl ?_
    refine hQ _ _ ?_
    exact ⟨(by rw [show X_qAb rc (gk G) (gw G) tn nc len w = gw G from by unfold X_qAb; (repeat (first | rw [if_pos (by omega)] | rw [if_neg (by omega)]))]), rfl⟩
  · skip
    refine T_tsk xr_164_1 cs2300 (by decide) (by decide) (off := 54) rfl (t := 55) rfl ?_
    refine T_p xr_164_55 xn_164 (pc' := 56) (ls' := [(0, .ref 530), (1, .int (iI w))]) (st' := [.ref 530]) rfl ?_
    refine T_get xr_164_56 hO530 rfl (v := .int (iI tn)) rfl (pc' := 59) rfl ?_
    refine T_iret xr_164_59 xf_164.2.2 rfl ?_
    refine hQ _ _ ?_
    exact ⟨(by rw [show X_qAb rc (gk G) (gw G) tn nc len w = tn from by unfold X_qAb; (repeat (first | rw [if_pos (by omega)] | rw [if_neg (by omega)]))]), rfl⟩
  · skip
    refine T_tsk xr_164_1 cs2300 (by decide) (by decide) (off := 59) rfl (t := 60) rfl ?_
    refine T_p xr_164_60 xn_164 (pc' := 61) (ls' := [(0, .ref 530), (1, .int (iI w))]) (st' := [.ref 530]) rfl ?_
    refine T_get xr_164_61 hO530 rfl (v := .int (iI nc)) rfl (pc' := 64) rfl ?_
    refine T_iret xr_164_64 xf_164.2.2 rfl ?_
    refine hQ _ _ ?_
    exact ⟨(by rw [show X_qAb rc (gk G) (gw G) tn nc len w = nc from by unfold X_qAb; (repeat (first | rw [if_pos (by omega)] | rw [if_neg (by omega)]))]), rfl⟩
  · skip
    refine T_tsk xr_164_1 cs2300 (by decide) (by decide) (off := 64) rfl (t := 65) rfl ?_
    refine T_p xr_164_65 xn_164 (pc' := 66) (ls' := [(0, .ref 530), (1, .int (iI w))]) (st' := [.ref 530]) rfl ?_
    refine T_get xr_164_66 hO530 rfl (v := .int (iI len)) rfl (pc' := 69) rfl ?_
    refine T_iret xr_164_69 xf_164.2.2 rfl ?_
    refine hQ _ _ ?_
    exact ⟨(by rw [show X_qAb rc (gk G) (gw G) tn nc len w = len from by unfold X_qAb; (repeat (first | rw [if_pos (by omega)] | rw [if_neg (by omega)]))]), rfl⟩
  · skip
    refine T_tsd xr_164_1 cs2300 (by omega) (t := 70) rfl ?_
    refine T_p xr_164_70 xn_164 (pc' := 71) (ls' := [(0, .ref 530), (1, .int (iI w))]) (st' := [.int (iI (-1))]) rfl ?_
    refine T_iret xr_164_71 xf_164.2.2 rfl ?_
    refine hQ _ _ ?_
    exact ⟨(by rw [show X_qAb rc (gk G) (gw G) tn nc len w = (-1) from by unfold X_qAb; (repeat (first | rw [if_pos (by omega)] | rw [if_neg (by omega)]))]), rfl⟩
theorem r_word (sc : X_Sc) (S : X_S) (wR : Int → Int) (wL : Int → Int) (wK : Int → Int) (wM : Int → Int) (wH : Int → Int) (wS : Int → Int) (eP : Int → Int64) (o : Nat → Int) (nm : Int64) (b : Int) (rc : Int) (G : X_G) (tn : Int) (w : Int) (wh : Int) (hO530 : S.1 530 = .inr (11, [.ref 531, .int (iI (o 1)), .ref 532, .int (iI (o 3)), .int (iI b), .int (iI (o 5)), .int (iI (o 6)), .int (iI (o 7)), .int (iI (o 8)), .int (iI (o 9)), .int (iI (o 10)), .int (iI (o 11)), .long nm, .ref 533, .ref 534, .ref 535, .ref 536, .ref 537, .ref 538, .ref 539, .ref 540, .ref 541, .ref 542, .ref 543, .ref 544, .ref 545, .ref 546, .ref 547, .int (iI rc), .int (iI (gk G)), .int (iI (gw G)), .int (iI (o 31)), .int (iI (o 32)), .int (iI (o 33)), .ref 548, .ref 549, .ref 550, .ref 551, .int (iI tn), .ref 552, .ref 553, .ref 554, .ref 555, .ref 556, .ref 557, .ref 558, .ref 559, .ref 560, .ref 561, .int (iI (o 49)), .ref 562, .ref 563, .ref 564, .ref 565, .ref 566, .ref 567, .ref 568, .ref 569, .int (iI (o 58)), .ref 570, .ref 571, .ref 572, .ref 573, .ref 574, .ref 575, .ref 576, .ref 577, .ref 578, .int (iI (o 68)), .int (iI (o 69)), .int (iI (o 70)), .ref 579])) (hA537 : S.1 537 = .inl (.int, 60, .inl fun k : Nat => iI (wR (k : Int)))) (hA538 : S.1 538 = .inl (.int, 60, .inl fun k : Nat => iI (wL (k : Int)))) (hA539 : S.1 539 = .inl (.int, 60, .inl fun k : Nat => iI (wK (k : Int)))) (hA540 : S.1 540 = .inl (.int, 60, .inl fun k : Nat => iI (wM (k : Int)))) (hA541 : S.1 541 = .inl (.int, 60, .inl fun k : Nat => iI (wH (k : Int)))) (hA542 : S.1 542 = .inl (.int, 60, .inl fun k : Nat => iI (wS (k : Int)))) (hA545 : S.1 545 = .inl (.long, 480, .inr (.inl fun k : Nat => eP (k : Int)))) (hbr : 0 ≤ b ∧ b ≤ 1) (hG : X_Gok G) (hWR : ∀ w, 0 ≤ w → w < gw G → wR (30 * b + w) = gD G w 0 0) (hWL : ∀ w, 0 ≤ w → w < gw G → wL (30 * b + w) = gD G w 1 0) (hWK : ∀ w, 0 ≤ w → w < gw G → wK (30 * b + w) = gD G w 2 0) (hWM : ∀ w, 0 ≤ w → w < gw G → wM (30 * b + w) = gD G w 3 0) (hWH : ∀ w, 0 ≤ w → w < gw G → wH (30 * b + w) = gD G w 4 0) (hWS : ∀ w, 0 ≤ w → w < gw G → wS (30 * b + w) = gD G w 5 0) (hEP : ∀ w, 0 ≤ w → w < gw G → ∀ e, 0 ≤ e → e < gD G w 3 0 → eP (8 * (30 * b + w) + e) = gW G w e) (hw : -2147483648 ≤ w ∧ w ≤ 2147483647) (hwh : -2147483648 ≤ wh ∧ wh ≤ 2147483647) : X_T sc 166 (0, [(0, .ref 530), (1, .int (iI w)), (2, .int (iI wh))], [], S) (fun v S' => v = some (.int (iI (X_qWd G w wh))) ∧ S' = S) := by
  have hc1 := hG.1
  refine X_QI (fun Q hQ => ?_)
  refine T_p xr_166_0 xn_166 (pc' := 1) (ls' := [(0, .ref 530), (1, .int (iI w)), (2, .int (iI wh))]) (st' := [.ref 530]) rfl ?_
  refine T_p xr_166_1 xn_166 (pc' := 2) (ls' := [(0, .ref 530), (1, .int (iI w)), (2, .int (iI wh))]) (st' := [.int (iI w), .ref 530]) rfl ?_
  refine T_cv (S := S) (q := 530) xr_166_2 xf_165.1 xf_165.2.1 xn_165 (as := [.int (iI w)]) (r := []) rfl hO530 (Nat.le_of_ble_eq_true rfl) (Nat.le_of_ble_eq_true rfl) (pc' := 5) rfl (ls' := [(0, .ref 530), (1, .int (iI w))]) rfl ?_
  refine T_p xr_165_0 xn_165 (pc' := 1) (ls' := [(0, .ref 530), (1, .int (iI w))]) (st' := [.int (iI w)]) rfl ?_
  refine T_zif_lt xr_165_1 (t := 16) (pc' := 4) rfl rfl (fun c2301 => ?_) (fun c2301 => ?_)
  · skip
    have c2301 : w < 0 := c2301
    refine T_p xr_165_16 xn_165 (pc' := 17) (ls' := [(0, .ref 530), (1, .int (iI w))]) (st' := [.int (iI 0)]) rfl ?_
    refine T_iret xr_165_17 xf_165.2.2 (by decide) ?_
    show X_T sc 166 (5, [(0, .ref 530), (1, .int (iI w)), (2, .int (iI wh))], [.int (iI 0)], S) _
    refine T_zif_nef xr_166_5 (t := 10) (pc' := 8) rfl rfl (by decide) ?_
    refine T_p xr_166_8 xn_166 (pc' := 9) (ls' := [(0, .ref 530), (1, .int (iI w)), (2, .int (iI wh))]) (st' := [.int (iI (-1))]) rfl ?_
    refine T_iret xr_166_9 xf_166.2.2 rfl ?_
    refine hQ _ _ ?_
    exact ⟨(by rw [show X_qWd G w wh = (-1) from by unfold X_qWd; (repeat (first | rw [if_pos (by omega)] | rw [if_neg (by omega)]))]), rfl⟩
  · skip
    have c2301 : ¬ (w < 0) := c2301
    refine T_p xr_165_4 xn_165 (pc' := 5) (ls' := [(0, .ref 530), (1, .int (iI w))]) (st' := [.int (iI w)]) rfl ?_
    refine T_p xr_165_5 xn_165 (pc' := 6) (ls' := [(0, .ref 530), (1, .int (iI w))]) (st' := [.ref 530, .int (iI w)]) rfl ?_
    refine T_get xr_165_6 hO530 rfl (v := .int (iI (gw G))) rfl (pc' := 9) rfl ?_
    refine T_zicmp_ge xr_165_9 (t := 16) (pc' := 12) rfl rfl (fun c2302 => ?_) (fun c2302 => ?_)
    · skip
      have c2302 : (gw G) ≤ w := c2302
      refine T_p xr_165_16 xn_165 (pc' := 17) (ls' := [(0, .ref 530), (1, .int (iI w))]) (st' := [.int (iI 0)]) rfl ?_
      refine T_iret xr_165_17 xf_165.2.2 (by decide) ?_
      show X_T sc 166 (5, [(0, .ref 530), (1, .int (iI w)), (2, .int (iI wh))], [.int (iI 0)], S) _
      refine T_zif_nef xr_166_5 (t := 10) (pc' := 8) rfl rfl (by decide) ?_
      refine T_p xr_166_8 xn_166 (pc' := 9) (ls' := [(0, .ref 530), (1, .int (iI w)), (2, .int (iI wh))]) (st' := [.int (iI (-1))]) rfl ?_
      refine T_iret xr_166_9 xf_166.2.2 rfl ?_
      refine hQ _ _ ?_
      exact ⟨(by rw [show X_qWd G w wh = (-1) from by unfold X_qWd; (repeat (first | rw [if_pos (by omega)] | rw [if_neg (by omega)]))]), rfl⟩
    · skip
      have c2302 : ¬ ((gw G) ≤ w) := c2302
      refine T_p xr_165_12 xn_165 (pc' := 13) (ls' := [(0, .ref 530), (1, .int (iI w))]) (st' := [.int (iI 1)]) rfl ?_
      refine T_p xr_165_13 xn_165 (pc' := 17) (ls' := [(0, .ref 530), (1, .int (iI w))]) (st' := [.int (iI 1)]) rfl ?_
      refine T_iret xr_165_17 xf_165.2.2 (by decide) ?_
      show X_T sc 166 (5, [(0, .ref 530), (1, .int (iI w)), (2, .int (iI wh))], [.int (iI 1)], S) _
      refine T_zif_net xr_166_5 (t := 10) rfl (by decide) ?_
      refine T_p xr_166_10 xn_166 (pc' := 12) (ls' := [(0, .ref 530), (1, .int (iI w)), (2, .int (iI wh))]) (st' := [.int (iI 30)]) rfl ?_
      refine T_p xr_166_12 xn_166 (pc' := 13) (ls' := [(0, .ref 530), (1, .int (iI w)), (2, .int (iI wh))]) (st' := [.ref 530, .int (iI 30)]) rfl ?_
      refine T_get xr_166_13 hO530 rfl (v := .int (iI b)) rfl (pc' := 16) rfl ?_
      refine T_zimul xr_166_16 (z := 30 * b) rfl (pc' := 17) rfl ?_
      refine T_p xr_166_17 xn_166 (pc' := 18) (ls' := [(0, .ref 530), (1, .int (iI w)), (2, .int (iI wh))]) (st' := [.int (iI w), .int (iI (30 * b))]) rfl ?_
      refine T_ziadd xr_166_18 (z := (30 * b) + w) rfl (pc' := 19) rfl ?_
      refine T_p xr_166_19 xn_166 (pc' := 20) (ls' := [(3, .int (iI ((30 * b) + w))), (0, .ref 530), (1, .int (iI w)), (2, .int (iI wh))]) (st' := []) rfl ?_
      refine T_p xr_166_20 xn_166 (pc' := 21) (ls' := [(3, .int (iI ((30 * b) + w))), (0, .ref 530), (1, .int (iI w)), (2, .int (iI wh))]) (st' := [.int (iI wh)]) rfl ?_
      rcases (show wh = 0 ∨ wh = 1 ∨ wh = 2 ∨ wh = 3 ∨ wh = 4 ∨ wh = 5 ∨ wh = 6 ∨ (wh < 0 ∨ 6 < wh) by omega) with cs2303 | cs2303 | cs2303 | cs2303 | cs2303 | cs2303 | cs2303 | cs2303
      · skip
        refine T_tsk xr_166_21 cs2303 (by decide) (by decide) (off := 43) rfl (t := 64) rfl ?_
        refine T_p xr_166_64 xn_166 (pc' := 65) (ls' := [(3, .int (iI ((30 * b) + w))), (0, .ref 530), (1, .int (iI w)), (2, .int (iI wh))]) (st' := [.ref 530]) rfl ?_
        refine T_get xr_166_65 hO530 rfl (v := .ref 537) rfl (pc' := 68) rfl ?_
        refine T_p xr_166_68 xn_166 (pc' := 69) (ls' := [(3, .int (iI ((30 * b) + w))), (0, .ref 530), (1, .int (iI w)), (2, .int (iI wh))]) (st' := [.int (iI ((30 * b) + w)), .ref 537]) rfl ?_
        refine T_ziald xr_166_69 hA537 (pc' := 70) rfl ?_
        refine T_ie (y := iI (gD G w 0 0)) (by rw [hWR w (by omega) (by omega)]) ?_
        refine T_iret xr_166_70 xf_166.2.2 rfl ?_
        refine hQ _ _ ?_
        exact ⟨(by rw [show X_qWd G w wh = gD G w 0 0 from by unfold X_qWd; (repeat (first | rw [if_pos (by omega)] | rw [if_neg (by omega)]))]), rfl⟩
      · skip
        refine T_tsk xr_166_21 cs2303 (by decide) (by decide) (off := 50) rfl (t := 71) rfl ?_
        refine T_p xr_166_71 xn_166 (pc' := 72) (ls' := [(3, .int (iI ((30 * b) + w))), (0, .ref 530), (1, .int (iI w)), (2, .int (iI wh))]) (st' := [.ref 530]) rfl ?_
        refine T_get xr_166_72 hO530 rfl (v := .ref 538) rfl (pc' := 75) rfl ?_
        refine T_p xr_166_75 xn_166 (pc' := 76) (ls' := [(3, .int (iI ((30 * b) + w))), (0, .ref 530), (1, .int (iI w)), (2, .int (iI wh))]) (st' := [.int (iI ((30 * b) + w)), .ref 538]) rfl ?_
        refine T_ziald xr_166_76 hA538 (pc' := 77) rfl ?_
        refine T_ie (y := iI (gD G w 1 0)) (by rw [hWL w (by omega) (by omega)]) ?_
        refine T_iret xr_166_77 xf_166.2.2 rfl ?_
        refine hQ _ _ ?_
        exact ⟨(by rw [show X_qWd G w wh = gD G w 1 0 from by unfold X_qWd; (repeat (first | rw [if_pos (by omega)] | rw [if_neg (by omega)]))]), rfl⟩
      · skip
        refine T_tsk xr_166_21 cs2303 (by decide) (by decide) (off := 57) rfl (t := 78) rfl ?_
        refine T_p xr_166_78 xn_166 (pc' := 79) (ls' := [(3, .int (iI ((30 * b) + w))), (0, .ref 530), (1, .int (iI w)), (2, .int (iI wh))]) (st' := [.ref 530]) rfl ?_
        refine T_get xr_166_79 hO530 rfl (v := .ref 539) rfl (pc' := 82) rfl ?_
        refine T_p xr_166_82 xn_166 (pc' := 83) (ls' := [(3, .int (iI ((30 * b) + w))), (0, .ref 530), (1, .int (iI w)), (2, .int (iI wh))]) (st' := [.int (iI ((30 * b) + w)), .ref 539]) rfl ?_
        refine T_ziald xr_166_83 hA539 (pc' := 84) rfl ?_
        refine T_ie (y := iI (gD G w 2 0)) (by rw [hWK w (by omega) (by omega)]) ?_
        refine T_iret xr_166_84 xf_166.2.2 rfl ?_
        refine hQ _ _ ?_
        exact ⟨(by rw [show X_qWd G w wh = gD G w 2 0 from by unfold X_qWd; (repeat (first | rw [if_pos (by omega)] | rw [if_neg (by omega)]))]), rfl⟩
      · skip
        refine T_tsk xr_166_21 cs2303 (by decide) (by decide) (off := 64) rfl (t := 85) rfl ?_
        refine T_p xr_166_85 xn_166 (pc' := 86) (ls' := [(3, .int (iI ((30 * b) + w))), (0, .ref 530), (1, .int (iI w)), (2, .int (iI wh))]) (st' := [.ref 530]) rfl ?_
        refine T_get xr_166_86 hO530 rfl (v := .ref 540) rfl (pc' := 89) rfl ?_
        refine T_p xr_166_89 xn_166 (pc' := 90) (ls' := [(3, .int (iI ((30 * b) + w))), (0, .ref 530), (1, .int (iI w)), (2, .int (iI wh))]) (st' := [.int (iI ((30 * b) + w)), .ref 540]) rfl ?_
        refine T_ziald xr_166_90 hA540 (pc' := 91) rfl ?_
        refine T_ie (y := iI (gD G w 3 0)) (by rw [hWM w (by omega) (by omega)]) ?_
        refine T_iret xr_166_91 xf_166.2.2 rfl ?_
        refine hQ _ _ ?_
        exact ⟨(by rw [show X_qWd G w wh = gD G w 3 0 from by unfold X_qWd; (repeat (first | rw [if_pos (by omega)] | rw [if_neg (by omega)]))]), rfl⟩
      · skip
        refine T_tsk xr_166_21 cs2303 (by decide) (by decide) (off := 71) rfl (t := 92) rfl ?_
        refine T_p xr_166_92 xn_166 (pc' := 93) (ls' := [(3, .int (iI ((30 * b) + w))), (0, .ref 530), (1, .int (iI w)), (2, .int (iI wh))]) (st' := [.ref 530]) rfl ?_
        refine T_get xr_166_93 hO530 rfl (v := .ref 541) rfl (pc' := 96) rfl ?_
        refine T_p xr_166_96 xn_166 (pc' := 97) (ls' := [(3, .int (iI ((30 * b) + w))), (0, .ref 530), (1, .int (iI w)), (2, .int (iI wh))]) (st' := [.int (iI ((30 * b) + w)), .ref 541]) rfl ?_
        refine T_ziald xr_166_97 hA541 (pc' := 98) rfl ?_
        refine T_ie (y := iI (gD G w 4 0)) (by rw [hWH w (by omega) (by omega)]) ?_
        refine T_iret xr_166_98 xf_166.2.2 rfl ?_
        refine hQ _ _ ?_
        exact ⟨(by rw [show X_qWd G w wh = gD G w 4 0 from by unfold X_qWd; (repeat (first | rw [if_pos (by omega)] | rw [if_neg (by omega)]))]), rfl⟩
      · skip
        refine T_tsk xr_166_21 cs2303 (by decide) (by decide) (off := 78) rfl (t := 99) rfl ?_
        refine T_p xr_166_99 xn_166 (pc' := 100) (ls' := [(3, .int (iI ((30 * b) + w))), (0, .ref 530), (1, .int (iI w)), (2, .int (iI wh))]) (st' := [.ref 530]) rfl ?_
        refine T_p xr_166_100 xn_166 (pc' := 101) (ls' := [(3, .int (iI ((30 * b) + w))), (0, .ref 530), (1, .int (iI w)), (2, .int (iI wh))]) (st' := [.int (iI ((30 * b) + w)), .ref 530]) rfl ?_
        refine T_cv (S := S) (q := 530) xr_166_101 xf_160.1 xf_160.2.1 xn_160 (as := [.int (iI ((30 * b) + w))]) (r := []) rfl hO530 (Nat.le_of_ble_eq_true rfl) (Nat.le_of_ble_eq_true rfl) (pc' := 104) rfl (ls' := [(0, .ref 530), (1, .int (iI ((30 * b) + w)))]) rfl ?_
        refine T_mono (r_ends2 sc S wM eP o nm b rc G tn w hO530 hA540 hA545 (by omega) hG hWM hEP (by omega)) (fun v2304 S2305 h2306 => ?_)
        rcases h2306 with ⟨hv2307, hf2308⟩
        rw [hv2307]
        rw [hf2308]
        have hen2309 := X_en_r (gD G w) (gW G w)
        show X_T sc 166 (104, [(3, .int (iI ((30 * b) + w))), (0, .ref 530), (1, .int (iI w)), (2, .int (iI wh))], [.int (iI (X_en (gD G w) (gW G w)))], S) _
        refine T_iret xr_166_104 xf_166.2.2 rfl ?_
        refine hQ _ _ ?_
        exact ⟨(by rw [show X_qWd G w wh = X_en (gD G w) (gW G w) from by unfold X_qWd; (repeat (first | rw [if_pos (by omega)] | rw [if_neg (by omega)]))]), rfl⟩
      · skip
        refine T_tsk xr_166_21 cs2303 (by decide) (by decide) (off := 84) rfl (t := 105) rfl ?_
        refine T_p xr_166_105 xn_166 (pc' := 106) (ls' := [(3, .int (iI ((30 * b) + w))), (0, .ref 530), (1, .int (iI w)), (2, .int (iI wh))]) (st' := [.ref 530]) rfl ?_
        refine T_get xr_166_106 hO530 rfl (v := .ref 542) rfl (pc' := 109) rfl ?_
        refine T_p xr_166_109 xn_166 (pc' := 110) (ls' := [(3, .int (iI ((30 * b) + w))), (0, .ref 530), (1, .int (iI w)), (2, .int (iI wh))]) (st' := [.int (iI ((30 * b) + w)), .ref 542]) rfl ?_
        refine T_ziald xr_166_110 hA542 (pc' := 111) rfl ?_
        refine T_ie (y := iI (gD G w 5 0)) (by rw [hWS w (by omega) (by omega)]) ?_
        refine T_iret xr_166_111 xf_166.2.2 rfl ?_
        refine hQ _ _ ?_
        exact ⟨(by rw [show X_qWd G w wh = gD G w 5 0 from by unfold X_qWd; (repeat (first | rw [if_pos (by omega)] | rw [if_neg (by omega)]))]), rfl⟩
      · skip
        refine T_tsd xr_166_21 cs2303 (by omega) (t := 112) rfl ?_
        refine T_p xr_166_112 xn_166 (pc' := 113) (ls' := [(3, .int (iI ((30 * b) + w))), (0, .ref 530), (1, .int (iI w)), (2, .int (iI wh))]) (st' := [.int (iI (-1))]) rfl ?_
        refine T_iret xr_166_113 xf_166.2.2 rfl ?_
        refine hQ _ _ ?_
        exact ⟨(by rw [show X_qWd G w wh = (-1) from by unfold X_qWd; (repeat (first | rw [if_pos (by omega)] | rw [if_neg (by omega)]))]), rfl⟩
theorem r_tighter (sc : X_Sc) (S : X_S) (tg : Int → Int) (o : Nat → Int) (nm : Int64) (b : Int) (rc : Int) (G : X_G) (tn : Int) (a : Int) (c : Int) (hO530 : S.1 530 = .inr (11, [.ref 531, .int (iI (o 1)), .ref 532, .int (iI (o 3)), .int (iI b), .int (iI (o 5)), .int (iI (o 6)), .int (iI (o 7)), .int (iI (o 8)), .int (iI (o 9)), .int (iI (o 10)), .int (iI (o 11)), .long nm, .ref 533, .ref 534, .ref 535, .ref 536, .ref 537, .ref 538, .ref 539, .ref 540, .ref 541, .ref 542, .ref 543, .ref 544, .ref 545, .ref 546, .ref 547, .int (iI rc), .int (iI (gk G)), .int (iI (gw G)), .int (iI (o 31)), .int (iI (o 32)), .int (iI (o 33)), .ref 548, .ref 549, .ref 550, .ref 551, .int (iI tn), .ref 552, .ref 553, .ref 554, .ref 555, .ref 556, .ref 557, .ref 558, .ref 559, .ref 560, .ref 561, .int (iI (o 49)), .ref 562, .ref 563, .ref 564, .ref 565, .ref 566, .ref 567, .ref 568, .ref 569, .int (iI (o 58)), .ref 570, .ref 571, .ref 572, .ref 573, .ref 574, .ref 575, .ref 576, .ref 577, .ref 578, .int (iI (o 68)), .int (iI (o 69)), .int (iI (o 70)), .ref 579])) (hA535 : S.1 535 = .inl (.boolean, 288, .inl fun k : Nat => iI (tg (k : Int)))) (hbr : 0 ≤ b ∧ b ≤ 1) (hTG : (∀ i j, 0 ≤ i → i < rc → 0 ≤ j → j < rc → tg (144 * b + 12 * i + j) = bI (X_bt (gl G i) j)) ∧ ∀ w, 0 ≤ w → w < gw G → gD G w 0 0 < rc) (hrc : 0 ≤ rc ∧ rc ≤ 12) (ha : -2147483648 ≤ a ∧ a ≤ 2147483647) (hc : -2147483648 ≤ c ∧ c ≤ 2147483647) : X_T sc 167 (0, [(0, .ref 530), (1, .int (iI a)), (2, .int (iI c))], [], S) (fun v S' => v = some (.int (iI (X_qTi G rc a c))) ∧ S' = S) := by
  refine X_QI (fun Q hQ => ?_)
  refine T_p xr_167_0 xn_167 (pc' := 1) (ls' := [(0, .ref 530), (1, .int (iI a)), (2, .int (iI c))]) (st' := [.int (iI a)]) rfl ?_
  refine T_zif_lt xr_167_1 (t := 24) (pc' := 4) rfl rfl (fun c2310 => ?_) (fun c2310 => ?_)
  · skip
    have c2310 : a < 0 := c2310
    refine T_p xr_167_24 xn_167 (pc' := 25) (ls' := [(0, .ref 530), (1, .int (iI a)), (2, .int (iI c))]) (st' := [.int (iI (-1))]) rfl ?_
    refine T_p xr_167_25 xn_167 (pc' := 42) (ls' := [(0, .ref 530), (1, .int (iI a)), (2, .int (iI c))]) (st' := [.int (iI (-1))]) rfl ?_
    refine T_iret xr_167_42 xf_167.2.2 rfl ?_
    refine hQ _ _ ?_
    exact ⟨(by rw [show X_qTi G rc a c = -1 from by unfold X_qTi; rw [if_neg (by omega)]]), rfl⟩
  · skip
    have c2310 : ¬ (a < 0) := c2310
    refine T_p xr_167_4 xn_167 (pc' := 5) (ls' := [(0, .ref 530), (1, .int (iI a)), (2, .int (iI c))]) (st' := [.int (iI a)]) rfl ?_
    refine T_p xr_167_5 xn_167 (pc' := 6) (ls' := [(0, .ref 530), (1, .int (iI a)), (2, .int (iI c))]) (st' := [.ref 530, .int (iI a)]) rfl ?_
    refine T_get xr_167_6 hO530 rfl (v := .int (iI rc)) rfl (pc' := 9) rfl ?_
    refine T_zicmp_ge xr_167_9 (t := 24) (pc' := 12) rfl rfl (fun c2311 => ?_) (fun c2311 => ?_)
    · skip
      have c2311 : rc ≤ a := c2311
      refine T_p xr_167_24 xn_167 (pc' := 25) (ls' := [(0, .ref 530), (1, .int (iI a)), (2, .int (iI c))]) (st' := [.int (iI (-1))]) rfl ?_
      refine T_p xr_167_25 xn_167 (pc' := 42) (ls' := [(0, .ref 530), (1, .int (iI a)), (2, .int (iI c))]) (st' := [.int (iI (-1))]) rfl ?_
      refine T_iret xr_167_42 xf_167.2.2 rfl ?_
      refine hQ _ _ ?_
      exact ⟨(by rw [show X_qTi G rc a c = -1 from by unfold X_qTi; rw [if_neg (by omega)]]), rfl⟩
    · skip
      have c2311 : ¬ (rc ≤ a) := c2311
      refine T_p xr_167_12 xn_167 (pc' := 13) (ls' := [(0, .ref 530), (1, .int (iI a)), (2, .int (iI c))]) (st' := [.int (iI c)]) rfl ?_
      refine T_zif_lt xr_167_13 (t := 24) (pc' := 16) rfl rfl (fun c2312 => ?_) (fun c2312 => ?_)
      · skip
        have c2312 : c < 0 := c2312
        refine T_p xr_167_24 xn_167 (pc' := 25) (ls' := [(0, .ref 530), (1, .int (iI a)), (2, .int (iI c))]) (st' := [.int (iI (-1))]) rfl ?_
        refine T_p xr_167_25 xn_167 (pc' := 42) (ls' := [(0, .ref 530), (1, .int (iI a)), (2, .int (iI c))]) (st' := [.int (iI (-1))]) rfl ?_
        refine T_iret xr_167_42 xf_167.2.2 rfl ?_
        refine hQ _ _ ?_
        exact ⟨(by rw [show X_qTi G rc a c = -1 from by unfold X_qTi; rw [if_neg (by omega)]]), rfl⟩
      · skip
        have c2312 : ¬ (c < 0) := c2312
        refine T_p xr_167_16 xn_167 (pc' := 17) (ls' := [(0, .ref 530), (1, .int (iI a)), (2, .int (iI c))]) (st' := [.int (iI c)]) rfl ?_
        refine T_p xr_167_17 xn_167 (pc' := 18) (ls' := [(0, .ref 530), (1, .int (iI a)), (2, .int (iI c))]) (st' := [.ref 530, .int (iI c)]) rfl ?_
        refine T_get xr_167_18 hO530 rfl (v := .int (iI rc)) rfl (pc' := 21) rfl ?_
        refine T_zicmp_lt xr_167_21 (t := 28) (pc' := 24) rfl rfl (fun c2313 => ?_) (fun c2313 => ?_)
        · skip
          have c2313 : c < rc := c2313
          refine T_p xr_167_28 xn_167 (pc' := 29) (ls' := [(0, .ref 530), (1, .int (iI a)), (2, .int (iI c))]) (st' := [.ref 530]) rfl ?_
          refine T_p xr_167_29 xn_167 (pc' := 30) (ls' := [(0, .ref 530), (1, .int (iI a)), (2, .int (iI c))]) (st' := [.int (iI a), .ref 530]) rfl ?_
          refine T_p xr_167_30 xn_167 (pc' := 31) (ls' := [(0, .ref 530), (1, .int (iI a)), (2, .int (iI c))]) (st' := [.int (iI c), .int (iI a), .ref 530]) rfl ?_
          refine T_cv (S := S) (q := 530) xr_167_31 xf_154.1 xf_154.2.1 xn_154 (as := [.int (iI a), .int (iI c)]) (r := []) rfl hO530 (Nat.le_of_ble_eq_true rfl) (Nat.le_of_ble_eq_true rfl) (pc' := 34) rfl (ls' := [(0, .ref 530), (1, .int (iI a)), (2, .int (iI c))]) rfl ?_
          refine T_p xr_154_0 xn_154 (pc' := 1) (ls' := [(0, .ref 530), (1, .int (iI a)), (2, .int (iI c))]) (st' := [.ref 530]) rfl ?_
          refine T_get xr_154_1 hO530 rfl (v := .ref 535) rfl (pc' := 4) rfl ?_
          refine T_p xr_154_4 xn_154 (pc' := 7) (ls' := [(0, .ref 530), (1, .int (iI a)), (2, .int (iI c))]) (st' := [.int (iI 144), .ref 535]) rfl ?_
          refine T_p xr_154_7 xn_154 (pc' := 8) (ls' := [(0, .ref 530), (1, .int (iI a)), (2, .int (iI c))]) (st' := [.ref 530, .int (iI 144), .ref 535]) rfl ?_
          refine T_get xr_154_8 hO530 rfl (v := .int (iI b)) rfl (pc' := 11) rfl ?_
          refine T_zimul xr_154_11 (z := 144 * b) rfl (pc' := 12) rfl ?_
          refine T_p xr_154_12 xn_154 (pc' := 14) (ls' := [(0, .ref 530), (1, .int (iI a)), (2, .int (iI c))]) (st' := [.int (iI 12), .int (iI (144 * b)), .ref 535]) rfl ?_
          refine T_p xr_154_14 xn_154 (pc' := 15) (ls' := [(0, .ref 530), (1, .int (iI a)), (2, .int (iI c))]) (st' := [.int (iI a), .int (iI 12), .int (iI (144 * b)), .ref 535]) rfl ?_
          refine T_zimul xr_154_15 (z := 12 * a) rfl (pc' := 16) rfl ?_
          refine T_ziadd xr_154_16 (z := (144 * b) + (12 * a)) rfl (pc' := 17) rfl ?_
          refine T_p xr_154_17 xn_154 (pc' := 18) (ls' := [(0, .ref 530), (1, .int (iI a)), (2, .int (iI c))]) (st' := [.int (iI c), .int (iI ((144 * b) + (12 * a))), .ref 535]) rfl ?_
          refine T_ziadd xr_154_18 (z := ((144 * b) + (12 * a)) + c) rfl (pc' := 19) rfl ?_
          refine T_zzald xr_154_19 hA535 (pc' := 20) rfl ?_
          refine T_ie (y := iI (bI (X_bt (gl G a) c))) (congrArg iI (hTG.1 a c (by omega) (by omega) (by omega) (by omega))) ?_
          refine T_iret xr_154_20 xf_154.2.2 (X_fit_b _) ?_
          show X_T sc 167 (34, [(0, .ref 530), (1, .int (iI a)), (2, .int (iI c))], [.int (iI (bI (X_bt (gl G a) c)))], S) _
          refine T_bif_eq xr_167_34 (t := 41) (pc' := 37) rfl rfl (fun c2314 => ?_) (fun c2314 => ?_)
          · skip
            have c2314 : ¬ (X_bt (gl G a) c) := c2314
            refine T_p xr_167_41 xn_167 (pc' := 42) (ls' := [(0, .ref 530), (1, .int (iI a)), (2, .int (iI c))]) (st' := [.int (iI 0)]) rfl ?_
            refine T_iret xr_167_42 xf_167.2.2 rfl ?_
            refine hQ _ _ ?_
            exact ⟨(by rw [show X_qTi G rc a c = 0 from by unfold X_qTi; rw [if_pos (by omega), bI_f (by first | assumption | exact Classical.not_not.mp (by assumption))]]), rfl⟩
          · skip
            have c2314 : (X_bt (gl G a) c) := c2314
            refine T_p xr_167_37 xn_167 (pc' := 38) (ls' := [(0, .ref 530), (1, .int (iI a)), (2, .int (iI c))]) (st' := [.int (iI 1)]) rfl ?_
            refine T_p xr_167_38 xn_167 (pc' := 42) (ls' := [(0, .ref 530), (1, .int (iI a)), (2, .int (iI c))]) (st' := [.int (iI 1)]) rfl ?_
            refine T_iret xr_167_42 xf_167.2.2 rfl ?_
            refine hQ _ _ ?_
            exact ⟨(by rw [show X_qTi G rc a c = 1 from by unfold X_qTi; rw [if_pos (by omega), bI_t (by first | assumption | exact Classical.not_not.mp (by assumption))]]), rfl⟩
        · skip
          have c2313 : ¬ (c < rc) := c2313
          refine T_p xr_167_24 xn_167 (pc' := 25) (ls' := [(0, .ref 530), (1, .int (iI a)), (2, .int (iI c))]) (st' := [.int (iI (-1))]) rfl ?_
          refine T_p xr_167_25 xn_167 (pc' := 42) (ls' := [(0, .ref 530), (1, .int (iI a)), (2, .int (iI c))]) (st' := [.int (iI (-1))]) rfl ?_
          refine T_iret xr_167_42 xf_167.2.2 rfl ?_
          refine hQ _ _ ?_
          exact ⟨(by rw [show X_qTi G rc a c = -1 from by unfold X_qTi; rw [if_neg (by omega)]]), rfl⟩
theorem r_under (sc : X_Sc) (S : X_S) (kU : Int → Int) (o : Nat → Int) (nm : Int64) (b : Int) (rc : Int) (G : X_G) (tn : Int) (a : Int) (c : Int) (hO530 : S.1 530 = .inr (11, [.ref 531, .int (iI (o 1)), .ref 532, .int (iI (o 3)), .int (iI b), .int (iI (o 5)), .int (iI (o 6)), .int (iI (o 7)), .int (iI (o 8)), .int (iI (o 9)), .int (iI (o 10)), .int (iI (o 11)), .long nm, .ref 533, .ref 534, .ref 535, .ref 536, .ref 537, .ref 538, .ref 539, .ref 540, .ref 541, .ref 542, .ref 543, .ref 544, .ref 545, .ref 546, .ref 547, .int (iI rc), .int (iI (gk G)), .int (iI (gw G)), .int (iI (o 31)), .int (iI (o 32)), .int (iI (o 33)), .ref 548, .ref 549, .ref 550, .ref 551, .int (iI tn), .ref 552, .ref 553, .ref 554, .ref 555, .ref 556, .ref 557, .ref 558, .ref 559, .ref 560, .ref 561, .int (iI (o 49)), .ref 562, .ref 563, .ref 564, .ref 565, .ref 566, .ref 567, .ref 568, .ref 569, .int (iI (o 58)), .ref 570, .ref 571, .ref 572, .ref 573, .ref 574, .ref 575, .ref 576, .ref 577, .ref 578, .int (iI (o 68)), .int (iI (o 69)), .int (iI (o 70)), .ref 579])) (hA536 : S.1 536 = .inl (.int, 22, .inl fun k : Nat => iI (kU (k : Int)))) (hbr : 0 ≤ b ∧ b ≤ 1) (hG : X_Gok G) (hKU : (∀ u, 0 ≤ u → u < 32 → (X_bt (ga G 0) u ↔ u = 0)) ∧ kU (11 * b) = -1 ∧ ∀ k, 1 ≤ k → k < gk G → (0 ≤ kU (11 * b + k) ∧ kU (11 * b + k) < k) ∧ ∀ u, 0 ≤ u → u < 32 → (X_bt (ga G k) u ↔ u = k ∨ X_bt (ga G (kU (11 * b + k))) u)) (ha : -2147483648 ≤ a ∧ a ≤ 2147483647) (hc : -2147483648 ≤ c ∧ c ≤ 2147483647) : X_T sc 169 (0, [(0, .ref 530), (1, .int (iI a)), (2, .int (iI c))], [], S) (fun v S' => v = some (.int (iI (X_qUn G a c))) ∧ S' = S) := by
  have hc1 := hG.2.1
  refine X_QI (fun Q hQ => ?_)
  refine T_p xr_169_0 xn_169 (pc' := 1) (ls' := [(0, .ref 530), (1, .int (iI a)), (2, .int (iI c))]) (st' := [.int (iI a)]) rfl ?_
  refine T_zif_lt xr_169_1 (t := 24) (pc' := 4) rfl rfl (fun c2315 => ?_) (fun c2315 => ?_)
  · skip
    have c2315 : a < 0 := c2315
    refine T_p xr_169_24 xn_169 (pc' := 25) (ls' := [(0, .ref 530), (1, .int (iI a)), (2, .int (iI c))]) (st' := [.int (iI (-1))]) rfl ?_
    refine T_p xr_169_25 xn_169 (pc' := 42) (ls' := [(0, .ref 530), (1, .int (iI a)), (2, .int (iI c))]) (st' := [.int (iI (-1))]) rfl ?_
    refine T_iret xr_169_42 xf_169.2.2 rfl ?_
    refine hQ _ _ ?_
    exact ⟨(by rw [show X_qUn G a c = -1 from by unfold X_qUn; rw [if_neg (by omega)]]), rfl⟩
  · skip
    have c2315 : ¬ (a < 0) := c2315
    refine T_p xr_169_4 xn_169 (pc' := 5) (ls' := [(0, .ref 530), (1, .int (iI a)), (2, .int (iI c))]) (st' := [.int (iI a)]) rfl ?_
    refine T_p xr_169_5 xn_169 (pc' := 6) (ls' := [(0, .ref 530), (1, .int (iI a)), (2, .int (iI c))]) (st' := [.ref 530, .int (iI a)]) rfl ?_
    refine T_get xr_169_6 hO530 rfl (v := .int (iI (gk G))) rfl (pc' := 9) rfl ?_
    refine T_zicmp_ge xr_169_9 (t := 24) (pc' := 12) rfl rfl (fun c2316 => ?_) (fun c2316 => ?_)
    · skip
      have c2316 : (gk G) ≤ a := c2316
      refine T_p xr_169_24 xn_169 (pc' := 25) (ls' := [(0, .ref 530), (1, .int (iI a)), (2, .int (iI c))]) (st' := [.int (iI (-1))]) rfl ?_
      refine T_p xr_169_25 xn_169 (pc' := 42) (ls' := [(0, .ref 530), (1, .int (iI a)), (2, .int (iI c))]) (st' := [.int (iI (-1))]) rfl ?_
      refine T_iret xr_169_42 xf_169.2.2 rfl ?_
      refine hQ _ _ ?_
      exact ⟨(by rw [show X_qUn G a c = -1 from by unfold X_qUn; rw [if_neg (by omega)]]), rfl⟩
    · skip
      have c2316 : ¬ ((gk G) ≤ a) := c2316
      refine T_p xr_169_12 xn_169 (pc' := 13) (ls' := [(0, .ref 530), (1, .int (iI a)), (2, .int (iI c))]) (st' := [.int (iI c)]) rfl ?_
      refine T_zif_lt xr_169_13 (t := 24) (pc' := 16) rfl rfl (fun c2317 => ?_) (fun c2317 => ?_)
      · skip
        have c2317 : c < 0 := c2317
        refine T_p xr_169_24 xn_169 (pc' := 25) (ls' := [(0, .ref 530), (1, .int (iI a)), (2, .int (iI c))]) (st' := [.int (iI (-1))]) rfl ?_
        refine T_p xr_169_25 xn_169 (pc' := 42) (ls' := [(0, .ref 530), (1, .int (iI a)), (2, .int (iI c))]) (st' := [.int (iI (-1))]) rfl ?_
        refine T_iret xr_169_42 xf_169.2.2 rfl ?_
        refine hQ _ _ ?_
        exact ⟨(by rw [show X_qUn G a c = -1 from by unfold X_qUn; rw [if_neg (by omega)]]), rfl⟩
      · skip
        have c2317 : ¬ (c < 0) := c2317
        refine T_p xr_169_16 xn_169 (pc' := 17) (ls' := [(0, .ref 530), (1, .int (iI a)), (2, .int (iI c))]) (st' := [.int (iI c)]) rfl ?_
        refine T_p xr_169_17 xn_169 (pc' := 18) (ls' := [(0, .ref 530), (1, .int (iI a)), (2, .int (iI c))]) (st' := [.ref 530, .int (iI c)]) rfl ?_
        refine T_get xr_169_18 hO530 rfl (v := .int (iI (gk G))) rfl (pc' := 21) rfl ?_
        refine T_zicmp_lt xr_169_21 (t := 28) (pc' := 24) rfl rfl (fun c2318 => ?_) (fun c2318 => ?_)
        · skip
          have c2318 : c < (gk G) := c2318
          refine T_p xr_169_28 xn_169 (pc' := 29) (ls' := [(0, .ref 530), (1, .int (iI a)), (2, .int (iI c))]) (st' := [.ref 530]) rfl ?_
          refine T_p xr_169_29 xn_169 (pc' := 30) (ls' := [(0, .ref 530), (1, .int (iI a)), (2, .int (iI c))]) (st' := [.int (iI a), .ref 530]) rfl ?_
          refine T_p xr_169_30 xn_169 (pc' := 31) (ls' := [(0, .ref 530), (1, .int (iI a)), (2, .int (iI c))]) (st' := [.int (iI c), .int (iI a), .ref 530]) rfl ?_
          refine T_cv (S := S) (q := 530) xr_169_31 xf_168.1 xf_168.2.1 xn_168 (as := [.int (iI a), .int (iI c)]) (r := []) rfl hO530 (Nat.le_of_ble_eq_true rfl) (Nat.le_of_ble_eq_true rfl) (pc' := 34) rfl (ls' := [(0, .ref 530), (1, .int (iI a)), (2, .int (iI c))]) rfl ?_
          refine T_mono (r_isUnder sc S kU o nm b rc G tn a c hO530 hA536 (by omega) hG hKU (by omega) (by omega)) (fun v2319 S2320 h2321 => ?_)
          rcases h2321 with ⟨hv2322, hf2323⟩
          rw [hv2322]
          rw [hf2323]
          show X_T sc 169 (34, [(0, .ref 530), (1, .int (iI a)), (2, .int (iI c))], [.int (iI (bI (X_bt (ga G a) c)))], S) _
          refine T_bif_eq xr_169_34 (t := 41) (pc' := 37) rfl rfl (fun c2324 => ?_) (fun c2324 => ?_)
          · skip
            have c2324 : ¬ (X_bt (ga G a) c) := c2324
            refine T_p xr_169_41 xn_169 (pc' := 42) (ls' := [(0, .ref 530), (1, .int (iI a)), (2, .int (iI c))]) (st' := [.int (iI 0)]) rfl ?_
            refine T_iret xr_169_42 xf_169.2.2 rfl ?_
            refine hQ _ _ ?_
            exact ⟨(by rw [show X_qUn G a c = 0 from by unfold X_qUn; rw [if_pos (by omega), bI_f (by first | assumption | exact Classical.not_not.mp (by assumption))]]), rfl⟩
          · skip
            have c2324 : (X_bt (ga G a) c) := c2324
            refine T_p xr_169_37 xn_169 (pc' := 38) (ls' := [(0, .ref 530), (1, .int (iI a)), (2, .int (iI c))]) (st' := [.int (iI 1)]) rfl ?_
            refine T_p xr_169_38 xn_169 (pc' := 42) (ls' := [(0, .ref 530), (1, .int (iI a)), (2, .int (iI c))]) (st' := [.int (iI 1)]) rfl ?_
            refine T_iret xr_169_42 xf_169.2.2 rfl ?_
            refine hQ _ _ ?_
            exact ⟨(by rw [show X_qUn G a c = 1 from by unfold X_qUn; rw [if_pos (by omega), bI_t (by first | assumption | exact Classical.not_not.mp (by assumption))]]), rfl⟩
        · skip
          have c2318 : ¬ (c < (gk G)) := c2318
          refine T_p xr_169_24 xn_169 (pc' := 25) (ls' := [(0, .ref 530), (1, .int (iI a)), (2, .int (iI c))]) (st' := [.int (iI (-1))]) rfl ?_
          refine T_p xr_169_25 xn_169 (pc' := 42) (ls' := [(0, .ref 530), (1, .int (iI a)), (2, .int (iI c))]) (st' := [.int (iI (-1))]) rfl ?_
          refine T_iret xr_169_42 xf_169.2.2 rfl ?_
          refine hQ _ _ ?_
          exact ⟨(by rw [show X_qUn G a c = -1 from by unfold X_qUn; rw [if_neg (by omega)]]), rfl⟩
theorem r_node (sc : X_Sc) (S : X_S) (nW : Int → Int) (nF : Int → Int) (nL : Int → Int) (nP : Int → Int) (nH : Int → Int) (o : Nat → Int) (nm : Int64) (b : Int) (rc : Int) (G : X_G) (tn : Int) (nc : Int) (N : Int → Int → Int) (n : Int) (wh : Int) (hO530 : S.1 530 = .inr (11, [.ref 531, .int (iI (o 1)), .ref 532, .int (iI (o 3)), .int (iI b), .int (iI (o 5)), .int (iI (o 6)), .int (iI (o 7)), .int (iI (o 8)), .int (iI (o 9)), .int (iI (o 10)), .int (iI (o 11)), .long nm, .ref 533, .ref 534, .ref 535, .ref 536, .ref 537, .ref 538, .ref 539, .ref 540, .ref 541, .ref 542, .ref 543, .ref 544, .ref 545, .ref 546, .ref 547, .int (iI rc), .int (iI (gk G)), .int (iI (gw G)), .int (iI (o 31)), .int (iI (o 32)), .int (iI (o 33)), .ref 548, .ref 549, .ref 550, .ref 551, .int (iI tn), .ref 552, .ref 553, .ref 554, .ref 555, .ref 556, .ref 557, .ref 558, .ref 559, .ref 560, .ref 561, .int (iI nc), .ref 562, .ref 563, .ref 564, .ref 565, .ref 566, .ref 567, .ref 568, .ref 569, .int (iI (o 58)), .ref 570, .ref 571, .ref 572, .ref 573, .ref 574, .ref 575, .ref 576, .ref 577, .ref 578, .int (iI (o 68)), .int (iI (o 69)), .int (iI (o 70)), .ref 579])) (hA557 : S.1 557 = .inl (.int, 40, .inl fun k : Nat => iI (nW (k : Int)))) (hA558 : S.1 558 = .inl (.int, 40, .inl fun k : Nat => iI (nF (k : Int)))) (hA559 : S.1 559 = .inl (.int, 40, .inl fun k : Nat => iI (nL (k : Int)))) (hA560 : S.1 560 = .inl (.int, 40, .inl fun k : Nat => iI (nP (k : Int)))) (hA561 : S.1 561 = .inl (.int, 40, .inl fun k : Nat => iI (nH (k : Int)))) (hn : -2147483648 ≤ n ∧ n ≤ 2147483647) (hwh : -2147483648 ≤ wh ∧ wh ≤ 2147483647) (hnc : 0 ≤ nc ∧ nc ≤ 30) (hnd : R_nd nc N nW nF nL nP nH) (hn4 : ∀ n, 0 ≤ n → n < nc → N 3 n < 0 → N 4 n = -1) (ht0 : X_tr0 N nc) : X_T sc 190 (0, [(0, .ref 530), (1, .int (iI n)), (2, .int (iI wh))], [], S) (fun v S' => v = some (.int (iI (X_qNd nc N n wh))) ∧ S' = S) := by
  refine X_QI (fun Q hQ => ?_)
  refine T_p xr_190_0 xn_190 (pc' := 1) (ls' := [(0, .ref 530), (1, .int (iI n)), (2, .int (iI wh))]) (st' := [.int (iI n)]) rfl ?_
  refine T_zif_lt xr_190_1 (t := 12) (pc' := 4) rfl rfl (fun c2325 => ?_) (fun c2325 => ?_)
  · skip
    have c2325 : n < 0 := c2325
    refine T_p xr_190_12 xn_190 (pc' := 13) (ls' := [(0, .ref 530), (1, .int (iI n)), (2, .int (iI wh))]) (st' := [.int (iI (-1))]) rfl ?_
    refine T_iret xr_190_13 xf_190.2.2 rfl ?_
    refine hQ _ _ ?_
    exact ⟨(by rw [show X_qNd nc N n wh = (-1) from by unfold X_qNd; (repeat (first | rw [if_pos (by omega)] | rw [if_neg (by omega)]))]), rfl⟩
  · skip
    have c2325 : ¬ (n < 0) := c2325
    refine T_p xr_190_4 xn_190 (pc' := 5) (ls' := [(0, .ref 530), (1, .int (iI n)), (2, .int (iI wh))]) (st' := [.int (iI n)]) rfl ?_
    refine T_p xr_190_5 xn_190 (pc' := 6) (ls' := [(0, .ref 530), (1, .int (iI n)), (2, .int (iI wh))]) (st' := [.ref 530, .int (iI n)]) rfl ?_
    refine T_get xr_190_6 hO530 rfl (v := .int (iI nc)) rfl (pc' := 9) rfl ?_
    refine T_zicmp_lt xr_190_9 (t := 14) (pc' := 12) rfl rfl (fun c2326 => ?_) (fun c2326 => ?_)
    · skip
      have c2326 : n < nc := c2326
      refine T_p xr_190_14 xn_190 (pc' := 15) (ls' := [(0, .ref 530), (1, .int (iI n)), (2, .int (iI wh))]) (st' := [.int (iI wh)]) rfl ?_
      rcases (show wh = 0 ∨ wh = 1 ∨ wh = 2 ∨ wh = 3 ∨ wh = 4 ∨ (wh < 0 ∨ 4 < wh) by omega) with cs2327 | cs2327 | cs2327 | cs2327 | cs2327 | cs2327
      · skip
        refine T_tsk xr_190_15 cs2327 (by decide) (by decide) (off := 33) rfl (t := 48) rfl ?_
        refine T_p xr_190_48 xn_190 (pc' := 49) (ls' := [(0, .ref 530), (1, .int (iI n)), (2, .int (iI wh))]) (st' := [.ref 530]) rfl ?_
        refine T_get xr_190_49 hO530 rfl (v := .ref 557) rfl (pc' := 52) rfl ?_
        refine T_p xr_190_52 xn_190 (pc' := 53) (ls' := [(0, .ref 530), (1, .int (iI n)), (2, .int (iI wh))]) (st' := [.int (iI n), .ref 557]) rfl ?_
        refine T_ziald xr_190_53 hA557 (pc' := 54) rfl ?_
        refine T_iret xr_190_54 xf_190.2.2 rfl ?_
        refine hQ _ _ ?_
        exact ⟨(by rw [show X_qNd nc N n wh = N 0 n from by unfold X_qNd; (repeat (first | rw [if_pos (by omega)] | rw [if_neg (by omega)]))]; rw [(hnd n (by omega) (by omega)).1]), rfl⟩
      · skip
        refine T_tsk xr_190_15 cs2327 (by decide) (by decide) (off := 40) rfl (t := 55) rfl ?_
        refine T_p xr_190_55 xn_190 (pc' := 56) (ls' := [(0, .ref 530), (1, .int (iI n)), (2, .int (iI wh))]) (st' := [.ref 530]) rfl ?_
        refine T_get xr_190_56 hO530 rfl (v := .ref 558) rfl (pc' := 59) rfl ?_
        refine T_p xr_190_59 xn_190 (pc' := 60) (ls' := [(0, .ref 530), (1, .int (iI n)), (2, .int (iI wh))]) (st' := [.int (iI n), .ref 558]) rfl ?_
        refine T_ziald xr_190_60 hA558 (pc' := 61) rfl ?_
        refine T_iret xr_190_61 xf_190.2.2 rfl ?_
        refine hQ _ _ ?_
        exact ⟨(by rw [show X_qNd nc N n wh = N 1 n from by unfold X_qNd; (repeat (first | rw [if_pos (by omega)] | rw [if_neg (by omega)]))]; rw [(hnd n (by omega) (by omega)).2.1]), rfl⟩
      · skip
        refine T_tsk xr_190_15 cs2327 (by decide) (by decide) (off := 47) rfl (t := 62) rfl ?_
        refine T_p xr_190_62 xn_190 (pc' := 63) (ls' := [(0, .ref 530), (1, .int (iI n)), (2, .int (iI wh))]) (st' := [.ref 530]) rfl ?_
        refine T_get xr_190_63 hO530 rfl (v := .ref 559) rfl (pc' := 66) rfl ?_
        refine T_p xr_190_66 xn_190 (pc' := 67) (ls' := [(0, .ref 530), (1, .int (iI n)), (2, .int (iI wh))]) (st' := [.int (iI n), .ref 559]) rfl ?_
        refine T_ziald xr_190_67 hA559 (pc' := 68) rfl ?_
        refine T_iret xr_190_68 xf_190.2.2 rfl ?_
        refine hQ _ _ ?_
        exact ⟨(by rw [show X_qNd nc N n wh = N 2 n from by unfold X_qNd; (repeat (first | rw [if_pos (by omega)] | rw [if_neg (by omega)]))]; rw [(hnd n (by omega) (by omega)).2.2.1]), rfl⟩
      · skip
        refine T_tsk xr_190_15 cs2327 (by decide) (by decide) (off := 54) rfl (t := 69) rfl ?_
        refine T_p xr_190_69 xn_190 (pc' := 70) (ls' := [(0, .ref 530), (1, .int (iI n)), (2, .int (iI wh))]) (st' := [.ref 530]) rfl ?_
        refine T_get xr_190_70 hO530 rfl (v := .ref 560) rfl (pc' := 73) rfl ?_
        refine T_p xr_190_73 xn_190 (pc' := 74) (ls' := [(0, .ref 530), (1, .int (iI n)), (2, .int (iI wh))]) (st' := [.int (iI n), .ref 560]) rfl ?_
        refine T_ziald xr_190_74 hA560 (pc' := 75) rfl ?_
        refine T_iret xr_190_75 xf_190.2.2 rfl ?_
        refine hQ _ _ ?_
        exact ⟨(by rw [show X_qNd nc N n wh = N 3 n from by unfold X_qNd; (repeat (first | rw [if_pos (by omega)] | rw [if_neg (by omega)]))]; rw [(hnd n (by omega) (by omega)).2.2.2.1]), rfl⟩
      · skip
        refine T_tsk xr_190_15 cs2327 (by decide) (by decide) (off := 61) rfl (t := 76) rfl ?_
        refine T_p xr_190_76 xn_190 (pc' := 77) (ls' := [(0, .ref 530), (1, .int (iI n)), (2, .int (iI wh))]) (st' := [.ref 530]) rfl ?_
        refine T_get xr_190_77 hO530 rfl (v := .ref 560) rfl (pc' := 80) rfl ?_
        refine T_p xr_190_80 xn_190 (pc' := 81) (ls' := [(0, .ref 530), (1, .int (iI n)), (2, .int (iI wh))]) (st' := [.int (iI n), .ref 560]) rfl ?_
        refine T_ziald xr_190_81 hA560 (pc' := 82) rfl ?_
        have htn := ht0 n (by omega) (by omega)
        refine T_ie (y := iI (N 3 n)) (by rw [(hnd n (by omega) (by omega)).2.2.2.1]) ?_
        refine T_zif_ge xr_190_82 (t := 89) (pc' := 85) rfl rfl (fun c2328 => ?_) (fun c2328 => ?_)
        · skip
          have c2328 : 0 ≤ (N 3 n) := c2328
          refine T_p xr_190_89 xn_190 (pc' := 90) (ls' := [(0, .ref 530), (1, .int (iI n)), (2, .int (iI wh))]) (st' := [.ref 530]) rfl ?_
          refine T_get xr_190_90 hO530 rfl (v := .ref 561) rfl (pc' := 93) rfl ?_
          refine T_p xr_190_93 xn_190 (pc' := 94) (ls' := [(0, .ref 530), (1, .int (iI n)), (2, .int (iI wh))]) (st' := [.int (iI n), .ref 561]) rfl ?_
          refine T_ziald xr_190_94 hA561 (pc' := 95) rfl ?_
          refine T_iret xr_190_95 xf_190.2.2 rfl ?_
          refine hQ _ _ ?_
          exact ⟨(by rw [show X_qNd nc N n wh = N 4 n from by unfold X_qNd; (repeat (first | rw [if_pos (by omega)] | rw [if_neg (by omega)]))]; rw [(hnd n (by omega) (by omega)).2.2.2.2]), rfl⟩
        · skip
          have c2328 : ¬ (0 ≤ (N 3 n)) := c2328
          refine T_p xr_190_85 xn_190 (pc' := 86) (ls' := [(0, .ref 530), (1, .int (iI n)), (2, .int (iI wh))]) (st' := [.int (iI (-1))]) rfl ?_
          refine T_p xr_190_86 xn_190 (pc' := 95) (ls' := [(0, .ref 530), (1, .int (iI n)), (2, .int (iI wh))]) (st' := [.int (iI (-1))]) rfl ?_
          refine T_iret xr_190_95 xf_190.2.2 rfl ?_
          refine hQ _ _ ?_
          exact ⟨(by rw [show X_qNd nc N n wh = N 4 n from by unfold X_qNd; (repeat (first | rw [if_pos (by omega)] | rw [if_neg (by omega)]))]; rw [hn4 n (by omega) (by omega) (by omega)]), rfl⟩
      · skip
        refine T_tsd xr_190_15 cs2327 (by omega) (t := 96) rfl ?_
        refine T_p xr_190_96 xn_190 (pc' := 97) (ls' := [(0, .ref 530), (1, .int (iI n)), (2, .int (iI wh))]) (st' := [.int (iI (-1))]) rfl ?_
        refine T_iret xr_190_97 xf_190.2.2 rfl ?_
        refine hQ _ _ ?_
        exact ⟨(by rw [show X_qNd nc N n wh = (-1) from by unfold X_qNd; (repeat (first | rw [if_pos (by omega)] | rw [if_neg (by omega)]))]), rfl⟩
    · skip
      have c2326 : ¬ (n < nc) := c2326
      refine T_p xr_190_12 xn_190 (pc' := 13) (ls' := [(0, .ref 530), (1, .int (iI n)), (2, .int (iI wh))]) (st' := [.int (iI (-1))]) rfl ?_
      refine T_iret xr_190_13 xf_190.2.2 rfl ?_
      refine hQ _ _ ?_
      exact ⟨(by rw [show X_qNd nc N n wh = (-1) from by unfold X_qNd; (repeat (first | rw [if_pos (by omega)] | rw [if_neg (by omega)]))]), rfl⟩
theorem r_worked (sc : X_Sc) (S : X_S) (o : Nat → Int) (nm : Int64) (b : Int) (rc : Int) (G : X_G) (tn : Int) (wk : Int) (f69 : Int) (f70 : Int) (rs : Int) (re : Int) (w : Int) (hO530 : S.1 530 = .inr (11, [.ref 531, .int (iI (o 1)), .ref 532, .int (iI (o 3)), .int (iI b), .int (iI (o 5)), .int (iI (o 6)), .int (iI (o 7)), .int (iI (o 8)), .int (iI (o 9)), .int (iI (o 10)), .int (iI (o 11)), .long nm, .ref 533, .ref 534, .ref 535, .ref 536, .ref 537, .ref 538, .ref 539, .ref 540, .ref 541, .ref 542, .ref 543, .ref 544, .ref 545, .ref 546, .ref 547, .int (iI rc), .int (iI (gk G)), .int (iI (gw G)), .int (iI (o 31)), .int (iI (o 32)), .int (iI (o 33)), .ref 548, .ref 549, .ref 550, .ref 551, .int (iI tn), .ref 552, .ref 553, .ref 554, .ref 555, .ref 556, .ref 557, .ref 558, .ref 559, .ref 560, .ref 561, .int (iI (o 49)), .ref 562, .ref 563, .ref 564, .ref 565, .ref 566, .ref 567, .ref 568, .ref 569, .int (iI (o 58)), .ref 570, .ref 571, .ref 572, .ref 573, .ref 574, .ref 575, .ref 576, .ref 577, .ref 578, .int (iI wk), .int (iI f69), .int (iI f70), .ref 579])) (hw : -2147483648 ≤ w ∧ w ≤ 2147483647) (hwk : (¬ wk = 0 ∧ f70 = rs ∧ f69 = re) ∨ (wk = 0 ∧ rs = 0 ∧ re = -1)) (hwr : 0 ≤ wk ∧ wk ≤ 1) : X_T sc 198 (0, [(0, .ref 530), (1, .int (iI w))], [], S) (fun v S' => v = some (.int (iI (if w = 0 then rs else if w = 1 then re else -1))) ∧ S' = S) := by
  refine X_QI (fun Q hQ => ?_)
  refine T_p xr_198_0 xn_198 (pc' := 1) (ls' := [(0, .ref 530), (1, .int (iI w))]) (st' := [.int (iI w)]) rfl ?_
  refine T_zif_ne xr_198_1 (t := 22) (pc' := 4) rfl rfl (fun c2329 => ?_) (fun c2329 => ?_)
  · skip
    have c2329 : ¬ w = 0 := c2329
    refine T_p xr_198_22 xn_198 (pc' := 23) (ls' := [(0, .ref 530), (1, .int (iI w))]) (st' := [.int (iI w)]) rfl ?_
    refine T_p xr_198_23 xn_198 (pc' := 24) (ls' := [(0, .ref 530), (1, .int (iI w))]) (st' := [.int (iI 1), .int (iI w)]) rfl ?_
    refine T_zicmp_ne xr_198_24 (t := 41) (pc' := 27) rfl rfl (fun c2330 => ?_) (fun c2330 => ?_)
    · skip
      have c2330 : ¬ w = 1 := c2330
      refine T_p xr_198_41 xn_198 (pc' := 42) (ls' := [(0, .ref 530), (1, .int (iI w))]) (st' := [.int (iI (-1))]) rfl ?_
      refine T_iret xr_198_42 xf_198.2.2 rfl ?_
      refine hQ _ _ ?_
      refine ⟨(by
            refine congrArg (fun z => some (Value.int (iI z))) ?_
            (repeat (first | rw [if_pos (by omega)] | rw [if_neg (by omega)])) <;> omega), rfl⟩
    · skip
      have c2330 : ¬ (¬ w = 1) := c2330
      refine T_p xr_198_27 xn_198 (pc' := 28) (ls' := [(0, .ref 530), (1, .int (iI w))]) (st' := [.ref 530]) rfl ?_
      refine T_get xr_198_28 hO530 rfl (v := .int (iI wk)) rfl (pc' := 31) rfl ?_
      refine T_zif_eq xr_198_31 (t := 41) (pc' := 34) rfl rfl (fun c2331 => ?_) (fun c2331 => ?_)
      · skip
        have c2331 : wk = 0 := c2331
        refine T_p xr_198_41 xn_198 (pc' := 42) (ls' := [(0, .ref 530), (1, .int (iI w))]) (st' := [.int (iI (-1))]) rfl ?_
        refine T_iret xr_198_42 xf_198.2.2 rfl ?_
        refine hQ _ _ ?_
        refine ⟨(by
              refine congrArg (fun z => some (Value.int (iI z))) ?_
              (repeat (first | rw [if_pos (by omega)] | rw [if_neg (by omega)])) <;> omega), rfl⟩
      · skip
        have c2331 : ¬ (wk = 0) := c2331
        refine T_p xr_198_34 xn_198 (pc' := 35) (ls' := [(0, .ref 530), (1, .int (iI w))]) (st' := [.ref 530]) rfl ?_
        refine T_get xr_198_35 hO530 rfl (v := .int (iI f69)) rfl (pc' := 38) rfl ?_
        refine T_p xr_198_38 xn_198 (pc' := 42) (ls' := [(0, .ref 530), (1, .int (iI w))]) (st' := [.int (iI f69)]) rfl ?_
        refine T_iret xr_198_42 xf_198.2.2 rfl ?_
        refine hQ _ _ ?_
        refine ⟨(by
              refine congrArg (fun z => some (Value.int (iI z))) ?_
              (repeat (first | rw [if_pos (by omega)] | rw [if_neg (by omega)])) <;> omega), rfl⟩
  · skip
    have c2329 : ¬ (¬ w = 0) := c2329
    refine T_p xr_198_4 xn_198 (pc' := 5) (ls' := [(0, .ref 530), (1, .int (iI w))]) (st' := [.ref 530]) rfl ?_
    refine T_get xr_198_5 hO530 rfl (v := .int (iI wk)) rfl (pc' := 8) rfl ?_
    refine T_zif_eq xr_198_8 (t := 18) (pc' := 11) rfl rfl (fun c2332 => ?_) (fun c2332 => ?_)
    · skip
      have c2332 : wk = 0 := c2332
      refine T_p xr_198_18 xn_198 (pc' := 19) (ls' := [(0, .ref 530), (1, .int (iI w))]) (st' := [.int (iI 0)]) rfl ?_
      refine T_p xr_198_19 xn_198 (pc' := 42) (ls' := [(0, .ref 530), (1, .int (iI w))]) (st' := [.int (iI 0)]) rfl ?_
      refine T_iret xr_198_42 xf_198.2.2 rfl ?_
      refine hQ _ _ ?_
      refine ⟨(by
            refine congrArg (fun z => some (Value.int (iI z))) ?_
            (repeat (first | rw [if_pos (by omega)] | rw [if_neg (by omega)])) <;> omega), rfl⟩
    · skip
      have c2332 : ¬ (wk = 0) := c2332
      refine T_p xr_198_11 xn_198 (pc' := 12) (ls' := [(0, .ref 530), (1, .int (iI w))]) (st' := [.ref 530]) rfl ?_
      refine T_get xr_198_12 hO530 rfl (v := .int (iI f70)) rfl (pc' := 15) rfl ?_
      refine T_p xr_198_15 xn_198 (pc' := 42) (ls' := [(0, .ref 530), (1, .int (iI w))]) (st' := [.int (iI f70)]) rfl ?_
      refine T_iret xr_198_42 xf_198.2.2 rfl ?_
      refine hQ _ _ ?_
      refine ⟨(by
            refine congrArg (fun z => some (Value.int (iI z))) ?_
            (repeat (first | rw [if_pos (by omega)] | rw [if_neg (by omega)])) <;> omega), rfl⟩
theorem r_bind (sc : X_Sc) (S : X_S) (wH : Int → Int) (wS : Int → Int) (bo : Int → Int) (va : Int → Int) (o : Nat → Int) (nm : Int64) (b : Int) (rc : Int) (G : X_G) (tn : Int) (w : Int) (vl : Int) (hO530 : S.1 530 = .inr (11, [.ref 531, .int (iI (o 1)), .ref 532, .int (iI (o 3)), .int (iI b), .int (iI (o 5)), .int (iI (o 6)), .int (iI (o 7)), .int (iI (o 8)), .int (iI (o 9)), .int (iI (o 10)), .int (iI (o 11)), .long nm, .ref 533, .ref 534, .ref 535, .ref 536, .ref 537, .ref 538, .ref 539, .ref 540, .ref 541, .ref 542, .ref 543, .ref 544, .ref 545, .ref 546, .ref 547, .int (iI rc), .int (iI (gk G)), .int (iI (gw G)), .int (iI (o 31)), .int (iI (o 32)), .int (iI (o 33)), .ref 548, .ref 549, .ref 550, .ref 551, .int (iI tn), .ref 552, .ref 553, .ref 554, .ref 555, .ref 556, .ref 557, .ref 558, .ref 559, .ref 560, .ref 561, .int (iI (o 49)), .ref 562, .ref 563, .ref 564, .ref 565, .ref 566, .ref 567, .ref 568, .ref 569, .int (iI (o 58)), .ref 570, .ref 571, .ref 572, .ref 573, .ref 574, .ref 575, .ref 576, .ref 577, .ref 578, .int (iI (o 68)), .int (iI (o 69)), .int (iI (o 70)), .ref 579])) (hA541 : S.1 541 = .inl (.int, 60, .inl fun k : Nat => iI (wH (k : Int)))) (hA542 : S.1 542 = .inl (.int, 60, .inl fun k : Nat => iI (wS (k : Int)))) (hA574 : S.1 574 = .inl (.boolean, 30, .inl fun k : Nat => iI (bo (k : Int)))) (hA575 : S.1 575 = .inl (.int, 30, .inl fun k : Nat => iI (va (k : Int)))) (hbr : 0 ≤ b ∧ b ≤ 1) (hG : X_Gok G) (hGs : X_Gst G) (hWH : ∀ w, 0 ≤ w → w < gw G → wH (30 * b + w) = gD G w 4 0) (hWS : ∀ w, 0 ≤ w → w < gw G → wS (30 * b + w) = gD G w 5 0) (hw : -2147483648 ≤ w ∧ w ≤ 2147483647) (hv : -2147483648 ≤ vl ∧ vl ≤ 2147483647) : X_T sc 191 (0, [(0, .ref 530), (1, .int (iI w)), (2, .int (iI vl))], [], S) (fun v S' => (v = some (.int (iI 0)) ∧ (¬ ((0 ≤ w ∧ w < gw G) ∧ gD G w 5 0 = -1 ∧ gD G w 4 0 ≤ 0)) ∧ S' = S) ∨ (v = some (.int (iI 1)) ∧ ((0 ≤ w ∧ w < gw G) ∧ gD G w 5 0 = -1 ∧ gD G w 4 0 ≤ 0) ∧ S'.1 574 = .inl (.boolean, 30, .inl fun k : Nat => iI ((X_ug bo w 1) (k : Int))) ∧ S'.1 575 = .inl (.int, 30, .inl fun k : Nat => iI ((X_ug va w vl) (k : Int))) ∧ (X_Fr (fun q => q = 574 ∨ q = 575) S S'))) := by
  have hc1 := hG.1
  have hst : ∀ w, 0 ≤ w → w < gw G → (gD G w 5 0 = -1 ∨ (0 ≤ gD G w 5 0 ∧ gD G w 5 0 ≤ 30)) ∧ 0 ≤ gD G w 4 0 ∧ gD G w 4 0 ≤ 4 := fun w h1 h2 => by
      have hz := (hG.2.2.2 w h1 h2).2.1
      refine ⟨?_, hz.1, hz.2.1⟩
      rcases hGs w h1 h2 with h | h
      · exact Or.inl h
      · exact Or.inr ⟨h.1.1, h.2.1⟩
  refine X_QI (fun Q hQ => ?_)
  refine T_p xr_191_0 xn_191 (pc' := 1) (ls' := [(0, .ref 530), (1, .int (iI w)), (2, .int (iI vl))]) (st' := [.ref 530]) rfl ?_
  refine T_p xr_191_1 xn_191 (pc' := 2) (ls' := [(0, .ref 530), (1, .int (iI w)), (2, .int (iI vl))]) (st' := [.int (iI w), .ref 530]) rfl ?_
  refine T_cv (S := S) (q := 530) xr_191_2 xf_165.1 xf_165.2.1 xn_165 (as := [.int (iI w)]) (r := []) rfl hO530 (Nat.le_of_ble_eq_true rfl) (Nat.le_of_ble_eq_true rfl) (pc' := 5) rfl (ls' := [(0, .ref 530), (1, .int (iI w))]) rfl ?_
  refine T_p xr_165_0 xn_165 (pc' := 1) (ls' := [(0, .ref 530), (1, .int (iI w))]) (st' := [.int (iI w)]) rfl ?_
  refine T_zif_lt xr_165_1 (t := 16) (pc' := 4) rfl rfl (fun c2333 => ?_) (fun c2333 => ?_)
  · skip
    have c2333 : w < 0 := c2333
    refine T_p xr_165_16 xn_165 (pc' := 17) (ls' := [(0, .ref 530), (1, .int (iI w))]) (st' := [.int (iI 0)]) rfl ?_
    refine T_iret xr_165_17 xf_165.2.2 (by decide) ?_
    show X_T sc 191 (5, [(0, .ref 530), (1, .int (iI w)), (2, .int (iI vl))], [.int (iI 0)], S) _
    refine T_zif_eqt xr_191_5 (t := 42) rfl (by decide) ?_
    refine T_p xr_191_42 xn_191 (pc' := 43) (ls' := [(0, .ref 530), (1, .int (iI w)), (2, .int (iI vl))]) (st' := [.int (iI 0)]) rfl ?_
    refine T_iret xr_191_43 xf_191.2.2 (by decide) ?_
    refine hQ _ _ ?_
    exact Or.inl ⟨rfl, (by omega), rfl⟩
  · skip
    have c2333 : ¬ (w < 0) := c2333
    refine T_p xr_165_4 xn_165 (pc' := 5) (ls' := [(0, .ref 530), (1, .int (iI w))]) (st' := [.int (iI w)]) rfl ?_
    refine T_p xr_165_5 xn_165 (pc' := 6) (ls' := [(0, .ref 530), (1, .int (iI w))]) (st' := [.ref 530, .int (iI w)]) rfl ?_
    refine T_get xr_165_6 hO530 rfl (v := .int (iI (gw G))) rfl (pc' := 9) rfl ?_
    refine T_zicmp_ge xr_165_9 (t := 16) (pc' := 12) rfl rfl (fun c2334 => ?_) (fun c2334 => ?_)
    · skip
      have c2334 : (gw G) ≤ w := c2334
      refine T_p xr_165_16 xn_165 (pc' := 17) (ls' := [(0, .ref 530), (1, .int (iI w))]) (st' := [.int (iI 0)]) rfl ?_
      refine T_iret xr_165_17 xf_165.2.2 (by decide) ?_
      show X_T sc 191 (5, [(0, .ref 530), (1, .int (iI w)), (2, .int (iI vl))], [.int (iI 0)], S) _
      refine T_zif_eqt xr_191_5 (t := 42) rfl (by decide) ?_
      refine T_p xr_191_42 xn_191 (pc' := 43) (ls' := [(0, .ref 530), (1, .int (iI w)), (2, .int (iI vl))]) (st' := [.int (iI 0)]) rfl ?_
      refine T_iret xr_191_43 xf_191.2.2 (by decide) ?_
      refine hQ _ _ ?_
      exact Or.inl ⟨rfl, (by omega), rfl⟩
    · skip
      have c2334 : ¬ ((gw G) ≤ w) := c2334
      refine T_p xr_165_12 xn_165 (pc' := 13) (ls' := [(0, .ref 530), (1, .int (iI w))]) (st' := [.int (iI 1)]) rfl ?_
      refine T_p xr_165_13 xn_165 (pc' := 17) (ls' := [(0, .ref 530), (1, .int (iI w))]) (st' := [.int (iI 1)]) rfl ?_
      refine T_iret xr_165_17 xf_165.2.2 (by decide) ?_
      show X_T sc 191 (5, [(0, .ref 530), (1, .int (iI w)), (2, .int (iI vl))], [.int (iI 1)], S) _
      refine T_zif_eqf xr_191_5 (t := 42) (pc' := 8) rfl rfl (by decide) ?_
      refine T_p xr_191_8 xn_191 (pc' := 9) (ls' := [(0, .ref 530), (1, .int (iI w)), (2, .int (iI vl))]) (st' := [.ref 530]) rfl ?_
      refine T_get xr_191_9 hO530 rfl (v := .ref 542) rfl (pc' := 12) rfl ?_
      refine T_p xr_191_12 xn_191 (pc' := 14) (ls' := [(0, .ref 530), (1, .int (iI w)), (2, .int (iI vl))]) (st' := [.int (iI 30), .ref 542]) rfl ?_
      refine T_p xr_191_14 xn_191 (pc' := 15) (ls' := [(0, .ref 530), (1, .int (iI w)), (2, .int (iI vl))]) (st' := [.ref 530, .int (iI 30), .ref 542]) rfl ?_
      refine T_get xr_191_15 hO530 rfl (v := .int (iI b)) rfl (pc' := 18) rfl ?_
      refine T_zimul xr_191_18 (z := 30 * b) rfl (pc' := 19) rfl ?_
      refine T_p xr_191_19 xn_191 (pc' := 20) (ls' := [(0, .ref 530), (1, .int (iI w)), (2, .int (iI vl))]) (st' := [.int (iI w), .int (iI (30 * b)), .ref 542]) rfl ?_
      refine T_ziadd xr_191_20 (z := (30 * b) + w) rfl (pc' := 21) rfl ?_
      refine T_ziald xr_191_21 hA542 (pc' := 22) rfl ?_
      have hsw := hst w (by omega) (by omega)
      refine T_ie (y := iI (gD G w 5 0)) (by rw [hWS w (by omega) (by omega)]) ?_
      refine T_zif_ge xr_191_22 (t := 42) (pc' := 25) rfl rfl (fun c2335 => ?_) (fun c2335 => ?_)
      · skip
        have c2335 : 0 ≤ (gD G w 5 0) := c2335
        refine T_p xr_191_42 xn_191 (pc' := 43) (ls' := [(0, .ref 530), (1, .int (iI w)), (2, .int (iI vl))]) (st' := [.int (iI 0)]) rfl ?_
        refine T_iret xr_191_43 xf_191.2.2 (by decide) ?_
        refine hQ _ _ ?_
        exact Or.inl ⟨rfl, (by omega), rfl⟩
      · skip
        have c2335 : ¬ (0 ≤ (gD G w 5 0)) := c2335
        refine T_p xr_191_25 xn_191 (pc' := 26) (ls' := [(0, .ref 530), (1, .int (iI w)), (2, .int (iI vl))]) (st' := [.ref 530]) rfl ?_
        refine T_get xr_191_26 hO530 rfl (v := .ref 541) rfl (pc' := 29) rfl ?_
        refine T_p xr_191_29 xn_191 (pc' := 31) (ls' := [(0, .ref 530), (1, .int (iI w)), (2, .int (iI vl))]) (st' := [.int (iI 30), .ref 541]) rfl ?_
        refine T_p xr_191_31 xn_191 (pc' := 32) (ls' := [(0, .ref 530), (1, .int (iI w)), (2, .int (iI vl))]) (st' := [.ref 530, .int (iI 30), .ref 541]) rfl ?_
        refine T_get xr_191_32 hO530 rfl (v := .int (iI b)) rfl (pc' := 35) rfl ?_
        refine T_zimul xr_191_35 (z := 30 * b) rfl (pc' := 36) rfl ?_
        refine T_p xr_191_36 xn_191 (pc' := 37) (ls' := [(0, .ref 530), (1, .int (iI w)), (2, .int (iI vl))]) (st' := [.int (iI w), .int (iI (30 * b)), .ref 541]) rfl ?_
        refine T_ziadd xr_191_37 (z := (30 * b) + w) rfl (pc' := 38) rfl ?_
        refine T_ziald xr_191_38 hA541 (pc' := 39) rfl ?_
        refine T_ie (y := iI (gD G w 4 0)) (by rw [hWH w (by omega) (by omega)]) ?_
        refine T_zif_le xr_191_39 (t := 44) (pc' := 42) rfl rfl (fun c2336 => ?_) (fun c2336 => ?_)
        · skip
          have c2336 : (gD G w 4 0) ≤ 0 := c2336
          refine T_p xr_191_44 xn_191 (pc' := 45) (ls' := [(0, .ref 530), (1, .int (iI w)), (2, .int (iI vl))]) (st' := [.ref 530]) rfl ?_
          refine T_get xr_191_45 hO530 rfl (v := .ref 574) rfl (pc' := 48) rfl ?_
          refine T_p xr_191_48 xn_191 (pc' := 49) (ls' := [(0, .ref 530), (1, .int (iI w)), (2, .int (iI vl))]) (st' := [.int (iI w), .ref 574]) rfl ?_
          refine T_p xr_191_49 xn_191 (pc' := 50) (ls' := [(0, .ref 530), (1, .int (iI w)), (2, .int (iI vl))]) (st' := [.int (iI 1), .int (iI w), .ref 574]) rfl ?_
          refine T_zzast xr_191_50 hA574 (pc' := 51) rfl (fun S2337 h2338 n2339 e2340 => ?_)
          refine T_p xr_191_51 xn_191 (pc' := 52) (ls' := [(0, .ref 530), (1, .int (iI w)), (2, .int (iI vl))]) (st' := [.ref 530]) rfl ?_
          have h2341 := (n2339 530 (by decide)).trans (hO530)
          refine T_get xr_191_52 h2341 rfl (v := .ref 575) rfl (pc' := 55) rfl ?_
          refine T_p xr_191_55 xn_191 (pc' := 56) (ls' := [(0, .ref 530), (1, .int (iI w)), (2, .int (iI vl))]) (st' := [.int (iI w), .ref 575]) rfl ?_
          refine T_p xr_191_56 xn_191 (pc' := 57) (ls' := [(0, .ref 530), (1, .int (iI w)), (2, .int (iI vl))]) (st' := [.int (iI vl), .int (iI w), .ref 575]) rfl ?_
          have h2342 := (n2339 575 (by decide)).trans (hA575)
          refine T_ziast xr_191_57 h2342 (pc' := 58) rfl (fun S2343 h2344 n2345 e2346 => ?_)
          refine T_p xr_191_58 xn_191 (pc' := 59) (ls' := [(0, .ref 530), (1, .int (iI w)), (2, .int (iI vl))]) (st' := [.int (iI 1)]) rfl ?_
          refine T_iret xr_191_59 xf_191.2.2 (by decide) ?_
          refine hQ _ _ ?_
          have h2347 := (n2345 574 (by decide)).trans (h2338)
          exact Or.inr ⟨rfl, (by omega), h2347, h2344, ((X_Fr.rf).tr (X_Fr.of n2339 e2340 (by first | decide | exact ⟨Nat.le_add_right _ _, Nat.add_le_add_left (by decide) _⟩ | omega))).tr (X_Fr.of n2345 e2346 (by first | decide | exact ⟨Nat.le_add_right _ _, Nat.add_le_add_left (by decide) _⟩ | omega))⟩
        · skip
          have c2336 : ¬ ((gD G w 4 0) ≤ 0) := c2336
          refine T_p xr_191_42 xn_191 (pc' := 43) (ls' := [(0, .ref 530), (1, .int (iI w)), (2, .int (iI vl))]) (st' := [.int (iI 0)]) rfl ?_
          refine T_iret xr_191_43 xf_191.2.2 (by decide) ?_
          refine hQ _ _ ?_
          exact Or.inl ⟨rfl, (by omega), rfl⟩
set_option maxHeartbeats 1600000 in
theorem r_isAgainst (sc : X_Sc) (S : X_S) (tg : Int → Int) (wR : Int → Int) (wL : Int → Int) (wM : Int → Int) (eP : Int → Int64) (o : Nat → Int) (nm : Int64) (b : Int) (rc : Int) (G : X_G) (tn : Int) (x : Int) (y : Int) (hO530 : S.1 530 = .inr (11, [.ref 531, .int (iI (o 1)), .ref 532, .int (iI (o 3)), .int (iI b), .int (iI (o 5)), .int (iI (o 6)), .int (iI (o 7)), .int (iI (o 8)), .int (iI (o 9)), .int (iI (o 10)), .int (iI (o 11)), .long nm, .ref 533, .ref 534, .ref 535, .ref 536, .ref 537, .ref 538, .ref 539, .ref 540, .ref 541, .ref 542, .ref 543, .ref 544, .ref 545, .ref 546, .ref 547, .int (iI rc), .int (iI (gk G)), .int (iI (gw G)), .int (iI (o 31)), .int (iI (o 32)), .int (iI (o 33)), .ref 548, .ref 549, .ref 550, .ref 551, .int (iI tn), .ref 552, .ref 553, .ref 554, .ref 555, .ref 556, .ref 557, .ref 558, .ref 559, .ref 560, .ref 561, .int (iI (o 49)), .ref 562, .ref 563, .ref 564, .ref 565, .ref 566, .ref 567, .ref 568, .ref 569, .int (iI (o 58)), .ref 570, .ref 571, .ref 572, .ref 573, .ref 574, .ref 575, .ref 576, .ref 577, .ref 578, .int (iI (o 68)), .int (iI (o 69)), .int (iI (o 70)), .ref 579])) (hA535 : S.1 535 = .inl (.boolean, 288, .inl fun k : Nat => iI (tg (k : Int)))) (hA537 : S.1 537 = .inl (.int, 60, .inl fun k : Nat => iI (wR (k : Int)))) (hA538 : S.1 538 = .inl (.int, 60, .inl fun k : Nat => iI (wL (k : Int)))) (hA540 : S.1 540 = .inl (.int, 60, .inl fun k : Nat => iI (wM (k : Int)))) (hA545 : S.1 545 = .inl (.long, 480, .inr (.inl fun k : Nat => eP (k : Int)))) (hbr : 0 ≤ b ∧ b ≤ 1) (hG : X_Gok G) (hTG : (∀ i j, 0 ≤ i → i < rc → 0 ≤ j → j < rc → tg (144 * b + 12 * i + j) = bI (X_bt (gl G i) j)) ∧ ∀ w, 0 ≤ w → w < gw G → gD G w 0 0 < rc) (hWR : ∀ w, 0 ≤ w → w < gw G → wR (30 * b + w) = gD G w 0 0) (hWL : ∀ w, 0 ≤ w → w < gw G → wL (30 * b + w) = gD G w 1 0) (hWM : ∀ w, 0 ≤ w → w < gw G → wM (30 * b + w) = gD G w 3 0) (hEP : ∀ w, 0 ≤ w → w < gw G → ∀ e, 0 ≤ e → e < gD G w 3 0 → eP (8 * (30 * b + w) + e) = gW G w e) (hx : 0 ≤ x ∧ x < gw G) (hy : 0 ≤ y ∧ y < gw G) : X_T sc 200 (0, [(0, .ref 530), (1, .int (iI x)), (2, .int (iI y))], [], S) (fun v S' => v = some (.int (iI (bI (X_ag (gl G) (gD G) (gW G) x y)))) ∧ S' = S) := by
  have hc1 := hG.1
  have hgx := hG.2.2.2 x hx.1 hx.2
  have hgy := hG.2.2.2 y hy.1 hy.2
  have hsx := hgx.1
  have hsy := hgy.1
  have hrx := hTG.2 x hx.1 hx.2
  have hry := hTG.2 y hy.1 hy.2
  have hrx2 := hgx.2.2.2.1
  have hlx := hgx.2.2.2.2.1
  have hly := hgy.2.2.2.2.1
  have hry2 := hgy.2.2.2.1
  have hex := X_en_r (gD G x) (gW G x)
  have hey := X_en_r (gD G y) (gW G y)
  refine X_QI (fun Q hQ => ?_)
  refine T_p xr_200_0 xn_200 (pc' := 2) (ls' := [(0, .ref 530), (1, .int (iI x)), (2, .int (iI y))]) (st' := [.int (iI 30)]) rfl ?_
  refine T_p xr_200_2 xn_200 (pc' := 3) (ls' := [(0, .ref 530), (1, .int (iI x)), (2, .int (iI y))]) (st' := [.ref 530, .int (iI 30)]) rfl ?_
  refine T_get xr_200_3 hO530 rfl (v := .int (iI b)) rfl (pc' := 6) rfl ?_
  refine T_zimul xr_200_6 (z := 30 * b) rfl (pc' := 7) rfl ?_
  refine T_p xr_200_7 xn_200 (pc' := 8) (ls' := [(0, .ref 530), (1, .int (iI x)), (2, .int (iI y))]) (st' := [.int (iI x), .int (iI (30 * b))]) rfl ?_
  refine T_ziadd xr_200_8 (z := (30 * b) + x) rfl (pc' := 9) rfl ?_
  refine T_p xr_200_9 xn_200 (pc' := 10) (ls' := [(3, .int (iI ((30 * b) + x))), (0, .ref 530), (1, .int (iI x)), (2, .int (iI y))]) (st' := []) rfl ?_
  refine T_p xr_200_10 xn_200 (pc' := 12) (ls' := [(3, .int (iI ((30 * b) + x))), (0, .ref 530), (1, .int (iI x)), (2, .int (iI y))]) (st' := [.int (iI 30)]) rfl ?_
  refine T_p xr_200_12 xn_200 (pc' := 13) (ls' := [(3, .int (iI ((30 * b) + x))), (0, .ref 530), (1, .int (iI x)), (2, .int (iI y))]) (st' := [.ref 530, .int (iI 30)]) rfl ?_
  refine T_get xr_200_13 hO530 rfl (v := .int (iI b)) rfl (pc' := 16) rfl ?_
  refine T_zimul xr_200_16 (z := 30 * b) rfl (pc' := 17) rfl ?_
  refine T_p xr_200_17 xn_200 (pc' := 18) (ls' := [(3, .int (iI ((30 * b) + x))), (0, .ref 530), (1, .int (iI x)), (2, .int (iI y))]) (st' := [.int (iI y), .int (iI (30 * b))]) rfl ?_
  refine T_ziadd xr_200_18 (z := (30 * b) + y) rfl (pc' := 19) rfl ?_
  refine T_p xr_200_19 xn_200 (pc' := 21) (ls' := [(4, .int (iI ((30 * b) + y))), (3, .int (iI ((30 * b) + x))), (0, .ref 530), (1, .int (iI x)), (2, .int (iI y))]) (st' := []) rfl ?_
  refine T_p xr_200_21 xn_200 (pc' := 22) (ls' := [(4, .int (iI ((30 * b) + y))), (3, .int (iI ((30 * b) + x))), (0, .ref 530), (1, .int (iI x)), (2, .int (iI y))]) (st' := [.int (iI 0)]) rfl ?_
  refine T_p xr_200_22 xn_200 (pc' := 24) (ls' := [(5, .int (iI 0)), (4, .int (iI ((30 * b) + y))), (3, .int (iI ((30 * b) + x))), (0, .ref 530), (1, .int (iI x)), (2, .int (iI y))]) (st' := []) rfl ?_
  have L2348 : ∀ (m2350 : Nat) (e : Int) (he : 0 ≤ e ∧ e ≤ gD G x 3 0) (hno : ∀ e1 m1, 0 ≤ e1 → e1 < e → 0 ≤ m1 → m1 < gD G y 3 0 → (x = y → e1 < m1) → ¬ gW G x e1 = 0 → ¬ gW G x e1 = gW G y m1) (hm2351 : gD G x 3 0 - e < m2350), X_T sc 200 (24, [(5, .int (iI e)), (4, .int (iI (30 * b + y))), (3, .int (iI (30 * b + x))), (2, .int (iI y)), (1, .int (iI x)), (0, .ref 530)], [], S) Q := by
    intro m2350
    induction m2350 with
    | zero =>
      intro e he hno hm2351
      exact (show False by omega).elim
    | succ m2350 ih2349 =>
      intro e he hno hm2351
      refine T_p xr_200_24 xn_200 (pc' := 26) (ls' := [(5, .int (iI e)), (4, .int (iI (30 * b + y))), (3, .int (iI (30 * b + x))), (2, .int (iI y)), (1, .int (iI x)), (0, .ref 530)]) (st' := [.int (iI e)]) rfl ?_
      refine T_p xr_200_26 xn_200 (pc' := 27) (ls' := [(5, .int (iI e)), (4, .int (iI (30 * b + y))), (3, .int (iI (30 * b + x))), (2, .int (iI y)), (1, .int (iI x)), (0, .ref 530)]) (st' := [.ref 530, .int (iI e)]) rfl ?_
      refine T_get xr_200_27 hO530 rfl (v := .ref 540) rfl (pc' := 30) rfl ?_
      refine T_p xr_200_30 xn_200 (pc' := 31) (ls' := [(5, .int (iI e)), (4, .int (iI (30 * b + y))), (3, .int (iI (30 * b + x))), (2, .int (iI y)), (1, .int (iI x)), (0, .ref 530)]) (st' := [.int (iI (30 * b + x)), .ref 540, .int (iI e)]) rfl ?_
      refine T_ziald xr_200_31 hA540 (pc' := 32) rfl ?_
      refine T_ie (y := iI (gD G x 3 0)) (by rw [hWM x (by omega) (by omega)]) ?_
      refine T_zicmp_ge xr_200_32 (t := 116) (pc' := 35) rfl rfl (fun c2353 => ?_) (fun c2353 => ?_)
      · skip
        have c2353 : (gD G x 3 0) ≤ e := c2353
        have hnt1 : x = y → ¬ X_h2 (gD G x) (gW G x) := by
          rintro hxy ⟨e1, k1, g1, g2, g3, g4, g5⟩
          exact hno e1 k1 g1 (by omega) (by omega) (by rw [← hxy]; exact g3) (fun _ => g2) (fun z => g4 ⟨g1, by omega, z⟩) (by rw [← hxy]; exact g5)
        have hnt2 : ¬ x = y → ¬ X_sp (gD G x) (gW G x) (gD G y) (gW G y) := by
          rintro hxy ⟨e1, g1, g2, g3, k1, g4, g5, g7⟩
          exact hno e1 k1 g1 (by omega) g4 g5 (fun z => absurd z hxy) (fun z => g3 ⟨g1, g2, z⟩) g7.symm
        refine T_p xr_200_116 xn_200 (pc' := 117) (ls' := [(5, .int (iI e)), (4, .int (iI (30 * b + y))), (3, .int (iI (30 * b + x))), (2, .int (iI y)), (1, .int (iI x)), (0, .ref 530)]) (st' := [.int (iI x)]) rfl ?_
        refine T_p xr_200_117 xn_200 (pc' := 118) (ls' := [(5, .int (iI e)), (4, .int (iI (30 * b + y))), (3, .int (iI (30 * b + x))), (2, .int (iI y)), (1, .int (iI x)), (0, .ref 530)]) (st' := [.int (iI y), .int (iI x)]) rfl ?_
        refine T_zicmp_ne xr_200_118 (t := 145) (pc' := 121) rfl rfl (fun c2354 => ?_) (fun c2354 => ?_)
        · skip
          have c2354 : ¬ x = y := c2354
          refine T_p xr_200_145 xn_200 (pc' := 146) (ls' := [(5, .int (iI e)), (4, .int (iI (30 * b + y))), (3, .int (iI (30 * b + x))), (2, .int (iI y)), (1, .int (iI x)), (0, .ref 530)]) (st' := [.ref 530]) rfl ?_
          refine T_p xr_200_146 xn_200 (pc' := 147) (ls' := [(5, .int (iI e)), (4, .int (iI (30 * b + y))), (3, .int (iI (30 * b + x))), (2, .int (iI y)), (1, .int (iI x)), (0, .ref 530)]) (st' := [.int (iI (30 * b + x)), .ref 530]) rfl ?_
          refine T_cv (S := S) (q := 530) xr_200_147 xf_160.1 xf_160.2.1 xn_160 (as := [.int (iI (30 * b + x))]) (r := []) rfl hO530 (Nat.le_of_ble_eq_true rfl) (Nat.le_of_ble_eq_true rfl) (pc' := 150) rfl (ls' := [(0, .ref 530), (1, .int (iI (30 * b + x)))]) rfl ?_
          refine T_mono (r_ends2 sc S wM eP o nm b rc G tn x hO530 hA540 hA545 (by omega) hG hWM hEP (by omega)) (fun v2355 S2356 h2357 => ?_)
          rcases h2357 with ⟨hv2358, hf2359⟩
          rw [hv2358]
          rw [hf2359]
          have hen2360 := X_en_r (gD G x) (gW G x)
          show X_T sc 200 (150, [(5, .int (iI e)), (4, .int (iI (30 * b + y))), (3, .int (iI (30 * b + x))), (2, .int (iI y)), (1, .int (iI x)), (0, .ref 530)], [.int (iI (X_en (gD G x) (gW G x)))], S) _
          refine T_zif_eq xr_200_150 (t := 202) (pc' := 153) rfl rfl (fun c2361 => ?_) (fun c2361 => ?_)
          · skip
            have c2361 : (X_en (gD G x) (gW G x)) = 0 := c2361
            refine T_p xr_200_202 xn_200 (pc' := 203) (ls' := [(5, .int (iI e)), (4, .int (iI (30 * b + y))), (3, .int (iI (30 * b + x))), (2, .int (iI y)), (1, .int (iI x)), (0, .ref 530)]) (st' := [.int (iI 0)]) rfl ?_
            refine T_iret xr_200_203 xf_200.2.2 (by decide) ?_
            refine hQ _ _ ?_
            exact ⟨(by rw [bI_f (by unfold X_ag; rintro (⟨h1, h2 | ⟨h2, h3⟩⟩ | ⟨h1, h2 | ⟨h2, h3, h4, h5, h6⟩⟩) <;> first | omega | exact hnt1 h1 h2 | exact hnt2 h1 h2 | contradiction | exact absurd ⟨by omega, by assumption, by omega⟩ h4)]), rfl⟩
          · skip
            have c2361 : ¬ ((X_en (gD G x) (gW G x)) = 0) := c2361
            refine T_p xr_200_153 xn_200 (pc' := 154) (ls' := [(5, .int (iI e)), (4, .int (iI (30 * b + y))), (3, .int (iI (30 * b + x))), (2, .int (iI y)), (1, .int (iI x)), (0, .ref 530)]) (st' := [.ref 530]) rfl ?_
            refine T_p xr_200_154 xn_200 (pc' := 156) (ls' := [(5, .int (iI e)), (4, .int (iI (30 * b + y))), (3, .int (iI (30 * b + x))), (2, .int (iI y)), (1, .int (iI x)), (0, .ref 530)]) (st' := [.int (iI (30 * b + y)), .ref 530]) rfl ?_
            refine T_cv (S := S) (q := 530) xr_200_156 xf_160.1 xf_160.2.1 xn_160 (as := [.int (iI (30 * b + y))]) (r := []) rfl hO530 (Nat.le_of_ble_eq_true rfl) (Nat.le_of_ble_eq_true rfl) (pc' := 159) rfl (ls' := [(0, .ref 530), (1, .int (iI (30 * b + y)))]) rfl ?_
            refine T_mono (r_ends2 sc S wM eP o nm b rc G tn y hO530 hA540 hA545 (by omega) hG hWM hEP (by omega)) (fun v2362 S2363 h2364 => ?_)
            rcases h2364 with ⟨hv2365, hf2366⟩
            rw [hv2365]
            rw [hf2366]
            have hen2367 := X_en_r (gD G y) (gW G y)
            show X_T sc 200 (159, [(5, .int (iI e)), (4, .int (iI (30 * b + y))), (3, .int (iI (30 * b + x))), (2, .int (iI y)), (1, .int (iI x)), (0, .ref 530)], [.int (iI (X_en (gD G y) (gW G y)))], S) _
            refine T_zif_eq xr_200_159 (t := 202) (pc' := 162) rfl rfl (fun c2368 => ?_) (fun c2368 => ?_)
            · skip
              have c2368 : (X_en (gD G y) (gW G y)) = 0 := c2368
              refine T_p xr_200_202 xn_200 (pc' := 203) (ls' := [(5, .int (iI e)), (4, .int (iI (30 * b + y))), (3, .int (iI (30 * b + x))), (2, .int (iI y)), (1, .int (iI x)), (0, .ref 530)]) (st' := [.int (iI 0)]) rfl ?_
              refine T_iret xr_200_203 xf_200.2.2 (by decide) ?_
              refine hQ _ _ ?_
              exact ⟨(by rw [bI_f (by unfold X_ag; rintro (⟨h1, h2 | ⟨h2, h3⟩⟩ | ⟨h1, h2 | ⟨h2, h3, h4, h5, h6⟩⟩) <;> first | omega | exact hnt1 h1 h2 | exact hnt2 h1 h2 | contradiction | exact absurd ⟨by omega, by assumption, by omega⟩ h4)]), rfl⟩
            · skip
              have c2368 : ¬ ((X_en (gD G y) (gW G y)) = 0) := c2368
              refine T_p xr_200_162 xn_200 (pc' := 163) (ls' := [(5, .int (iI e)), (4, .int (iI (30 * b + y))), (3, .int (iI (30 * b + x))), (2, .int (iI y)), (1, .int (iI x)), (0, .ref 530)]) (st' := [.ref 530]) rfl ?_
              refine T_p xr_200_163 xn_200 (pc' := 164) (ls' := [(5, .int (iI e)), (4, .int (iI (30 * b + y))), (3, .int (iI (30 * b + x))), (2, .int (iI y)), (1, .int (iI x)), (0, .ref 530)]) (st' := [.ref 530, .ref 530]) rfl ?_
              refine T_get xr_200_164 hO530 rfl (v := .ref 537) rfl (pc' := 167) rfl ?_
              refine T_p xr_200_167 xn_200 (pc' := 168) (ls' := [(5, .int (iI e)), (4, .int (iI (30 * b + y))), (3, .int (iI (30 * b + x))), (2, .int (iI y)), (1, .int (iI x)), (0, .ref 530)]) (st' := [.int (iI (30 * b + x)), .ref 537, .ref 530]) rfl ?_
              refine T_ziald xr_200_168 hA537 (pc' := 169) rfl ?_
              refine T_ie (y := iI (gD G x 0 0)) (by rw [hWR x (by omega) (by omega)]) ?_
              refine T_p xr_200_169 xn_200 (pc' := 170) (ls' := [(5, .int (iI e)), (4, .int (iI (30 * b + y))), (3, .int (iI (30 * b + x))), (2, .int (iI y)), (1, .int (iI x)), (0, .ref 530)]) (st' := [.ref 530, .int (iI (gD G x 0 0)), .ref 530]) rfl ?_
              refine T_get xr_200_170 hO530 rfl (v := .ref 537) rfl (pc' := 173) rfl ?_
              refine T_p xr_200_173 xn_200 (pc' := 175) (ls' := [(5, .int (iI e)), (4, .int (iI (30 * b + y))), (3, .int (iI (30 * b + x))), (2, .int (iI y)), (1, .int (iI x)), (0, .ref 530)]) (st' := [.int (iI (30 * b + y)), .ref 537, .int (iI (gD G x 0 0)), .ref 530]) rfl ?_
              refine T_ziald xr_200_175 hA537 (pc' := 176) rfl ?_
              refine T_ie (y := iI (gD G y 0 0)) (by rw [hWR y (by omega) (by omega)]) ?_
              refine T_cv (S := S) (q := 530) xr_200_176 xf_154.1 xf_154.2.1 xn_154 (as := [.int (iI (gD G x 0 0)), .int (iI (gD G y 0 0))]) (r := []) rfl hO530 (Nat.le_of_ble_eq_true rfl) (Nat.le_of_ble_eq_true rfl) (pc' := 179) rfl (ls' := [(0, .ref 530), (1, .int (iI (gD G x 0 0))), (2, .int (iI (gD G y 0 0)))]) rfl ?_
              refine T_p xr_154_0 xn_154 (pc' := 1) (ls' := [(0, .ref 530), (1, .int (iI (gD G x 0 0))), (2, .int (iI (gD G y 0 0)))]) (st' := [.ref 530]) rfl ?_
              refine T_get xr_154_1 hO530 rfl (v := .ref 535) rfl (pc' := 4) rfl ?_
              refine T_p xr_154_4 xn_154 (pc' := 7) (ls' := [(0, .ref 530), (1, .int (iI (gD G x 0 0))), (2, .int (iI (gD G y 0 0)))]) (st' := [.int (iI 144), .ref 535]) rfl ?_
              refine T_p xr_154_7 xn_154 (pc' := 8) (ls' := [(0, .ref 530), (1, .int (iI (gD G x 0 0))), (2, .int (iI (gD G y 0 0)))]) (st' := [.ref 530, .int (iI 144), .ref 535]) rfl ?_
              refine T_get xr_154_8 hO530 rfl (v := .int (iI b)) rfl (pc' := 11) rfl ?_
              refine T_zimul xr_154_11 (z := 144 * b) rfl (pc' := 12) rfl ?_
              refine T_p xr_154_12 xn_154 (pc' := 14) (ls' := [(0, .ref 530), (1, .int (iI (gD G x 0 0))), (2, .int (iI (gD G y 0 0)))]) (st' := [.int (iI 12), .int (iI (144 * b)), .ref 535]) rfl ?_
              refine T_p xr_154_14 xn_154 (pc' := 15) (ls' := [(0, .ref 530), (1, .int (iI (gD G x 0 0))), (2, .int (iI (gD G y 0 0)))]) (st' := [.int (iI (gD G x 0 0)), .int (iI 12), .int (iI (144 * b)), .ref 535]) rfl ?_
              refine T_zimul xr_154_15 (z := 12 * (gD G x 0 0)) rfl (pc' := 16) rfl ?_
              refine T_ziadd xr_154_16 (z := (144 * b) + (12 * (gD G x 0 0))) rfl (pc' := 17) rfl ?_
              refine T_p xr_154_17 xn_154 (pc' := 18) (ls' := [(0, .ref 530), (1, .int (iI (gD G x 0 0))), (2, .int (iI (gD G y 0 0)))]) (st' := [.int (iI (gD G y 0 0)), .int (iI ((144 * b) + (12 * (gD G x 0 0)))), .ref 535]) rfl ?_
              refine T_ziadd xr_154_18 (z := ((144 * b) + (12 * (gD G x 0 0))) + (gD G y 0 0)) rfl (pc' := 19) rfl ?_
              refine T_zzald xr_154_19 hA535 (pc' := 20) rfl ?_
              refine T_ie (y := iI (bI (X_bt (gl G (gD G x 0 0)) (gD G y 0 0)))) (congrArg iI (hTG.1 (gD G x 0 0) (gD G y 0 0) (by omega) (by omega) (by omega) (by omega))) ?_
              refine T_iret xr_154_20 xf_154.2.2 (X_fit_b _) ?_
              show X_T sc 200 (179, [(5, .int (iI e)), (4, .int (iI (30 * b + y))), (3, .int (iI (30 * b + x))), (2, .int (iI y)), (1, .int (iI x)), (0, .ref 530)], [.int (iI (bI (X_bt (gl G (gD G x 0 0)) (gD G y 0 0))))], S) _
              refine T_bif_ne xr_200_179 (t := 202) (pc' := 182) rfl rfl (fun c2369 => ?_) (fun c2369 => ?_)
              · skip
                have c2369 : (X_bt (gl G (gD G x 0 0)) (gD G y 0 0)) := c2369
                refine T_p xr_200_202 xn_200 (pc' := 203) (ls' := [(5, .int (iI e)), (4, .int (iI (30 * b + y))), (3, .int (iI (30 * b + x))), (2, .int (iI y)), (1, .int (iI x)), (0, .ref 530)]) (st' := [.int (iI 0)]) rfl ?_
                refine T_iret xr_200_203 xf_200.2.2 (by decide) ?_
                refine hQ _ _ ?_
                exact ⟨(by rw [bI_f (by unfold X_ag; rintro (⟨h1, h2 | ⟨h2, h3⟩⟩ | ⟨h1, h2 | ⟨h2, h3, h4, h5, h6⟩⟩) <;> first | omega | exact hnt1 h1 h2 | exact hnt2 h1 h2 | contradiction | exact absurd ⟨by omega, by assumption, by omega⟩ h4)]), rfl⟩
              · skip
                have c2369 : ¬ (X_bt (gl G (gD G x 0 0)) (gD G y 0 0)) := c2369
                refine T_p xr_200_182 xn_200 (pc' := 183) (ls' := [(5, .int (iI e)), (4, .int (iI (30 * b + y))), (3, .int (iI (30 * b + x))), (2, .int (iI y)), (1, .int (iI x)), (0, .ref 530)]) (st' := [.ref 530]) rfl ?_
                refine T_p xr_200_183 xn_200 (pc' := 184) (ls' := [(5, .int (iI e)), (4, .int (iI (30 * b + y))), (3, .int (iI (30 * b + x))), (2, .int (iI y)), (1, .int (iI x)), (0, .ref 530)]) (st' := [.ref 530, .ref 530]) rfl ?_
                refine T_get xr_200_184 hO530 rfl (v := .ref 537) rfl (pc' := 187) rfl ?_
                refine T_p xr_200_187 xn_200 (pc' := 189) (ls' := [(5, .int (iI e)), (4, .int (iI (30 * b + y))), (3, .int (iI (30 * b + x))), (2, .int (iI y)), (1, .int (iI x)), (0, .ref 530)]) (st' := [.int (iI (30 * b + y)), .ref 537, .ref 530]) rfl ?_
                refine T_ziald xr_200_189 hA537 (pc' := 190) rfl ?_
                refine T_ie (y := iI (gD G y 0 0)) (by rw [hWR y (by omega) (by omega)]) ?_
                refine T_p xr_200_190 xn_200 (pc' := 191) (ls' := [(5, .int (iI e)), (4, .int (iI (30 * b + y))), (3, .int (iI (30 * b + x))), (2, .int (iI y)), (1, .int (iI x)), (0, .ref 530)]) (st' := [.ref 530, .int (iI (gD G y 0 0)), .ref 530]) rfl ?_
                refine T_get xr_200_191 hO530 rfl (v := .ref 537) rfl (pc' := 194) rfl ?_
                refine T_p xr_200_194 xn_200 (pc' := 195) (ls' := [(5, .int (iI e)), (4, .int (iI (30 * b + y))), (3, .int (iI (30 * b + x))), (2, .int (iI y)), (1, .int (iI x)), (0, .ref 530)]) (st' := [.int (iI (30 * b + x)), .ref 537, .int (iI (gD G y 0 0)), .ref 530]) rfl ?_
                refine T_ziald xr_200_195 hA537 (pc' := 196) rfl ?_
                refine T_ie (y := iI (gD G x 0 0)) (by rw [hWR x (by omega) (by omega)]) ?_
                refine T_cv (S := S) (q := 530) xr_200_196 xf_154.1 xf_154.2.1 xn_154 (as := [.int (iI (gD G y 0 0)), .int (iI (gD G x 0 0))]) (r := []) rfl hO530 (Nat.le_of_ble_eq_true rfl) (Nat.le_of_ble_eq_true rfl) (pc' := 199) rfl (ls' := [(0, .ref 530), (1, .int (iI (gD G y 0 0))), (2, .int (iI (gD G x 0 0)))]) rfl ?_
                refine T_p xr_154_0 xn_154 (pc' := 1) (ls' := [(0, .ref 530), (1, .int (iI (gD G y 0 0))), (2, .int (iI (gD G x 0 0)))]) (st' := [.ref 530]) rfl ?_
                refine T_get xr_154_1 hO530 rfl (v := .ref 535) rfl (pc' := 4) rfl ?_
                refine T_p xr_154_4 xn_154 (pc' := 7) (ls' := [(0, .ref 530), (1, .int (iI (gD G y 0 0))), (2, .int (iI (gD G x 0 0)))]) (st' := [.int (iI 144), .ref 535]) rfl ?_
                refine T_p xr_154_7 xn_154 (pc' := 8) (ls' := [(0, .ref 530), (1, .int (iI (gD G y 0 0))), (2, .int (iI (gD G x 0 0)))]) (st' := [.ref 530, .int (iI 144), .ref 535]) rfl ?_
                refine T_get xr_154_8 hO530 rfl (v := .int (iI b)) rfl (pc' := 11) rfl ?_
                refine T_zimul xr_154_11 (z := 144 * b) rfl (pc' := 12) rfl ?_
                refine T_p xr_154_12 xn_154 (pc' := 14) (ls' := [(0, .ref 530), (1, .int (iI (gD G y 0 0))), (2, .int (iI (gD G x 0 0)))]) (st' := [.int (iI 12), .int (iI (144 * b)), .ref 535]) rfl ?_
                refine T_p xr_154_14 xn_154 (pc' := 15) (ls' := [(0, .ref 530), (1, .int (iI (gD G y 0 0))), (2, .int (iI (gD G x 0 0)))]) (st' := [.int (iI (gD G y 0 0)), .int (iI 12), .int (iI (144 * b)), .ref 535]) rfl ?_
                refine T_zimul xr_154_15 (z := 12 * (gD G y 0 0)) rfl (pc' := 16) rfl ?_
                refine T_ziadd xr_154_16 (z := (144 * b) + (12 * (gD G y 0 0))) rfl (pc' := 17) rfl ?_
                refine T_p xr_154_17 xn_154 (pc' := 18) (ls' := [(0, .ref 530), (1, .int (iI (gD G y 0 0))), (2, .int (iI (gD G x 0 0)))]) (st' := [.int (iI (gD G x 0 0)), .int (iI ((144 * b) + (12 * (gD G y 0 0)))), .ref 535]) rfl ?_
                refine T_ziadd xr_154_18 (z := ((144 * b) + (12 * (gD G y 0 0))) + (gD G x 0 0)) rfl (pc' := 19) rfl ?_
                refine T_zzald xr_154_19 hA535 (pc' := 20) rfl ?_
                refine T_ie (y := iI (bI (X_bt (gl G (gD G y 0 0)) (gD G x 0 0)))) (congrArg iI (hTG.1 (gD G y 0 0) (gD G x 0 0) (by omega) (by omega) (by omega) (by omega))) ?_
                refine T_iret xr_154_20 xf_154.2.2 (X_fit_b _) ?_
                show X_T sc 200 (199, [(5, .int (iI e)), (4, .int (iI (30 * b + y))), (3, .int (iI (30 * b + x))), (2, .int (iI y)), (1, .int (iI x)), (0, .ref 530)], [.int (iI (bI (X_bt (gl G (gD G y 0 0)) (gD G x 0 0))))], S) _
                refine T_bif_eq xr_200_199 (t := 204) (pc' := 202) rfl rfl (fun c2370 => ?_) (fun c2370 => ?_)
                · skip
                  have c2370 : ¬ (X_bt (gl G (gD G y 0 0)) (gD G x 0 0)) := c2370
                  refine T_p xr_200_204 xn_200 (pc' := 205) (ls' := [(5, .int (iI e)), (4, .int (iI (30 * b + y))), (3, .int (iI (30 * b + x))), (2, .int (iI y)), (1, .int (iI x)), (0, .ref 530)]) (st' := [.ref 530]) rfl ?_
                  refine T_get xr_200_205 hO530 rfl (v := .ref 537) rfl (pc' := 208) rfl ?_
                  refine T_p xr_200_208 xn_200 (pc' := 209) (ls' := [(5, .int (iI e)), (4, .int (iI (30 * b + y))), (3, .int (iI (30 * b + x))), (2, .int (iI y)), (1, .int (iI x)), (0, .ref 530)]) (st' := [.int (iI (30 * b + x)), .ref 537]) rfl ?_
                  refine T_ziald xr_200_209 hA537 (pc' := 210) rfl ?_
                  refine T_ie (y := iI (gD G x 0 0)) (by rw [hWR x (by omega) (by omega)]) ?_
                  refine T_p xr_200_210 xn_200 (pc' := 211) (ls' := [(5, .int (iI e)), (4, .int (iI (30 * b + y))), (3, .int (iI (30 * b + x))), (2, .int (iI y)), (1, .int (iI x)), (0, .ref 530)]) (st' := [.ref 530, .int (iI (gD G x 0 0))]) rfl ?_
                  refine T_get xr_200_211 hO530 rfl (v := .ref 537) rfl (pc' := 214) rfl ?_
                  refine T_p xr_200_214 xn_200 (pc' := 216) (ls' := [(5, .int (iI e)), (4, .int (iI (30 * b + y))), (3, .int (iI (30 * b + x))), (2, .int (iI y)), (1, .int (iI x)), (0, .ref 530)]) (st' := [.int (iI (30 * b + y)), .ref 537, .int (iI (gD G x 0 0))]) rfl ?_
                  refine T_ziald xr_200_216 hA537 (pc' := 217) rfl ?_
                  refine T_ie (y := iI (gD G y 0 0)) (by rw [hWR y (by omega) (by omega)]) ?_
                  refine T_zicmp_ne xr_200_217 (t := 245) (pc' := 220) rfl rfl (fun c2371 => ?_) (fun c2371 => ?_)
                  · skip
                    have c2371 : ¬ (gD G x 0 0) = (gD G y 0 0) := c2371
                    refine T_p xr_200_245 xn_200 (pc' := 246) (ls' := [(5, .int (iI e)), (4, .int (iI (30 * b + y))), (3, .int (iI (30 * b + x))), (2, .int (iI y)), (1, .int (iI x)), (0, .ref 530)]) (st' := [.int (iI 1)]) rfl ?_
                    refine T_p xr_200_246 xn_200 (pc' := 250) (ls' := [(5, .int (iI e)), (4, .int (iI (30 * b + y))), (3, .int (iI (30 * b + x))), (2, .int (iI y)), (1, .int (iI x)), (0, .ref 530)]) (st' := [.int (iI 1)]) rfl ?_
                    refine T_iret xr_200_250 xf_200.2.2 (by decide) ?_
                    refine hQ _ _ ?_
                    refine ⟨(by rw [bI_t (by unfold X_ag; first
                            | (by_cases hxy : x = y
                               · refine Or.inl ⟨hxy, Or.inl ⟨e, m, by omega, by omega, by rw [hxy]; omega, (show ¬ X_hl (gD G x) (gW G x) e from fun z => absurd z.2.2 (show ¬ gW G x e = iL 0 by assumption)), ?_⟩⟩
                                 have hq : gW G x e = gW G y m := by first | assumption | exact Classical.not_not.mp (by assumption)
                                 rw [hq, hxy]
                               · refine Or.inr ⟨hxy, Or.inl ⟨e, by omega, by omega, (show ¬ X_hl (gD G x) (gW G x) e from fun z => absurd z.2.2 (show ¬ gW G x e = iL 0 by assumption)), m, by omega, by omega, ?_⟩⟩
                                 exact (show gW G x e = gW G y m by first | assumption | exact Classical.not_not.mp (by assumption)).symm)
                            | exact Or.inl ⟨by omega, Or.inr ⟨by omega, by omega⟩⟩
                            | exact Or.inr ⟨by omega, Or.inr ⟨by assumption, by assumption, fun z => by omega, by assumption, by assumption⟩⟩)]), rfl⟩
                  · skip
                    have c2371 : ¬ (¬ (gD G x 0 0) = (gD G y 0 0)) := c2371
                    refine T_p xr_200_220 xn_200 (pc' := 221) (ls' := [(5, .int (iI e)), (4, .int (iI (30 * b + y))), (3, .int (iI (30 * b + x))), (2, .int (iI y)), (1, .int (iI x)), (0, .ref 530)]) (st' := [.ref 530]) rfl ?_
                    refine T_get xr_200_221 hO530 rfl (v := .ref 538) rfl (pc' := 224) rfl ?_
                    refine T_p xr_200_224 xn_200 (pc' := 225) (ls' := [(5, .int (iI e)), (4, .int (iI (30 * b + y))), (3, .int (iI (30 * b + x))), (2, .int (iI y)), (1, .int (iI x)), (0, .ref 530)]) (st' := [.int (iI (30 * b + x)), .ref 538]) rfl ?_
                    refine T_ziald xr_200_225 hA538 (pc' := 226) rfl ?_
                    refine T_ie (y := iI (gD G x 1 0)) (by rw [hWL x (by omega) (by omega)]) ?_
                    refine T_zif_eq xr_200_226 (t := 245) (pc' := 229) rfl rfl (fun c2372 => ?_) (fun c2372 => ?_)
                    · skip
                      have c2372 : (gD G x 1 0) = 0 := c2372
                      refine T_p xr_200_245 xn_200 (pc' := 246) (ls' := [(5, .int (iI e)), (4, .int (iI (30 * b + y))), (3, .int (iI (30 * b + x))), (2, .int (iI y)), (1, .int (iI x)), (0, .ref 530)]) (st' := [.int (iI 1)]) rfl ?_
                      refine T_p xr_200_246 xn_200 (pc' := 250) (ls' := [(5, .int (iI e)), (4, .int (iI (30 * b + y))), (3, .int (iI (30 * b + x))), (2, .int (iI y)), (1, .int (iI x)), (0, .ref 530)]) (st' := [.int (iI 1)]) rfl ?_
                      refine T_iret xr_200_250 xf_200.2.2 (by decide) ?_
                      refine hQ _ _ ?_
                      refine ⟨(by rw [bI_t (by unfold X_ag; first
                              | (by_cases hxy : x = y
                                 · refine Or.inl ⟨hxy, Or.inl ⟨e, m, by omega, by omega, by rw [hxy]; omega, (show ¬ X_hl (gD G x) (gW G x) e from fun z => absurd z.2.2 (show ¬ gW G x e = iL 0 by assumption)), ?_⟩⟩
                                   have hq : gW G x e = gW G y m := by first | assumption | exact Classical.not_not.mp (by assumption)
                                   rw [hq, hxy]
                                 · refine Or.inr ⟨hxy, Or.inl ⟨e, by omega, by omega, (show ¬ X_hl (gD G x) (gW G x) e from fun z => absurd z.2.2 (show ¬ gW G x e = iL 0 by assumption)), m, by omega, by omega, ?_⟩⟩
                                   exact (show gW G x e = gW G y m by first | assumption | exact Classical.not_not.mp (by assumption)).symm)
                              | exact Or.inl ⟨by omega, Or.inr ⟨by omega, by omega⟩⟩
                              | exact Or.inr ⟨by omega, Or.inr ⟨by assumption, by assumption, fun z => by omega, by assumption, by assumption⟩⟩)]), rfl⟩
                    · skip
                      have c2372 : ¬ ((gD G x 1 0) = 0) := c2372
                      refine T_p xr_200_229 xn_200 (pc' := 230) (ls' := [(5, .int (iI e)), (4, .int (iI (30 * b + y))), (3, .int (iI (30 * b + x))), (2, .int (iI y)), (1, .int (iI x)), (0, .ref 530)]) (st' := [.ref 530]) rfl ?_
                      refine T_get xr_200_230 hO530 rfl (v := .ref 538) rfl (pc' := 233) rfl ?_
                      refine T_p xr_200_233 xn_200 (pc' := 234) (ls' := [(5, .int (iI e)), (4, .int (iI (30 * b + y))), (3, .int (iI (30 * b + x))), (2, .int (iI y)), (1, .int (iI x)), (0, .ref 530)]) (st' := [.int (iI (30 * b + x)), .ref 538]) rfl ?_
                      refine T_ziald xr_200_234 hA538 (pc' := 235) rfl ?_
                      refine T_ie (y := iI (gD G x 1 0)) (by rw [hWL x (by omega) (by omega)]) ?_
                      refine T_p xr_200_235 xn_200 (pc' := 236) (ls' := [(5, .int (iI e)), (4, .int (iI (30 * b + y))), (3, .int (iI (30 * b + x))), (2, .int (iI y)), (1, .int (iI x)), (0, .ref 530)]) (st' := [.ref 530, .int (iI (gD G x 1 0))]) rfl ?_
                      refine T_get xr_200_236 hO530 rfl (v := .ref 538) rfl (pc' := 239) rfl ?_
                      refine T_p xr_200_239 xn_200 (pc' := 241) (ls' := [(5, .int (iI e)), (4, .int (iI (30 * b + y))), (3, .int (iI (30 * b + x))), (2, .int (iI y)), (1, .int (iI x)), (0, .ref 530)]) (st' := [.int (iI (30 * b + y)), .ref 538, .int (iI (gD G x 1 0))]) rfl ?_
                      refine T_ziald xr_200_241 hA538 (pc' := 242) rfl ?_
                      refine T_ie (y := iI (gD G y 1 0)) (by rw [hWL y (by omega) (by omega)]) ?_
                      refine T_zicmp_eq xr_200_242 (t := 249) (pc' := 245) rfl rfl (fun c2373 => ?_) (fun c2373 => ?_)
                      · skip
                        have c2373 : (gD G x 1 0) = (gD G y 1 0) := c2373
                        refine T_p xr_200_249 xn_200 (pc' := 250) (ls' := [(5, .int (iI e)), (4, .int (iI (30 * b + y))), (3, .int (iI (30 * b + x))), (2, .int (iI y)), (1, .int (iI x)), (0, .ref 530)]) (st' := [.int (iI 0)]) rfl ?_
                        refine T_iret xr_200_250 xf_200.2.2 (by decide) ?_
                        refine hQ _ _ ?_
                        exact ⟨(by rw [bI_f (by unfold X_ag; rintro (⟨h1, h2 | ⟨h2, h3⟩⟩ | ⟨h1, h2 | ⟨h2, h3, h4, h5, h6⟩⟩) <;> first | omega | exact hnt1 h1 h2 | exact hnt2 h1 h2 | contradiction | exact absurd ⟨by omega, by assumption, by omega⟩ h4)]), rfl⟩
                      · skip
                        have c2373 : ¬ ((gD G x 1 0) = (gD G y 1 0)) := c2373
                        refine T_p xr_200_245 xn_200 (pc' := 246) (ls' := [(5, .int (iI e)), (4, .int (iI (30 * b + y))), (3, .int (iI (30 * b + x))), (2, .int (iI y)), (1, .int (iI x)), (0, .ref 530)]) (st' := [.int (iI 1)]) rfl ?_
                        refine T_p xr_200_246 xn_200 (pc' := 250) (ls' := [(5, .int (iI e)), (4, .int (iI (30 * b + y))), (3, .int (iI (30 * b + x))), (2, .int (iI y)), (1, .int (iI x)), (0, .ref 530)]) (st' := [.int (iI 1)]) rfl ?_
                        refine T_iret xr_200_250 xf_200.2.2 (by decide) ?_
                        refine hQ _ _ ?_
                        refine ⟨(by rw [bI_t (by unfold X_ag; first
                                | (by_cases hxy : x = y
                                   · refine Or.inl ⟨hxy, Or.inl ⟨e, m, by omega, by omega, by rw [hxy]; omega, (show ¬ X_hl (gD G x) (gW G x) e from fun z => absurd z.2.2 (show ¬ gW G x e = iL 0 by assumption)), ?_⟩⟩
                                     have hq : gW G x e = gW G y m := by first | assumption | exact Classical.not_not.mp (by assumption)
                                     rw [hq, hxy]
                                   · refine Or.inr ⟨hxy, Or.inl ⟨e, by omega, by omega, (show ¬ X_hl (gD G x) (gW G x) e from fun z => absurd z.2.2 (show ¬ gW G x e = iL 0 by assumption)), m, by omega, by omega, ?_⟩⟩
                                     exact (show gW G x e = gW G y m by first | assumption | exact Classical.not_not.mp (by assumption)).symm)
                                | exact Or.inl ⟨by omega, Or.inr ⟨by omega, by omega⟩⟩
                                | exact Or.inr ⟨by omega, Or.inr ⟨by assumption, by assumption, fun z => by omega, by assumption, by assumption⟩⟩)]), rfl⟩
                · skip
                  have c2370 : (X_bt (gl G (gD G y 0 0)) (gD G x 0 0)) := c2370
                  refine T_p xr_200_202 xn_200 (pc' := 203) (ls' := [(5, .int (iI e)), (4, .int (iI (30 * b + y))), (3, .int (iI (30 * b + x))), (2, .int (iI y)), (1, .int (iI x)), (0, .ref 530)]) (st' := [.int (iI 0)]) rfl ?_
                  refine T_iret xr_200_203 xf_200.2.2 (by decide) ?_
                  refine hQ _ _ ?_
                  exact ⟨(by rw [bI_f (by unfold X_ag; rintro (⟨h1, h2 | ⟨h2, h3⟩⟩ | ⟨h1, h2 | ⟨h2, h3, h4, h5, h6⟩⟩) <;> first | omega | exact hnt1 h1 h2 | exact hnt2 h1 h2 | contradiction | exact absurd ⟨by omega, by assumption, by omega⟩ h4)]), rfl⟩
        · skip
          have c2354 : ¬ (¬ x = y) := c2354
          refine T_p xr_200_121 xn_200 (pc' := 122) (ls' := [(5, .int (iI e)), (4, .int (iI (30 * b + y))), (3, .int (iI (30 * b + x))), (2, .int (iI y)), (1, .int (iI x)), (0, .ref 530)]) (st' := [.ref 530]) rfl ?_
          refine T_p xr_200_122 xn_200 (pc' := 123) (ls' := [(5, .int (iI e)), (4, .int (iI (30 * b + y))), (3, .int (iI (30 * b + x))), (2, .int (iI y)), (1, .int (iI x)), (0, .ref 530)]) (st' := [.int (iI (30 * b + x)), .ref 530]) rfl ?_
          refine T_cv (S := S) (q := 530) xr_200_123 xf_160.1 xf_160.2.1 xn_160 (as := [.int (iI (30 * b + x))]) (r := []) rfl hO530 (Nat.le_of_ble_eq_true rfl) (Nat.le_of_ble_eq_true rfl) (pc' := 126) rfl (ls' := [(0, .ref 530), (1, .int (iI (30 * b + x)))]) rfl ?_
          refine T_mono (r_ends2 sc S wM eP o nm b rc G tn x hO530 hA540 hA545 (by omega) hG hWM hEP (by omega)) (fun v2374 S2375 h2376 => ?_)
          rcases h2376 with ⟨hv2377, hf2378⟩
          rw [hv2377]
          rw [hf2378]
          have hen2379 := X_en_r (gD G x) (gW G x)
          show X_T sc 200 (126, [(5, .int (iI e)), (4, .int (iI (30 * b + y))), (3, .int (iI (30 * b + x))), (2, .int (iI y)), (1, .int (iI x)), (0, .ref 530)], [.int (iI (X_en (gD G x) (gW G x)))], S) _
          refine T_p xr_200_126 xn_200 (pc' := 127) (ls' := [(5, .int (iI e)), (4, .int (iI (30 * b + y))), (3, .int (iI (30 * b + x))), (2, .int (iI y)), (1, .int (iI x)), (0, .ref 530)]) (st' := [.int (iI 3), .int (iI (X_en (gD G x) (gW G x)))]) rfl ?_
          refine T_zicmp_ne xr_200_127 (t := 143) (pc' := 130) rfl rfl (fun c2380 => ?_) (fun c2380 => ?_)
          · skip
            have c2380 : ¬ (X_en (gD G x) (gW G x)) = 3 := c2380
            refine T_p xr_200_143 xn_200 (pc' := 144) (ls' := [(5, .int (iI e)), (4, .int (iI (30 * b + y))), (3, .int (iI (30 * b + x))), (2, .int (iI y)), (1, .int (iI x)), (0, .ref 530)]) (st' := [.int (iI 0)]) rfl ?_
            refine T_iret xr_200_144 xf_200.2.2 (by decide) ?_
            refine hQ _ _ ?_
            exact ⟨(by rw [bI_f (by unfold X_ag; rintro (⟨h1, h2 | ⟨h2, h3⟩⟩ | ⟨h1, h2 | ⟨h2, h3, h4, h5, h6⟩⟩) <;> first | omega | exact hnt1 h1 h2 | exact hnt2 h1 h2 | contradiction | exact absurd ⟨by omega, by assumption, by omega⟩ h4)]), rfl⟩
          · skip
            have c2380 : ¬ (¬ (X_en (gD G x) (gW G x)) = 3) := c2380
            refine T_p xr_200_130 xn_200 (pc' := 131) (ls' := [(5, .int (iI e)), (4, .int (iI (30 * b + y))), (3, .int (iI (30 * b + x))), (2, .int (iI y)), (1, .int (iI x)), (0, .ref 530)]) (st' := [.ref 530]) rfl ?_
            refine T_get xr_200_131 hO530 rfl (v := .ref 538) rfl (pc' := 134) rfl ?_
            refine T_p xr_200_134 xn_200 (pc' := 135) (ls' := [(5, .int (iI e)), (4, .int (iI (30 * b + y))), (3, .int (iI (30 * b + x))), (2, .int (iI y)), (1, .int (iI x)), (0, .ref 530)]) (st' := [.int (iI (30 * b + x)), .ref 538]) rfl ?_
            refine T_ziald xr_200_135 hA538 (pc' := 136) rfl ?_
            refine T_ie (y := iI (gD G x 1 0)) (by rw [hWL x (by omega) (by omega)]) ?_
            refine T_zif_ne xr_200_136 (t := 143) (pc' := 139) rfl rfl (fun c2381 => ?_) (fun c2381 => ?_)
            · skip
              have c2381 : ¬ (gD G x 1 0) = 0 := c2381
              refine T_p xr_200_143 xn_200 (pc' := 144) (ls' := [(5, .int (iI e)), (4, .int (iI (30 * b + y))), (3, .int (iI (30 * b + x))), (2, .int (iI y)), (1, .int (iI x)), (0, .ref 530)]) (st' := [.int (iI 0)]) rfl ?_
              refine T_iret xr_200_144 xf_200.2.2 (by decide) ?_
              refine hQ _ _ ?_
              exact ⟨(by rw [bI_f (by unfold X_ag; rintro (⟨h1, h2 | ⟨h2, h3⟩⟩ | ⟨h1, h2 | ⟨h2, h3, h4, h5, h6⟩⟩) <;> first | omega | exact hnt1 h1 h2 | exact hnt2 h1 h2 | contradiction | exact absurd ⟨by omega, by assumption, by omega⟩ h4)]), rfl⟩
            · skip
              have c2381 : ¬ (¬ (gD G x 1 0) = 0) := c2381
              refine T_p xr_200_139 xn_200 (pc' := 140) (ls' := [(5, .int (iI e)), (4, .int (iI (30 * b + y))), (3, .int (iI (30 * b + x))), (2, .int (iI y)), (1, .int (iI x)), (0, .ref 530)]) (st' := [.int (iI 1)]) rfl ?_
              refine T_p xr_200_140 xn_200 (pc' := 144) (ls' := [(5, .int (iI e)), (4, .int (iI (30 * b + y))), (3, .int (iI (30 * b + x))), (2, .int (iI y)), (1, .int (iI x)), (0, .ref 530)]) (st' := [.int (iI 1)]) rfl ?_
              refine T_iret xr_200_144 xf_200.2.2 (by decide) ?_
              refine hQ _ _ ?_
              refine ⟨(by rw [bI_t (by unfold X_ag; first
                      | (by_cases hxy : x = y
                         · refine Or.inl ⟨hxy, Or.inl ⟨e, m, by omega, by omega, by rw [hxy]; omega, (show ¬ X_hl (gD G x) (gW G x) e from fun z => absurd z.2.2 (show ¬ gW G x e = iL 0 by assumption)), ?_⟩⟩
                           have hq : gW G x e = gW G y m := by first | assumption | exact Classical.not_not.mp (by assumption)
                           rw [hq, hxy]
                         · refine Or.inr ⟨hxy, Or.inl ⟨e, by omega, by omega, (show ¬ X_hl (gD G x) (gW G x) e from fun z => absurd z.2.2 (show ¬ gW G x e = iL 0 by assumption)), m, by omega, by omega, ?_⟩⟩
                           exact (show gW G x e = gW G y m by first | assumption | exact Classical.not_not.mp (by assumption)).symm)
                      | exact Or.inl ⟨by omega, Or.inr ⟨by omega, by omega⟩⟩
                      | exact Or.inr ⟨by omega, Or.inr ⟨by assumption, by assumption, fun z => by omega, by assumption, by assumption⟩⟩)]), rfl⟩
      · skip
        have c2353 : ¬ ((gD G x 3 0) ≤ e) := c2353
        refine T_p xr_200_35 xn_200 (pc' := 36) (ls' := [(5, .int (iI e)), (4, .int (iI (30 * b + y))), (3, .int (iI (30 * b + x))), (2, .int (iI y)), (1, .int (iI x)), (0, .ref 530)]) (st' := [.ref 530]) rfl ?_
        refine T_get xr_200_36 hO530 rfl (v := .ref 545) rfl (pc' := 39) rfl ?_
        refine T_p xr_200_39 xn_200 (pc' := 41) (ls' := [(5, .int (iI e)), (4, .int (iI (30 * b + y))), (3, .int (iI (30 * b + x))), (2, .int (iI y)), (1, .int (iI x)), (0, .ref 530)]) (st' := [.int (iI 8), .ref 545]) rfl ?_
        refine T_p xr_200_41 xn_200 (pc' := 42) (ls' := [(5, .int (iI e)), (4, .int (iI (30 * b + y))), (3, .int (iI (30 * b + x))), (2, .int (iI y)), (1, .int (iI x)), (0, .ref 530)]) (st' := [.int (iI (30 * b + x)), .int (iI 8), .ref 545]) rfl ?_
        refine T_zimul xr_200_42 (z := 8 * (30 * b + x)) rfl (pc' := 43) rfl ?_
        refine T_p xr_200_43 xn_200 (pc' := 45) (ls' := [(5, .int (iI e)), (4, .int (iI (30 * b + y))), (3, .int (iI (30 * b + x))), (2, .int (iI y)), (1, .int (iI x)), (0, .ref 530)]) (st' := [.int (iI e), .int (iI (8 * (30 * b + x))), .ref 545]) rfl ?_
        refine T_ziadd xr_200_45 (z := (8 * (30 * b + x)) + e) rfl (pc' := 46) rfl ?_
        refine T_zlald xr_200_46 hA545 (pc' := 47) rfl ?_
        refine T_le (y := (gW G x e)) (by rw [← hEP x hx.1 hx.2 e (by omega) (by omega)]) ?_
        refine T_p xr_200_47 xn_200 (pc' := 49) (ls' := [(6, .long (gW G x e)), (5, .int (iI e)), (4, .int (iI (30 * b + y))), (3, .int (iI (30 * b + x))), (2, .int (iI y)), (1, .int (iI x)), (0, .ref 530)]) (st' := []) rfl ?_
        obtain ⟨m0, hm0⟩ : ∃ m0 : Int, m0 = if x = y then e + 1 else 0 := ⟨_, rfl⟩
        have hm1 : (x = y → m0 = e + 1) ∧ (¬ x = y → m0 = 0) := ⟨fun h => by rw [hm0, if_pos h], fun h => by rw [hm0, if_neg h]⟩
        have J2382 : X_T sc 200 (62, [(6, .long (gW G x e)), (5, .int (iI e)), (4, .int (iI (30 * b + y))), (3, .int (iI (30 * b + x))), (2, .int (iI y)), (1, .int (iI x)), (0, .ref 530)], [.int (iI m0)], S) Q := by
          refine T_p xr_200_62 xn_200 (pc' := 64) (ls' := [(8, .int (iI m0)), (6, .long (gW G x e)), (5, .int (iI e)), (4, .int (iI (30 * b + y))), (3, .int (iI (30 * b + x))), (2, .int (iI y)), (1, .int (iI x)), (0, .ref 530)]) (st' := []) rfl ?_
          have L2383 : ∀ (m2385 : Nat) (m : Int) (hm : m0 ≤ m ∧ 0 ≤ m ∧ m ≤ 8) (hnm : ∀ m1, m0 ≤ m1 → m1 < m → ¬ gW G x e = 0 → ¬ gW G x e = gW G y m1) (hm2386 : gD G y 3 0 + 9 - m < m2385), X_T sc 200 (64, [(8, .int (iI m)), (6, .long (gW G x e)), (5, .int (iI e)), (4, .int (iI (30 * b + y))), (3, .int (iI (30 * b + x))), (2, .int (iI y)), (1, .int (iI x)), (0, .ref 530)], [], S) Q := by
            intro m2385
            induction m2385 with
            | zero =>
              intro m hm hnm hm2386
              exact (show False by omega).elim
            | succ m2385 ih2384 =>
              intro m hm hnm hm2386
              refine T_p xr_200_64 xn_200 (pc' := 66) (ls' := [(8, .int (iI m)), (6, .long (gW G x e)), (5, .int (iI e)), (4, .int (iI (30 * b + y))), (3, .int (iI (30 * b + x))), (2, .int (iI y)), (1, .int (iI x)), (0, .ref 530)]) (st' := [.int (iI m)]) rfl ?_
              refine T_p xr_200_66 xn_200 (pc' := 67) (ls' := [(8, .int (iI m)), (6, .long (gW G x e)), (5, .int (iI e)), (4, .int (iI (30 * b + y))), (3, .int (iI (30 * b + x))), (2, .int (iI y)), (1, .int (iI x)), (0, .ref 530)]) (st' := [.ref 530, .int (iI m)]) rfl ?_
              refine T_get xr_200_67 hO530 rfl (v := .ref 540) rfl (pc' := 70) rfl ?_
              refine T_p xr_200_70 xn_200 (pc' := 72) (ls' := [(8, .int (iI m)), (6, .long (gW G x e)), (5, .int (iI e)), (4, .int (iI (30 * b + y))), (3, .int (iI (30 * b + x))), (2, .int (iI y)), (1, .int (iI x)), (0, .ref 530)]) (st' := [.int (iI (30 * b + y)), .ref 540, .int (iI m)]) rfl ?_
              refine T_ziald xr_200_72 hA540 (pc' := 73) rfl ?_
              refine T_ie (y := iI (gD G y 3 0)) (by rw [hWM y (by omega) (by omega)]) ?_
              refine T_zicmp_ge xr_200_73 (t := 110) (pc' := 76) rfl rfl (fun c2388 => ?_) (fun c2388 => ?_)
              · skip
                have c2388 : (gD G y 3 0) ≤ m := c2388
                refine T_ziinc xr_200_110 xn_200 (a := e) (z := e + 1) rfl (Nat.le_of_ble_eq_true rfl) (by omega) (ls' := [(5, .int (iI (e + 1))), (8, .int (iI m)), (6, .long (gW G x e)), (4, .int (iI (30 * b + y))), (3, .int (iI (30 * b + x))), (2, .int (iI y)), (1, .int (iI x)), (0, .ref 530)]) rfl (pc' := 113) rfl ?_
                refine T_p xr_200_113 xn_200 (pc' := 24) (ls' := [(5, .int (iI (e + 1))), (8, .int (iI m)), (6, .long (gW G x e)), (4, .int (iI (30 * b + y))), (3, .int (iI (30 * b + x))), (2, .int (iI y)), (1, .int (iI x)), (0, .ref 530)]) (st' := []) rfl ?_
                refine T_sub (ls := [(5, .int (iI (e + 1))), (4, .int (iI (30 * b + y))), (3, .int (iI (30 * b + x))), (2, .int (iI y)), (1, .int (iI x)), (0, .ref 530)]) ⟨rfl, rfl, rfl, rfl, rfl, rfl, trivial⟩ rfl rfl ?_
                exact ih2349 (e + 1)  (by omega) (fun e1 m1 h1 h2 h3 h4 h5 h6 => by
                      by_cases hh : e1 = e
                      · subst hh; exact hnm m1 (by
                          by_cases hxy : x = y
                          · have := h5 hxy; omega
                          · omega) (by omega) h6
                      · exact hno e1 m1 h1 (by omega) h3 h4 h5 h6) (by omega)
              · skip
                have c2388 : ¬ ((gD G y 3 0) ≤ m) := c2388
                refine T_p xr_200_76 xn_200 (pc' := 78) (ls' := [(8, .int (iI m)), (6, .long (gW G x e)), (5, .int (iI e)), (4, .int (iI (30 * b + y))), (3, .int (iI (30 * b + x))), (2, .int (iI y)), (1, .int (iI x)), (0, .ref 530)]) (st' := [.long (gW G x e)]) rfl ?_
                refine T_p xr_200_78 xn_200 (pc' := 79) (ls' := [(8, .int (iI m)), (6, .long (gW G x e)), (5, .int (iI e)), (4, .int (iI (30 * b + y))), (3, .int (iI (30 * b + x))), (2, .int (iI y)), (1, .int (iI x)), (0, .ref 530)]) (st' := [.long (iL 0), .long (gW G x e)]) rfl ?_
                refine T_lc_eq xr_200_79 xr_200_80 (t := 104) (pc' := 83) rfl rfl (fun c2389 => ?_) (fun c2389 => ?_)
                · skip
                  have c2389 : (gW G x e) = (iL 0) := c2389
                  refine T_ziinc xr_200_104 xn_200 (a := m) (z := m + 1) rfl (Nat.le_of_ble_eq_true rfl) (by omega) (ls' := [(8, .int (iI (m + 1))), (6, .long (gW G x e)), (5, .int (iI e)), (4, .int (iI (30 * b + y))), (3, .int (iI (30 * b + x))), (2, .int (iI y)), (1, .int (iI x)), (0, .ref 530)]) rfl (pc' := 107) rfl ?_
                  refine T_p xr_200_107 xn_200 (pc' := 64) (ls' := [(8, .int (iI (m + 1))), (6, .long (gW G x e)), (5, .int (iI e)), (4, .int (iI (30 * b + y))), (3, .int (iI (30 * b + x))), (2, .int (iI y)), (1, .int (iI x)), (0, .ref 530)]) (st' := []) rfl ?_
                  exact ih2384 (m + 1)  (by omega) (fun m1 h1 h2 h3 => by
                        by_cases hh : m1 = m
                        · subst hh; first | assumption | exact absurd (by assumption) h3
                        · exact hnm m1 h1 (by omega) h3) (by omega)
                · skip
                  have c2389 : ¬ ((gW G x e) = (iL 0)) := c2389
                  refine T_p xr_200_83 xn_200 (pc' := 85) (ls' := [(8, .int (iI m)), (6, .long (gW G x e)), (5, .int (iI e)), (4, .int (iI (30 * b + y))), (3, .int (iI (30 * b + x))), (2, .int (iI y)), (1, .int (iI x)), (0, .ref 530)]) (st' := [.long (gW G x e)]) rfl ?_
                  refine T_p xr_200_85 xn_200 (pc' := 86) (ls' := [(8, .int (iI m)), (6, .long (gW G x e)), (5, .int (iI e)), (4, .int (iI (30 * b + y))), (3, .int (iI (30 * b + x))), (2, .int (iI y)), (1, .int (iI x)), (0, .ref 530)]) (st' := [.ref 530, .long (gW G x e)]) rfl ?_
                  refine T_get xr_200_86 hO530 rfl (v := .ref 545) rfl (pc' := 89) rfl ?_
                  refine T_p xr_200_89 xn_200 (pc' := 91) (ls' := [(8, .int (iI m)), (6, .long (gW G x e)), (5, .int (iI e)), (4, .int (iI (30 * b + y))), (3, .int (iI (30 * b + x))), (2, .int (iI y)), (1, .int (iI x)), (0, .ref 530)]) (st' := [.int (iI 8), .ref 545, .long (gW G x e)]) rfl ?_
                  refine T_p xr_200_91 xn_200 (pc' := 93) (ls' := [(8, .int (iI m)), (6, .long (gW G x e)), (5, .int (iI e)), (4, .int (iI (30 * b + y))), (3, .int (iI (30 * b + x))), (2, .int (iI y)), (1, .int (iI x)), (0, .ref 530)]) (st' := [.int (iI (30 * b + y)), .int (iI 8), .ref 545, .long (gW G x e)]) rfl ?_
                  refine T_zimul xr_200_93 (z := 8 * (30 * b + y)) rfl (pc' := 94) rfl ?_
                  refine T_p xr_200_94 xn_200 (pc' := 96) (ls' := [(8, .int (iI m)), (6, .long (gW G x e)), (5, .int (iI e)), (4, .int (iI (30 * b + y))), (3, .int (iI (30 * b + x))), (2, .int (iI y)), (1, .int (iI x)), (0, .ref 530)]) (st' := [.int (iI m), .int (iI (8 * (30 * b + y))), .ref 545, .long (gW G x e)]) rfl ?_
                  refine T_ziadd xr_200_96 (z := (8 * (30 * b + y)) + m) rfl (pc' := 97) rfl ?_
                  refine T_zlald xr_200_97 hA545 (pc' := 98) rfl ?_
                  refine T_le (y := (gW G y m)) (by rw [← hEP y hy.1 hy.2 m (by omega) (by omega)]) ?_
                  refine T_lc_ne xr_200_98 xr_200_99 (t := 104) (pc' := 102) rfl rfl (fun c2390 => ?_) (fun c2390 => ?_)
                  · skip
                    have c2390 : ¬ (gW G x e) = (gW G y m) := c2390
                    refine T_ziinc xr_200_104 xn_200 (a := m) (z := m + 1) rfl (Nat.le_of_ble_eq_true rfl) (by omega) (ls' := [(8, .int (iI (m + 1))), (6, .long (gW G x e)), (5, .int (iI e)), (4, .int (iI (30 * b + y))), (3, .int (iI (30 * b + x))), (2, .int (iI y)), (1, .int (iI x)), (0, .ref 530)]) rfl (pc' := 107) rfl ?_
                    refine T_p xr_200_107 xn_200 (pc' := 64) (ls' := [(8, .int (iI (m + 1))), (6, .long (gW G x e)), (5, .int (iI e)), (4, .int (iI (30 * b + y))), (3, .int (iI (30 * b + x))), (2, .int (iI y)), (1, .int (iI x)), (0, .ref 530)]) (st' := []) rfl ?_
                    exact ih2384 (m + 1)  (by omega) (fun m1 h1 h2 h3 => by
                          by_cases hh : m1 = m
                          · subst hh; first | assumption | exact absurd (by assumption) h3
                          · exact hnm m1 h1 (by omega) h3) (by omega)
                  · skip
                    have c2390 : ¬ (¬ (gW G x e) = (gW G y m)) := c2390
                    refine T_p xr_200_102 xn_200 (pc' := 103) (ls' := [(8, .int (iI m)), (6, .long (gW G x e)), (5, .int (iI e)), (4, .int (iI (30 * b + y))), (3, .int (iI (30 * b + x))), (2, .int (iI y)), (1, .int (iI x)), (0, .ref 530)]) (st' := [.int (iI 1)]) rfl ?_
                    refine T_iret xr_200_103 xf_200.2.2 (by decide) ?_
                    refine hQ _ _ ?_
                    refine ⟨(by rw [bI_t (by unfold X_ag; first
                            | (by_cases hxy : x = y
                               · refine Or.inl ⟨hxy, Or.inl ⟨e, m, by omega, by omega, by rw [hxy]; omega, (show ¬ X_hl (gD G x) (gW G x) e from fun z => absurd z.2.2 (show ¬ gW G x e = iL 0 by assumption)), ?_⟩⟩
                                 have hq : gW G x e = gW G y m := by first | assumption | exact Classical.not_not.mp (by assumption)
                                 rw [hq, hxy]
                               · refine Or.inr ⟨hxy, Or.inl ⟨e, by omega, by omega, (show ¬ X_hl (gD G x) (gW G x) e from fun z => absurd z.2.2 (show ¬ gW G x e = iL 0 by assumption)), m, by omega, by omega, ?_⟩⟩
                                 exact (show gW G x e = gW G y m by first | assumption | exact Classical.not_not.mp (by assumption)).symm)
                            | exact Or.inl ⟨by omega, Or.inr ⟨by omega, by omega⟩⟩
                            | exact Or.inr ⟨by omega, Or.inr ⟨by assumption, by assumption, fun z => by omega, by assumption, by assumption⟩⟩)]), rfl⟩
          exact L2383 ((gD G y 3 0 + 9) + 1).toNat m0  (by omega) (fun m1 h1 h2 => absurd h2 (by omega)) (by omega)
        refine T_p xr_200_49 xn_200 (pc' := 50) (ls' := [(6, .long (gW G x e)), (5, .int (iI e)), (4, .int (iI (30 * b + y))), (3, .int (iI (30 * b + x))), (2, .int (iI y)), (1, .int (iI x)), (0, .ref 530)]) (st' := [.int (iI x)]) rfl ?_
        refine T_p xr_200_50 xn_200 (pc' := 51) (ls' := [(6, .long (gW G x e)), (5, .int (iI e)), (4, .int (iI (30 * b + y))), (3, .int (iI (30 * b + x))), (2, .int (iI y)), (1, .int (iI x)), (0, .ref 530)]) (st' := [.int (iI y), .int (iI x)]) rfl ?_
        refine T_zicmp_ne xr_200_51 (t := 61) (pc' := 54) rfl rfl (fun c2391 => ?_) (fun c2391 => ?_)
        · skip
          have c2391 : ¬ x = y := c2391
          refine T_p xr_200_61 xn_200 (pc' := 62) (ls' := [(6, .long (gW G x e)), (5, .int (iI e)), (4, .int (iI (30 * b + y))), (3, .int (iI (30 * b + x))), (2, .int (iI y)), (1, .int (iI x)), (0, .ref 530)]) (st' := [.int (iI 0)]) rfl ?_
          refine T_ie (y := iI m0) (by congr 1; omega) ?_
          exact J2382
        · skip
          have c2391 : ¬ (¬ x = y) := c2391
          refine T_p xr_200_54 xn_200 (pc' := 56) (ls' := [(6, .long (gW G x e)), (5, .int (iI e)), (4, .int (iI (30 * b + y))), (3, .int (iI (30 * b + x))), (2, .int (iI y)), (1, .int (iI x)), (0, .ref 530)]) (st' := [.int (iI e)]) rfl ?_
          refine T_p xr_200_56 xn_200 (pc' := 57) (ls' := [(6, .long (gW G x e)), (5, .int (iI e)), (4, .int (iI (30 * b + y))), (3, .int (iI (30 * b + x))), (2, .int (iI y)), (1, .int (iI x)), (0, .ref 530)]) (st' := [.int (iI 1), .int (iI e)]) rfl ?_
          refine T_ziadd xr_200_57 (z := e + 1) rfl (pc' := 58) rfl ?_
          refine T_p xr_200_58 xn_200 (pc' := 62) (ls' := [(6, .long (gW G x e)), (5, .int (iI e)), (4, .int (iI (30 * b + y))), (3, .int (iI (30 * b + x))), (2, .int (iI y)), (1, .int (iI x)), (0, .ref 530)]) (st' := [.int (iI (e + 1))]) rfl ?_
          refine T_ie (y := iI m0) (by congr 1; omega) ?_
          exact J2382
  refine T_sub (ls := [(5, .int (iI 0)), (4, .int (iI ((30 * b) + y))), (3, .int (iI ((30 * b) + x))), (2, .int (iI y)), (1, .int (iI x)), (0, .ref 530)]) ⟨rfl, rfl, rfl, rfl, rfl, rfl, trivial⟩ rfl rfl ?_
  exact L2348 ((gD G x 3 0) + 1).toNat 0  (by omega) (fun e1 m1 h1 h2 => absurd h2 (by omega)) (by omega)
theorem r_sure (sc : X_Sc) (S : X_S) (tg : Int → Int) (wR : Int → Int) (wL : Int → Int) (wM : Int → Int) (eP : Int → Int64) (o : Nat → Int) (nm : Int64) (b : Int) (rc : Int) (G : X_G) (tn : Int) (hO530 : S.1 530 = .inr (11, [.ref 531, .int (iI (o 1)), .ref 532, .int (iI (o 3)), .int (iI b), .int (iI (o 5)), .int (iI (o 6)), .int (iI (o 7)), .int (iI (o 8)), .int (iI (o 9)), .int (iI (o 10)), .int (iI (o 11)), .long nm, .ref 533, .ref 534, .ref 535, .ref 536, .ref 537, .ref 538, .ref 539, .ref 540, .ref 541, .ref 542, .ref 543, .ref 544, .ref 545, .ref 546, .ref 547, .int (iI rc), .int (iI (gk G)), .int (iI (gw G)), .int (iI (o 31)), .int (iI (o 32)), .int (iI (o 33)), .ref 548, .ref 549, .ref 550, .ref 551, .int (iI tn), .ref 552, .ref 553, .ref 554, .ref 555, .ref 556, .ref 557, .ref 558, .ref 559, .ref 560, .ref 561, .int (iI (o 49)), .ref 562, .ref 563, .ref 564, .ref 565, .ref 566, .ref 567, .ref 568, .ref 569, .int (iI (o 58)), .ref 570, .ref 571, .ref 572, .ref 573, .ref 574, .ref 575, .ref 576, .ref 577, .ref 578, .int (iI (o 68)), .int (iI (o 69)), .int (iI (o 70)), .ref 579])) (hA535 : S.1 535 = .inl (.boolean, 288, .inl fun k : Nat => iI (tg (k : Int)))) (hA537 : S.1 537 = .inl (.int, 60, .inl fun k : Nat => iI (wR (k : Int)))) (hA538 : S.1 538 = .inl (.int, 60, .inl fun k : Nat => iI (wL (k : Int)))) (hA540 : S.1 540 = .inl (.int, 60, .inl fun k : Nat => iI (wM (k : Int)))) (hA545 : S.1 545 = .inl (.long, 480, .inr (.inl fun k : Nat => eP (k : Int)))) (hbr : 0 ≤ b ∧ b ≤ 1) (hG : X_Gok G) (hTG : (∀ i j, 0 ≤ i → i < rc → 0 ≤ j → j < rc → tg (144 * b + 12 * i + j) = bI (X_bt (gl G i) j)) ∧ ∀ w, 0 ≤ w → w < gw G → gD G w 0 0 < rc) (hWR : ∀ w, 0 ≤ w → w < gw G → wR (30 * b + w) = gD G w 0 0) (hWL : ∀ w, 0 ≤ w → w < gw G → wL (30 * b + w) = gD G w 1 0) (hWM : ∀ w, 0 ≤ w → w < gw G → wM (30 * b + w) = gD G w 3 0) (hEP : ∀ w, 0 ≤ w → w < gw G → ∀ e, 0 ≤ e → e < gD G w 3 0 → eP (8 * (30 * b + w) + e) = gW G w e) : X_T sc 199 (0, [(0, .ref 530)], [], S) (fun v S' => ∃ (r : Int), v = some (.int (iI r)) ∧ X_qSu G r ∧ S' = S) := by
  have hc1 := hG.1
  refine X_QI (fun Q hQ => ?_)
  refine T_p xr_199_0 xn_199 (pc' := 1) (ls' := [(0, .ref 530)]) (st' := [.int (iI 0)]) rfl ?_
  refine T_p xr_199_1 xn_199 (pc' := 2) (ls' := [(1, .int (iI 0)), (0, .ref 530)]) (st' := []) rfl ?_
  have L2392 : ∀ (m2394 : Nat) (a : Int) (ha : 0 ≤ a ∧ a ≤ gw G) (hno : ∀ a1 b1, 0 ≤ a1 → a1 ≤ b1 → b1 < gw G → a1 < a → ¬ X_ag (gl G) (gD G) (gW G) a1 b1) (hm2395 : gw G - a < m2394), X_T sc 199 (2, [(1, .int (iI a)), (0, .ref 530)], [], S) Q := by
    intro m2394
    induction m2394 with
    | zero =>
      intro a ha hno hm2395
      exact (show False by omega).elim
    | succ m2394 ih2393 =>
      intro a ha hno hm2395
      refine T_p xr_199_2 xn_199 (pc' := 3) (ls' := [(1, .int (iI a)), (0, .ref 530)]) (st' := [.int (iI a)]) rfl ?_
      refine T_p xr_199_3 xn_199 (pc' := 4) (ls' := [(1, .int (iI a)), (0, .ref 530)]) (st' := [.ref 530, .int (iI a)]) rfl ?_
      refine T_get xr_199_4 hO530 rfl (v := .int (iI (gw G))) rfl (pc' := 7) rfl ?_
      refine T_zicmp_ge xr_199_7 (t := 48) (pc' := 10) rfl rfl (fun c2397 => ?_) (fun c2397 => ?_)
      · skip
        have c2397 : (gw G) ≤ a := c2397
        refine T_p xr_199_48 xn_199 (pc' := 49) (ls' := [(1, .int (iI a)), (0, .ref 530)]) (st' := [.int (iI (-1))]) rfl ?_
        refine T_iret xr_199_49 xf_199.2.2 rfl ?_
        refine hQ _ _ ?_
        exact ⟨(-1), rfl, (Or.inl ⟨rfl, fun a1 b1 h1 h2 h3 => hno a1 b1 h1 h2 h3 (by omega)⟩), rfl⟩
      · skip
        have c2397 : ¬ ((gw G) ≤ a) := c2397
        refine T_p xr_199_10 xn_199 (pc' := 11) (ls' := [(1, .int (iI a)), (0, .ref 530)]) (st' := [.int (iI a)]) rfl ?_
        refine T_p xr_199_11 xn_199 (pc' := 12) (ls' := [(2, .int (iI a)), (1, .int (iI a)), (0, .ref 530)]) (st' := []) rfl ?_
        have L2398 : ∀ (m2400 : Nat) (c : Int) (hb2_ : a ≤ c ∧ c ≤ gw G) (hno2 : ∀ a1 b1, 0 ≤ a1 → a1 ≤ b1 → b1 < gw G → (a1 < a ∨ (a1 = a ∧ b1 < c)) → ¬ X_ag (gl G) (gD G) (gW G) a1 b1) (hm2401 : gw G - c < m2400), X_T sc 199 (12, [(2, .int (iI c)), (1, .int (iI a)), (0, .ref 530)], [], S) Q := by
          intro m2400
          induction m2400 with
          | zero =>
            intro c hb2_ hno2 hm2401
            exact (show False by omega).elim
          | succ m2400 ih2399 =>
            intro c hb2_ hno2 hm2401
            refine T_p xr_199_12 xn_199 (pc' := 13) (ls' := [(2, .int (iI c)), (1, .int (iI a)), (0, .ref 530)]) (st' := [.int (iI c)]) rfl ?_
            refine T_p xr_199_13 xn_199 (pc' := 14) (ls' := [(2, .int (iI c)), (1, .int (iI a)), (0, .ref 530)]) (st' := [.ref 530, .int (iI c)]) rfl ?_
            refine T_get xr_199_14 hO530 rfl (v := .int (iI (gw G))) rfl (pc' := 17) rfl ?_
            refine T_zicmp_ge xr_199_17 (t := 42) (pc' := 20) rfl rfl (fun c2403 => ?_) (fun c2403 => ?_)
            · skip
              have c2403 : (gw G) ≤ c := c2403
              refine T_ziinc xr_199_42 xn_199 (a := a) (z := a + 1) rfl (Nat.le_of_ble_eq_true rfl) (by omega) (ls' := [(1, .int (iI (a + 1))), (2, .int (iI c)), (0, .ref 530)]) rfl (pc' := 45) rfl ?_
              refine T_p xr_199_45 xn_199 (pc' := 2) (ls' := [(1, .int (iI (a + 1))), (2, .int (iI c)), (0, .ref 530)]) (st' := []) rfl ?_
              refine T_sub (ls := [(1, .int (iI (a + 1))), (0, .ref 530)]) ⟨rfl, rfl, trivial⟩ rfl rfl ?_
              exact ih2393 (a + 1)  (by omega) (fun a1 b1 h1 h2 h3 h4 => hno2 a1 b1 h1 h2 h3 (by omega)) (by omega)
            · skip
              have c2403 : ¬ ((gw G) ≤ c) := c2403
              refine T_p xr_199_20 xn_199 (pc' := 21) (ls' := [(2, .int (iI c)), (1, .int (iI a)), (0, .ref 530)]) (st' := [.ref 530]) rfl ?_
              refine T_p xr_199_21 xn_199 (pc' := 22) (ls' := [(2, .int (iI c)), (1, .int (iI a)), (0, .ref 530)]) (st' := [.int (iI a), .ref 530]) rfl ?_
              refine T_p xr_199_22 xn_199 (pc' := 23) (ls' := [(2, .int (iI c)), (1, .int (iI a)), (0, .ref 530)]) (st' := [.int (iI c), .int (iI a), .ref 530]) rfl ?_
              refine T_cv (S := S) (q := 530) xr_199_23 xf_200.1 xf_200.2.1 xn_200 (as := [.int (iI a), .int (iI c)]) (r := []) rfl hO530 (Nat.le_of_ble_eq_true rfl) (Nat.le_of_ble_eq_true rfl) (pc' := 26) rfl (ls' := [(0, .ref 530), (1, .int (iI a)), (2, .int (iI c))]) rfl ?_
              refine T_mono (r_isAgainst sc S tg wR wL wM eP o nm b rc G tn a c hO530 hA535 hA537 hA538 hA540 hA545 (by omega) hG hTG hWR hWL hWM hEP (by omega) (by omega)) (fun v2404 S2405 h2406 => ?_)
              rcases h2406 with ⟨hv2407, hf2408⟩
              rw [hv2407]
              rw [hf2408]
              show X_T sc 199 (26, [(2, .int (iI c)), (1, .int (iI a)), (0, .ref 530)], [.int (iI (bI (X_ag (gl G) (gD G) (gW G) a c)))], S) _
              refine T_bif_eq xr_199_26 (t := 36) (pc' := 29) rfl rfl (fun c2409 => ?_) (fun c2409 => ?_)
              · skip
                have c2409 : ¬ (X_ag (gl G) (gD G) (gW G) a c) := c2409
                refine T_ziinc xr_199_36 xn_199 (a := c) (z := c + 1) rfl (Nat.le_of_ble_eq_true rfl) (by omega) (ls' := [(2, .int (iI (c + 1))), (1, .int (iI a)), (0, .ref 530)]) rfl (pc' := 39) rfl ?_
                refine T_p xr_199_39 xn_199 (pc' := 12) (ls' := [(2, .int (iI (c + 1))), (1, .int (iI a)), (0, .ref 530)]) (st' := []) rfl ?_
                exact ih2399 (c + 1)  (by omega) (fun a1 b1 h1 h2 h3 h4 => by
                      by_cases hh : a1 = a ∧ b1 = c
                      · obtain ⟨e1, e2⟩ := hh
                        subst e1; subst e2; assumption
                      · exact hno2 a1 b1 h1 h2 h3 (by omega)) (by omega)
              · skip
                have c2409 : (X_ag (gl G) (gD G) (gW G) a c) := c2409
                refine T_p xr_199_29 xn_199 (pc' := 31) (ls' := [(2, .int (iI c)), (1, .int (iI a)), (0, .ref 530)]) (st' := [.int (iI 100)]) rfl ?_
                refine T_p xr_199_31 xn_199 (pc' := 32) (ls' := [(2, .int (iI c)), (1, .int (iI a)), (0, .ref 530)]) (st' := [.int (iI a), .int (iI 100)]) rfl ?_
                refine T_zimul xr_199_32 (z := 100 * a) rfl (pc' := 33) rfl ?_
                refine T_p xr_199_33 xn_199 (pc' := 34) (ls' := [(2, .int (iI c)), (1, .int (iI a)), (0, .ref 530)]) (st' := [.int (iI c), .int (iI (100 * a))]) rfl ?_
                refine T_ziadd xr_199_34 (z := (100 * a) + c) rfl (pc' := 35) rfl ?_
                refine T_iret xr_199_35 xf_199.2.2 rfl ?_
                refine hQ _ _ ?_
                exact ⟨(100 * a) + c, rfl, (Or.inr ⟨a, c, rfl, by omega, by assumption, fun a1 b1 h1 h2 h3 h4 => hno2 a1 b1 h1 h2 h3 (by omega)⟩), rfl⟩
        exact L2398 ((gw G) + 1).toNat a  (by omega) (fun a1 b1 h1 h2 h3 h4 => hno a1 b1 h1 h2 h3 (by omega)) (by omega)
  exact L2392 ((gw G) + 1).toNat 0  (by omega) (fun a1 b1 h1 h2 h3 h4 => absurd h4 (by omega)) (by omega)
end
section
theorem xr_192_0 : X_row 192 0 = some (0, (.iload_n 1, 1), (0, 0, 0)) := by decide +kernel
theorem xr_192_1 : X_row 192 1 = some (1, (.iconst 1, 1), (0, 0, 0)) := by decide +kernel
theorem xr_192_2 : X_row 192 2 = some (2, (.iadd, 1), (0, 0, 0)) := by decide +kernel
theorem xr_192_3 : X_row 192 3 = some (3, (.istore_n 2, 1), (0, 0, 0)) := by decide +kernel
theorem xr_192_4 : X_row 192 4 = some (4, (.iload_n 2, 1), (0, 0, 0)) := by decide +kernel
theorem xr_192_5 : X_row 192 5 = some (5, (.aload_n 0, 1), (0, 0, 0)) := by decide +kernel
theorem xr_192_6 : X_row 192 6 = some (6, (.getfield 317, 3), (11, 49, 98)) := by decide +kernel
theorem xr_192_9 : X_row 192 9 = some (9, (.if_icmp .ge 19, 3), (0, 0, 0)) := by decide +kernel
theorem xr_192_12 : X_row 192 12 = some (12, (.aload_n 0, 1), (0, 0, 0)) := by decide +kernel
theorem xr_192_13 : X_row 192 13 = some (13, (.getfield 231, 3), (11, 47, 94)) := by decide +kernel
theorem xr_192_16 : X_row 192 16 = some (16, (.iload_n 2, 1), (0, 0, 0)) := by decide +kernel
theorem xr_192_17 : X_row 192 17 = some (17, (.iaload, 1), (0, 0, 0)) := by decide +kernel
theorem xr_192_18 : X_row 192 18 = some (18, (.iload_n 1, 1), (0, 0, 0)) := by decide +kernel
theorem xr_192_19 : X_row 192 19 = some (19, (.if_icmp .lt 9, 3), (0, 0, 0)) := by decide +kernel
theorem xr_192_22 : X_row 192 22 = some (22, (.iinc 2 1, 3), (0, 0, 0)) := by decide +kernel
theorem xr_192_25 : X_row 192 25 = some (25, (.goto (-21), 3), (0, 0, 0)) := by decide +kernel
theorem xr_192_28 : X_row 192 28 = some (28, (.iload_n 2, 1), (0, 0, 0)) := by decide +kernel
theorem xr_192_29 : X_row 192 29 = some (29, (.ireturn, 1), (0, 0, 0)) := by decide +kernel
theorem xr_194_0 : X_row 194 0 = some (0, (.iload_n 1, 1), (0, 0, 0)) := by decide +kernel
theorem xr_194_1 : X_row 194 1 = some (1, (.iconst 1, 1), (0, 0, 0)) := by decide +kernel
theorem xr_194_2 : X_row 194 2 = some (2, (.iadd, 1), (0, 0, 0)) := by decide +kernel
theorem xr_194_3 : X_row 194 3 = some (3, (.istore_n 2, 1), (0, 0, 0)) := by decide +kernel
theorem xr_194_4 : X_row 194 4 = some (4, (.iload_n 2, 1), (0, 0, 0)) := by decide +kernel
theorem xr_194_5 : X_row 194 5 = some (5, (.aload_n 0, 1), (0, 0, 0)) := by decide +kernel
theorem xr_194_6 : X_row 194 6 = some (6, (.getfield 317, 3), (11, 49, 98)) := by decide +kernel
theorem xr_194_9 : X_row 194 9 = some (9, (.if_icmp .ge 30, 3), (0, 0, 0)) := by decide +kernel
theorem xr_194_12 : X_row 194 12 = some (12, (.aload_n 0, 1), (0, 0, 0)) := by decide +kernel
theorem xr_194_13 : X_row 194 13 = some (13, (.getfield 231, 3), (11, 47, 94)) := by decide +kernel
theorem xr_194_16 : X_row 194 16 = some (16, (.iload_n 2, 1), (0, 0, 0)) := by decide +kernel
theorem xr_194_17 : X_row 194 17 = some (17, (.iaload, 1), (0, 0, 0)) := by decide +kernel
theorem xr_194_18 : X_row 194 18 = some (18, (.iload_n 1, 1), (0, 0, 0)) := by decide +kernel
theorem xr_194_19 : X_row 194 19 = some (19, (.if_icmp .ne 14, 3), (0, 0, 0)) := by decide +kernel
theorem xr_194_22 : X_row 194 22 = some (22, (.aload_n 0, 1), (0, 0, 0)) := by decide +kernel
theorem xr_194_23 : X_row 194 23 = some (23, (.getfield 288, 3), (11, 71, 142)) := by decide +kernel
theorem xr_194_26 : X_row 194 26 = some (26, (.iload_n 2, 1), (0, 0, 0)) := by decide +kernel
theorem xr_194_27 : X_row 194 27 = some (27, (.baload, 1), (0, 0, 0)) := by decide +kernel
theorem xr_194_28 : X_row 194 28 = some (28, (.ifCond .ne 5, 3), (0, 0, 0)) := by decide +kernel
theorem xr_194_31 : X_row 194 31 = some (31, (.iload_n 2, 1), (0, 0, 0)) := by decide +kernel
theorem xr_194_32 : X_row 194 32 = some (32, (.ireturn, 1), (0, 0, 0)) := by decide +kernel
theorem xr_194_33 : X_row 194 33 = some (33, (.iinc 2 1, 3), (0, 0, 0)) := by decide +kernel
theorem xr_194_36 : X_row 194 36 = some (36, (.goto (-32), 3), (0, 0, 0)) := by decide +kernel
theorem xr_194_39 : X_row 194 39 = some (39, (.iconst (-1), 1), (0, 0, 0)) := by decide +kernel
theorem xr_194_40 : X_row 194 40 = some (40, (.ireturn, 1), (0, 0, 0)) := by decide +kernel
theorem xr_196_0 : X_row 196 0 = some (0, (.aload_n 0, 1), (0, 0, 0)) := by decide +kernel
theorem xr_196_1 : X_row 196 1 = some (1, (.getfield 222, 3), (11, 44, 88)) := by decide +kernel
theorem xr_196_4 : X_row 196 4 = some (4, (.iload_n 1, 1), (0, 0, 0)) := by decide +kernel
theorem xr_196_5 : X_row 196 5 = some (5, (.iaload, 1), (0, 0, 0)) := by decide +kernel
theorem xr_196_6 : X_row 196 6 = some (6, (.istore_n 2, 1), (0, 0, 0)) := by decide +kernel
theorem xr_196_7 : X_row 196 7 = some (7, (.iload_n 2, 1), (0, 0, 0)) := by decide +kernel
theorem xr_196_8 : X_row 196 8 = some (8, (.bipush (-2), 2), (0, 0, 0)) := by decide +kernel
theorem xr_196_10 : X_row 196 10 = some (10, (.if_icmp .ne 22, 3), (0, 0, 0)) := by decide +kernel
theorem xr_196_13 : X_row 196 13 = some (13, (.aload_n 0, 1), (0, 0, 0)) := by decide +kernel
theorem xr_196_14 : X_row 196 14 = some (14, (.getfield 279, 3), (11, 65, 130)) := by decide +kernel
theorem xr_196_17 : X_row 196 17 = some (17, (.iload_n 1, 1), (0, 0, 0)) := by decide +kernel
theorem xr_196_18 : X_row 196 18 = some (18, (.aload_n 0, 1), (0, 0, 0)) := by decide +kernel
theorem xr_196_19 : X_row 196 19 = some (19, (.getfield 200, 3), (11, 36, 72)) := by decide +kernel
theorem xr_196_22 : X_row 196 22 = some (22, (.aload_n 0, 1), (0, 0, 0)) := by decide +kernel
theorem xr_196_23 : X_row 196 23 = some (23, (.getfield 225, 3), (11, 45, 90)) := by decide +kernel
theorem xr_196_26 : X_row 196 26 = some (26, (.iload_n 1, 1), (0, 0, 0)) := by decide +kernel
theorem xr_196_27 : X_row 196 27 = some (27, (.iaload, 1), (0, 0, 0)) := by decide +kernel
theorem xr_196_28 : X_row 196 28 = some (28, (.iaload, 1), (0, 0, 0)) := by decide +kernel
theorem xr_196_29 : X_row 196 29 = some (29, (.iastore, 1), (0, 0, 0)) := by decide +kernel
theorem xr_196_30 : X_row 196 30 = some (30, (.iconst 0, 1), (0, 0, 0)) := by decide +kernel
theorem xr_196_31 : X_row 196 31 = some (31, (.ireturn, 1), (0, 0, 0)) := by decide +kernel
theorem xr_196_32 : X_row 196 32 = some (32, (.iload_n 2, 1), (0, 0, 0)) := by decide +kernel
theorem xr_196_33 : X_row 196 33 = some (33, (.bipush (-3), 2), (0, 0, 0)) := by decide +kernel
theorem xr_196_35 : X_row 196 35 = some (35, (.if_icmp .ne 19, 3), (0, 0, 0)) := by decide +kernel
theorem xr_196_38 : X_row 196 38 = some (38, (.aload_n 0, 1), (0, 0, 0)) := by decide +kernel
theorem xr_196_39 : X_row 196 39 = some (39, (.getfield 279, 3), (11, 65, 130)) := by decide +kernel
theorem xr_196_42 : X_row 196 42 = some (42, (.iload_n 1, 1), (0, 0, 0)) := by decide +kernel
theorem xr_196_43 : X_row 196 43 = some (43, (.aload_n 0, 1), (0, 0, 0)) := by decide +kernel
theorem xr_196_44 : X_row 196 44 = some (44, (.getfield 279, 3), (11, 65, 130)) := by decide +kernel
theorem xr_196_47 : X_row 196 47 = some (47, (.iload_n 1, 1), (0, 0, 0)) := by decide +kernel
theorem xr_196_48 : X_row 196 48 = some (48, (.iconst 1, 1), (0, 0, 0)) := by decide +kernel
theorem xr_196_49 : X_row 196 49 = some (49, (.iadd, 1), (0, 0, 0)) := by decide +kernel
theorem xr_196_50 : X_row 196 50 = some (50, (.iaload, 1), (0, 0, 0)) := by decide +kernel
theorem xr_196_51 : X_row 196 51 = some (51, (.iastore, 1), (0, 0, 0)) := by decide +kernel
theorem xr_196_52 : X_row 196 52 = some (52, (.iconst 0, 1), (0, 0, 0)) := by decide +kernel
theorem xr_196_53 : X_row 196 53 = some (53, (.ireturn, 1), (0, 0, 0)) := by decide +kernel
theorem xr_196_54 : X_row 196 54 = some (54, (.iload_n 1, 1), (0, 0, 0)) := by decide +kernel
theorem xr_196_55 : X_row 196 55 = some (55, (.iconst 1, 1), (0, 0, 0)) := by decide +kernel
theorem xr_196_56 : X_row 196 56 = some (56, (.iadd, 1), (0, 0, 0)) := by decide +kernel
theorem xr_196_57 : X_row 196 57 = some (57, (.istore_n 3, 1), (0, 0, 0)) := by decide +kernel
theorem xr_196_58 : X_row 196 58 = some (58, (.iload_n 3, 1), (0, 0, 0)) := by decide +kernel
theorem xr_196_59 : X_row 196 59 = some (59, (.aload_n 0, 1), (0, 0, 0)) := by decide +kernel
theorem xr_196_60 : X_row 196 60 = some (60, (.getfield 317, 3), (11, 49, 98)) := by decide +kernel
theorem xr_196_63 : X_row 196 63 = some (63, (.if_icmp .ge 36, 3), (0, 0, 0)) := by decide +kernel
theorem xr_196_66 : X_row 196 66 = some (66, (.aload_n 0, 1), (0, 0, 0)) := by decide +kernel
theorem xr_196_67 : X_row 196 67 = some (67, (.getfield 231, 3), (11, 47, 94)) := by decide +kernel
theorem xr_196_70 : X_row 196 70 = some (70, (.iload_n 3, 1), (0, 0, 0)) := by decide +kernel
theorem xr_196_71 : X_row 196 71 = some (71, (.iaload, 1), (0, 0, 0)) := by decide +kernel
theorem xr_196_72 : X_row 196 72 = some (72, (.iload_n 1, 1), (0, 0, 0)) := by decide +kernel
theorem xr_196_73 : X_row 196 73 = some (73, (.if_icmp .ne 20, 3), (0, 0, 0)) := by decide +kernel
theorem xr_196_76 : X_row 196 76 = some (76, (.aload_n 0, 1), (0, 0, 0)) := by decide +kernel
theorem xr_196_77 : X_row 196 77 = some (77, (.getfield 285, 3), (11, 67, 134)) := by decide +kernel
theorem xr_196_80 : X_row 196 80 = some (80, (.aload_n 0, 1), (0, 0, 0)) := by decide +kernel
theorem xr_196_81 : X_row 196 81 = some (81, (.getfield 234, 3), (11, 48, 96)) := by decide +kernel
theorem xr_196_84 : X_row 196 84 = some (84, (.iload_n 3, 1), (0, 0, 0)) := by decide +kernel
theorem xr_196_85 : X_row 196 85 = some (85, (.iaload, 1), (0, 0, 0)) := by decide +kernel
theorem xr_196_86 : X_row 196 86 = some (86, (.aload_n 0, 1), (0, 0, 0)) := by decide +kernel
theorem xr_196_87 : X_row 196 87 = some (87, (.getfield 279, 3), (11, 65, 130)) := by decide +kernel
theorem xr_196_90 : X_row 196 90 = some (90, (.iload_n 3, 1), (0, 0, 0)) := by decide +kernel
theorem xr_196_91 : X_row 196 91 = some (91, (.iaload, 1), (0, 0, 0)) := by decide +kernel
theorem xr_196_92 : X_row 196 92 = some (92, (.iastore, 1), (0, 0, 0)) := by decide +kernel
theorem xr_196_93 : X_row 196 93 = some (93, (.iinc 3 1, 3), (0, 0, 0)) := by decide +kernel
theorem xr_196_96 : X_row 196 96 = some (96, (.goto (-38), 3), (0, 0, 0)) := by decide +kernel
theorem xr_196_99 : X_row 196 99 = some (99, (.bipush 30, 2), (0, 0, 0)) := by decide +kernel
theorem xr_196_101 : X_row 196 101 = some (101, (.aload_n 0, 1), (0, 0, 0)) := by decide +kernel
theorem xr_196_102 : X_row 196 102 = some (102, (.getfield 91, 3), (11, 4, 8)) := by decide +kernel
theorem xr_196_105 : X_row 196 105 = some (105, (.imul, 1), (0, 0, 0)) := by decide +kernel
theorem xr_196_106 : X_row 196 106 = some (106, (.iload_n 2, 1), (0, 0, 0)) := by decide +kernel
theorem xr_196_107 : X_row 196 107 = some (107, (.iadd, 1), (0, 0, 0)) := by decide +kernel
theorem xr_196_108 : X_row 196 108 = some (108, (.istore_n 3, 1), (0, 0, 0)) := by decide +kernel
theorem xr_196_109 : X_row 196 109 = some (109, (.aload_n 0, 1), (0, 0, 0)) := by decide +kernel
theorem xr_196_110 : X_row 196 110 = some (110, (.getfield 156, 3), (11, 22, 44)) := by decide +kernel
theorem xr_196_113 : X_row 196 113 = some (113, (.iload_n 3, 1), (0, 0, 0)) := by decide +kernel
theorem xr_196_114 : X_row 196 114 = some (114, (.iaload, 1), (0, 0, 0)) := by decide +kernel
theorem xr_196_115 : X_row 196 115 = some (115, (.ifCond .lt 10, 3), (0, 0, 0)) := by decide +kernel
theorem xr_196_118 : X_row 196 118 = some (118, (.aload_n 0, 1), (0, 0, 0)) := by decide +kernel
theorem xr_196_119 : X_row 196 119 = some (119, (.iload_n 3, 1), (0, 0, 0)) := by decide +kernel
theorem xr_196_120 : X_row 196 120 = some (120, (.iload_n 1, 1), (0, 0, 0)) := by decide +kernel
theorem xr_196_121 : X_row 196 121 = some (121, (.invokevirtual 417, 3), (197, 94, 0)) := by decide +kernel
theorem xr_196_124 : X_row 196 124 = some (124, (.ireturn, 1), (0, 0, 0)) := by decide +kernel
theorem xr_196_125 : X_row 196 125 = some (125, (.aload_n 0, 1), (0, 0, 0)) := by decide +kernel
theorem xr_196_126 : X_row 196 126 = some (126, (.getfield 273, 3), (11, 63, 126)) := by decide +kernel
theorem xr_196_129 : X_row 196 129 = some (129, (.iload_n 2, 1), (0, 0, 0)) := by decide +kernel
theorem xr_196_130 : X_row 196 130 = some (130, (.baload, 1), (0, 0, 0)) := by decide +kernel
theorem xr_196_131 : X_row 196 131 = some (131, (.ifCond .ne 5, 3), (0, 0, 0)) := by decide +kernel
theorem xr_196_134 : X_row 196 134 = some (134, (.iconst 2, 1), (0, 0, 0)) := by decide +kernel
theorem xr_196_135 : X_row 196 135 = some (135, (.ireturn, 1), (0, 0, 0)) := by decide +kernel
theorem xr_196_136 : X_row 196 136 = some (136, (.aload_n 0, 1), (0, 0, 0)) := by decide +kernel
theorem xr_196_137 : X_row 196 137 = some (137, (.getfield 279, 3), (11, 65, 130)) := by decide +kernel
theorem xr_196_140 : X_row 196 140 = some (140, (.iload_n 1, 1), (0, 0, 0)) := by decide +kernel
theorem xr_196_141 : X_row 196 141 = some (141, (.aload_n 0, 1), (0, 0, 0)) := by decide +kernel
theorem xr_196_142 : X_row 196 142 = some (142, (.getfield 276, 3), (11, 64, 128)) := by decide +kernel
theorem xr_196_145 : X_row 196 145 = some (145, (.iload_n 2, 1), (0, 0, 0)) := by decide +kernel
theorem xr_196_146 : X_row 196 146 = some (146, (.iaload, 1), (0, 0, 0)) := by decide +kernel
theorem xr_196_147 : X_row 196 147 = some (147, (.iastore, 1), (0, 0, 0)) := by decide +kernel
theorem xr_196_148 : X_row 196 148 = some (148, (.iconst 0, 1), (0, 0, 0)) := by decide +kernel
theorem xr_196_149 : X_row 196 149 = some (149, (.ireturn, 1), (0, 0, 0)) := by decide +kernel
theorem xr_197_0 : X_row 197 0 = some (0, (.iconst 0, 1), (0, 0, 0)) := by decide +kernel
theorem xr_197_1 : X_row 197 1 = some (1, (.istore_n 3, 1), (0, 0, 0)) := by decide +kernel
theorem xr_197_2 : X_row 197 2 = some (2, (.iconst 0, 1), (0, 0, 0)) := by decide +kernel
theorem xr_197_3 : X_row 197 3 = some (3, (.istore 4, 2), (0, 0, 0)) := by decide +kernel
theorem xr_197_5 : X_row 197 5 = some (5, (.iload 4, 2), (0, 0, 0)) := by decide +kernel
theorem xr_197_7 : X_row 197 7 = some (7, (.aload_n 0, 1), (0, 0, 0)) := by decide +kernel
theorem xr_197_8 : X_row 197 8 = some (8, (.getfield 156, 3), (11, 22, 44)) := by decide +kernel
theorem xr_197_11 : X_row 197 11 = some (11, (.iload_n 1, 1), (0, 0, 0)) := by decide +kernel
theorem xr_197_12 : X_row 197 12 = some (12, (.iaload, 1), (0, 0, 0)) := by decide +kernel
theorem xr_197_13 : X_row 197 13 = some (13, (.if_icmp .ge 241, 3), (0, 0, 0)) := by decide +kernel
theorem xr_197_16 : X_row 197 16 = some (16, (.aload_n 0, 1), (0, 0, 0)) := by decide +kernel
theorem xr_197_17 : X_row 197 17 = some (17, (.getfield 177, 3), (11, 23, 46)) := by decide +kernel
theorem xr_197_20 : X_row 197 20 = some (20, (.bipush 30, 2), (0, 0, 0)) := by decide +kernel
theorem xr_197_22 : X_row 197 22 = some (22, (.iload_n 1, 1), (0, 0, 0)) := by decide +kernel
theorem xr_197_23 : X_row 197 23 = some (23, (.imul, 1), (0, 0, 0)) := by decide +kernel
theorem xr_197_24 : X_row 197 24 = some (24, (.iload 4, 2), (0, 0, 0)) := by decide +kernel
theorem xr_197_26 : X_row 197 26 = some (26, (.iadd, 1), (0, 0, 0)) := by decide +kernel
theorem xr_197_27 : X_row 197 27 = some (27, (.iaload, 1), (0, 0, 0)) := by decide +kernel
theorem xr_197_28 : X_row 197 28 = some (28, (.istore 5, 2), (0, 0, 0)) := by decide +kernel
theorem xr_197_30 : X_row 197 30 = some (30, (.aload_n 0, 1), (0, 0, 0)) := by decide +kernel
theorem xr_197_31 : X_row 197 31 = some (31, (.getfield 180, 3), (11, 24, 48)) := by decide +kernel
theorem xr_197_34 : X_row 197 34 = some (34, (.bipush 30, 2), (0, 0, 0)) := by decide +kernel
theorem xr_197_36 : X_row 197 36 = some (36, (.iload_n 1, 1), (0, 0, 0)) := by decide +kernel
theorem xr_197_37 : X_row 197 37 = some (37, (.imul, 1), (0, 0, 0)) := by decide +kernel
theorem xr_197_38 : X_row 197 38 = some (38, (.iload 4, 2), (0, 0, 0)) := by decide +kernel
theorem xr_197_40 : X_row 197 40 = some (40, (.iadd, 1), (0, 0, 0)) := by decide +kernel
theorem xr_197_41 : X_row 197 41 = some (41, (.iaload, 1), (0, 0, 0)) := by decide +kernel
theorem xr_197_42 : X_row 197 42 = some (42, (.istore 6, 2), (0, 0, 0)) := by decide +kernel
theorem xr_197_44 : X_row 197 44 = some (44, (.iload 5, 2), (0, 0, 0)) := by decide +kernel
theorem xr_197_46 : X_row 197 46 = some (46, (.bipush 110, 2), (0, 0, 0)) := by decide +kernel
theorem xr_197_48 : X_row 197 48 = some (48, (.if_icmp .eq 10, 3), (0, 0, 0)) := by decide +kernel
theorem xr_197_51 : X_row 197 51 = some (51, (.iload 5, 2), (0, 0, 0)) := by decide +kernel
theorem xr_197_53 : X_row 197 53 = some (53, (.bipush 64, 2), (0, 0, 0)) := by decide +kernel
theorem xr_197_55 : X_row 197 55 = some (55, (.if_icmp .ne 34, 3), (0, 0, 0)) := by decide +kernel
theorem xr_197_58 : X_row 197 58 = some (58, (.aload_n 0, 1), (0, 0, 0)) := by decide +kernel
theorem xr_197_59 : X_row 197 59 = some (59, (.getfield 282, 3), (11, 66, 132)) := by decide +kernel
theorem xr_197_62 : X_row 197 62 = some (62, (.iload_n 3, 1), (0, 0, 0)) := by decide +kernel
theorem xr_197_63 : X_row 197 63 = some (63, (.iload 5, 2), (0, 0, 0)) := by decide +kernel
theorem xr_197_65 : X_row 197 65 = some (65, (.bipush 110, 2), (0, 0, 0)) := by decide +kernel
theorem xr_197_67 : X_row 197 67 = some (67, (.if_icmp .ne 8, 3), (0, 0, 0)) := by decide +kernel
theorem xr_197_70 : X_row 197 70 = some (70, (.iload 6, 2), (0, 0, 0)) := by decide +kernel
theorem xr_197_72 : X_row 197 72 = some (72, (.goto 10, 3), (0, 0, 0)) := by decide +kernel
theorem xr_197_75 : X_row 197 75 = some (75, (.aload_n 0, 1), (0, 0, 0)) := by decide +kernel
theorem xr_197_76 : X_row 197 76 = some (76, (.getfield 285, 3), (11, 67, 134)) := by decide +kernel
theorem xr_197_79 : X_row 197 79 = some (79, (.iload 6, 2), (0, 0, 0)) := by decide +kernel
theorem xr_197_81 : X_row 197 81 = some (81, (.iaload, 1), (0, 0, 0)) := by decide +kernel
theorem xr_197_82 : X_row 197 82 = some (82, (.iastore, 1), (0, 0, 0)) := by decide +kernel
theorem xr_197_83 : X_row 197 83 = some (83, (.iinc 3 1, 3), (0, 0, 0)) := by decide +kernel
theorem xr_197_86 : X_row 197 86 = some (86, (.goto 162, 3), (0, 0, 0)) := by decide +kernel
theorem xr_197_89 : X_row 197 89 = some (89, (.iinc 3 (-1), 3), (0, 0, 0)) := by decide +kernel
theorem xr_197_92 : X_row 197 92 = some (92, (.aload_n 0, 1), (0, 0, 0)) := by decide +kernel
theorem xr_197_93 : X_row 197 93 = some (93, (.getfield 282, 3), (11, 66, 132)) := by decide +kernel
theorem xr_197_96 : X_row 197 96 = some (96, (.iload_n 3, 1), (0, 0, 0)) := by decide +kernel
theorem xr_197_97 : X_row 197 97 = some (97, (.iconst 1, 1), (0, 0, 0)) := by decide +kernel
theorem xr_197_98 : X_row 197 98 = some (98, (.isub, 1), (0, 0, 0)) := by decide +kernel
theorem xr_197_99 : X_row 197 99 = some (99, (.iaload, 1), (0, 0, 0)) := by decide +kernel
theorem xr_197_100 : X_row 197 100 = some (100, (.istore 7, 2), (0, 0, 0)) := by decide +kernel
theorem xr_197_102 : X_row 197 102 = some (102, (.aload_n 0, 1), (0, 0, 0)) := by decide +kernel
theorem xr_197_103 : X_row 197 103 = some (103, (.getfield 282, 3), (11, 66, 132)) := by decide +kernel
theorem xr_197_106 : X_row 197 106 = some (106, (.iload_n 3, 1), (0, 0, 0)) := by decide +kernel
theorem xr_197_107 : X_row 197 107 = some (107, (.iaload, 1), (0, 0, 0)) := by decide +kernel
theorem xr_197_108 : X_row 197 108 = some (108, (.istore 8, 2), (0, 0, 0)) := by decide +kernel
theorem xr_197_110 : X_row 197 110 = some (110, (.iload 5, 2), (0, 0, 0)) := by decide +kernel
theorem xr_197_112 : X_row 197 112 = some (112, (.bipush 47, 2), (0, 0, 0)) := by decide +kernel
theorem xr_197_114 : X_row 197 114 = some (114, (.if_icmp .eq 10, 3), (0, 0, 0)) := by decide +kernel
theorem xr_197_117 : X_row 197 117 = some (117, (.iload 5, 2), (0, 0, 0)) := by decide +kernel
theorem xr_197_119 : X_row 197 119 = some (119, (.bipush 37, 2), (0, 0, 0)) := by decide +kernel
theorem xr_197_121 : X_row 197 121 = some (121, (.if_icmp .ne 10, 3), (0, 0, 0)) := by decide +kernel
theorem xr_197_124 : X_row 197 124 = some (124, (.iload 8, 2), (0, 0, 0)) := by decide +kernel
theorem xr_197_126 : X_row 197 126 = some (126, (.ifCond .ne 5, 3), (0, 0, 0)) := by decide +kernel
theorem xr_197_129 : X_row 197 129 = some (129, (.iconst 1, 1), (0, 0, 0)) := by decide +kernel
theorem xr_197_130 : X_row 197 130 = some (130, (.ireturn, 1), (0, 0, 0)) := by decide +kernel
theorem xr_197_131 : X_row 197 131 = some (131, (.aload_n 0, 1), (0, 0, 0)) := by decide +kernel
theorem xr_197_132 : X_row 197 132 = some (132, (.getfield 282, 3), (11, 66, 132)) := by decide +kernel
theorem xr_197_135 : X_row 197 135 = some (135, (.iload_n 3, 1), (0, 0, 0)) := by decide +kernel
theorem xr_197_136 : X_row 197 136 = some (136, (.iconst 1, 1), (0, 0, 0)) := by decide +kernel
theorem xr_197_137 : X_row 197 137 = some (137, (.isub, 1), (0, 0, 0)) := by decide +kernel
theorem xr_197_138 : X_row 197 138 = some (138, (.iload 5, 2), (0, 0, 0)) := by decide +kernel
theorem xr_197_140 : X_row 197 140 = some (140, (.bipush 43, 2), (0, 0, 0)) := by decide +kernel
theorem xr_197_142 : X_row 197 142 = some (142, (.if_icmp .ne 11, 3), (0, 0, 0)) := by decide +kernel
theorem xr_197_145 : X_row 197 145 = some (145, (.iload 7, 2), (0, 0, 0)) := by decide +kernel
theorem xr_197_147 : X_row 197 147 = some (147, (.iload 8, 2), (0, 0, 0)) := by decide +kernel
theorem xr_197_149 : X_row 197 149 = some (149, (.iadd, 1), (0, 0, 0)) := by decide +kernel
theorem xr_197_150 : X_row 197 150 = some (150, (.goto 97, 3), (0, 0, 0)) := by decide +kernel
theorem xr_197_153 : X_row 197 153 = some (153, (.iload 5, 2), (0, 0, 0)) := by decide +kernel
theorem xr_197_155 : X_row 197 155 = some (155, (.bipush 45, 2), (0, 0, 0)) := by decide +kernel
theorem xr_197_157 : X_row 197 157 = some (157, (.if_icmp .ne 11, 3), (0, 0, 0)) := by decide +kernel
theorem xr_197_160 : X_row 197 160 = some (160, (.iload 7, 2), (0, 0, 0)) := by decide +kernel
theorem xr_197_162 : X_row 197 162 = some (162, (.iload 8, 2), (0, 0, 0)) := by decide +kernel
theorem xr_197_164 : X_row 197 164 = some (164, (.isub, 1), (0, 0, 0)) := by decide +kernel
theorem xr_197_165 : X_row 197 165 = some (165, (.goto 82, 3), (0, 0, 0)) := by decide +kernel
theorem xr_197_168 : X_row 197 168 = some (168, (.iload 5, 2), (0, 0, 0)) := by decide +kernel
theorem xr_197_170 : X_row 197 170 = some (170, (.bipush 42, 2), (0, 0, 0)) := by decide +kernel
theorem xr_197_172 : X_row 197 172 = some (172, (.if_icmp .ne 11, 3), (0, 0, 0)) := by decide +kernel
theorem xr_197_175 : X_row 197 175 = some (175, (.iload 7, 2), (0, 0, 0)) := by decide +kernel
theorem xr_197_177 : X_row 197 177 = some (177, (.iload 8, 2), (0, 0, 0)) := by decide +kernel
theorem xr_197_179 : X_row 197 179 = some (179, (.imul, 1), (0, 0, 0)) := by decide +kernel
theorem xr_197_180 : X_row 197 180 = some (180, (.goto 67, 3), (0, 0, 0)) := by decide +kernel
theorem xr_197_183 : X_row 197 183 = some (183, (.iload 5, 2), (0, 0, 0)) := by decide +kernel
theorem xr_197_185 : X_row 197 185 = some (185, (.bipush 47, 2), (0, 0, 0)) := by decide +kernel
theorem xr_197_187 : X_row 197 187 = some (187, (.if_icmp .ne 23, 3), (0, 0, 0)) := by decide +kernel
theorem xr_197_190 : X_row 197 190 = some (190, (.iload 8, 2), (0, 0, 0)) := by decide +kernel
theorem xr_197_192 : X_row 197 192 = some (192, (.iconst (-1), 1), (0, 0, 0)) := by decide +kernel
theorem xr_197_193 : X_row 197 193 = some (193, (.if_icmp .ne 9, 3), (0, 0, 0)) := by decide +kernel
theorem xr_197_196 : X_row 197 196 = some (196, (.iload 7, 2), (0, 0, 0)) := by decide +kernel
theorem xr_197_198 : X_row 197 198 = some (198, (.ineg, 1), (0, 0, 0)) := by decide +kernel
theorem xr_197_199 : X_row 197 199 = some (199, (.goto 48, 3), (0, 0, 0)) := by decide +kernel
theorem xr_197_202 : X_row 197 202 = some (202, (.iload 7, 2), (0, 0, 0)) := by decide +kernel
theorem xr_197_204 : X_row 197 204 = some (204, (.iload 8, 2), (0, 0, 0)) := by decide +kernel
theorem xr_197_206 : X_row 197 206 = some (206, (.idiv, 1), (0, 0, 0)) := by decide +kernel
theorem xr_197_207 : X_row 197 207 = some (207, (.goto 40, 3), (0, 0, 0)) := by decide +kernel
theorem xr_197_210 : X_row 197 210 = some (210, (.iload 5, 2), (0, 0, 0)) := by decide +kernel
theorem xr_197_212 : X_row 197 212 = some (212, (.bipush 37, 2), (0, 0, 0)) := by decide +kernel
theorem xr_197_214 : X_row 197 214 = some (214, (.if_icmp .ne 21, 3), (0, 0, 0)) := by decide +kernel
theorem xr_197_217 : X_row 197 217 = some (217, (.iload 8, 2), (0, 0, 0)) := by decide +kernel
theorem xr_197_219 : X_row 197 219 = some (219, (.iconst (-1), 1), (0, 0, 0)) := by decide +kernel
theorem xr_197_220 : X_row 197 220 = some (220, (.if_icmp .ne 7, 3), (0, 0, 0)) := by decide +kernel
theorem xr_197_223 : X_row 197 223 = some (223, (.iconst 0, 1), (0, 0, 0)) := by decide +kernel
theorem xr_197_224 : X_row 197 224 = some (224, (.goto 23, 3), (0, 0, 0)) := by decide +kernel
theorem xr_197_227 : X_row 197 227 = some (227, (.iload 7, 2), (0, 0, 0)) := by decide +kernel
theorem xr_197_229 : X_row 197 229 = some (229, (.iload 8, 2), (0, 0, 0)) := by decide +kernel
theorem xr_197_231 : X_row 197 231 = some (231, (.irem, 1), (0, 0, 0)) := by decide +kernel
theorem xr_197_232 : X_row 197 232 = some (232, (.goto 15, 3), (0, 0, 0)) := by decide +kernel
theorem xr_197_235 : X_row 197 235 = some (235, (.iload 7, 2), (0, 0, 0)) := by decide +kernel
theorem xr_197_237 : X_row 197 237 = some (237, (.iload 8, 2), (0, 0, 0)) := by decide +kernel
theorem xr_197_239 : X_row 197 239 = some (239, (.if_icmp .ge 7, 3), (0, 0, 0)) := by decide +kernel
theorem xr_197_242 : X_row 197 242 = some (242, (.iconst 1, 1), (0, 0, 0)) := by decide +kernel
theorem xr_197_243 : X_row 197 243 = some (243, (.goto 4, 3), (0, 0, 0)) := by decide +kernel
theorem xr_197_246 : X_row 197 246 = some (246, (.iconst 0, 1), (0, 0, 0)) := by decide +kernel
theorem xr_197_247 : X_row 197 247 = some (247, (.iastore, 1), (0, 0, 0)) := by decide +kernel
theorem xr_197_248 : X_row 197 248 = some (248, (.iinc 4 1, 3), (0, 0, 0)) := by decide +kernel
theorem xr_197_251 : X_row 197 251 = some (251, (.goto (-246), 3), (0, 0, 0)) := by decide +kernel
theorem xr_197_254 : X_row 197 254 = some (254, (.aload_n 0, 1), (0, 0, 0)) := by decide +kernel
theorem xr_197_255 : X_row 197 255 = some (255, (.getfield 279, 3), (11, 65, 130)) := by decide +kernel
theorem xr_197_258 : X_row 197 258 = some (258, (.iload_n 2, 1), (0, 0, 0)) := by decide +kernel
theorem xr_197_259 : X_row 197 259 = some (259, (.aload_n 0, 1), (0, 0, 0)) := by decide +kernel
theorem xr_197_260 : X_row 197 260 = some (260, (.getfield 282, 3), (11, 66, 132)) := by decide +kernel
theorem xr_197_263 : X_row 197 263 = some (263, (.iconst 0, 1), (0, 0, 0)) := by decide +kernel
theorem xr_197_264 : X_row 197 264 = some (264, (.iaload, 1), (0, 0, 0)) := by decide +kernel
theorem xr_197_265 : X_row 197 265 = some (265, (.iastore, 1), (0, 0, 0)) := by decide +kernel
theorem xr_197_266 : X_row 197 266 = some (266, (.iconst 0, 1), (0, 0, 0)) := by decide +kernel
theorem xr_197_267 : X_row 197 267 = some (267, (.ireturn, 1), (0, 0, 0)) := by decide +kernel
theorem xn_192 : X_nL 192 = 3 := by decide +kernel
theorem xf_192 : X_na 192 = 1 ∧ X_ci 192 = 11 ∧ X_rt 192 = (some .int) := by decide +kernel
theorem xn_194 : X_nL 194 = 3 := by decide +kernel
theorem xf_194 : X_na 194 = 1 ∧ X_ci 194 = 11 ∧ X_rt 194 = (some .int) := by decide +kernel
theorem xn_196 : X_nL 196 = 4 := by decide +kernel
theorem xf_196 : X_na 196 = 1 ∧ X_ci 196 = 11 ∧ X_rt 196 = (some .int) := by decide +kernel
theorem xn_197 : X_nL 197 = 9 := by decide +kernel
theorem xf_197 : X_na 197 = 2 ∧ X_ci 197 = 11 ∧ X_rt 197 = (some .int) := by decide +kernel
set_option maxHeartbeats 1600000 in
theorem r_steps (sc : X_Sc) (S : X_S) (wS : Int → Int) (sO : Int → Int) (sN : Int → Int) (vs : Int → Int) (pl : Int → Int) (hv : Int → Int) (o : Nat → Int) (nm : Int64) (b : Int) (rc : Int) (G : X_G) (tn : Int) (w : Int) (n : Int) (ch : Int → Int) (hO530 : S.1 530 = .inr (11, [.ref 531, .int (iI (o 1)), .ref 532, .int (iI (o 3)), .int (iI b), .int (iI (o 5)), .int (iI (o 6)), .int (iI (o 7)), .int (iI (o 8)), .int (iI (o 9)), .int (iI (o 10)), .int (iI (o 11)), .long nm, .ref 533, .ref 534, .ref 535, .ref 536, .ref 537, .ref 538, .ref 539, .ref 540, .ref 541, .ref 542, .ref 543, .ref 544, .ref 545, .ref 546, .ref 547, .int (iI rc), .int (iI (gk G)), .int (iI (gw G)), .int (iI (o 31)), .int (iI (o 32)), .int (iI (o 33)), .ref 548, .ref 549, .ref 550, .ref 551, .int (iI tn), .ref 552, .ref 553, .ref 554, .ref 555, .ref 556, .ref 557, .ref 558, .ref 559, .ref 560, .ref 561, .int (iI (o 49)), .ref 562, .ref 563, .ref 564, .ref 565, .ref 566, .ref 567, .ref 568, .ref 569, .int (iI (o 58)), .ref 570, .ref 571, .ref 572, .ref 573, .ref 574, .ref 575, .ref 576, .ref 577, .ref 578, .int (iI (o 68)), .int (iI (o 69)), .int (iI (o 70)), .ref 579])) (hA542 : S.1 542 = .inl (.int, 60, .inl fun k : Nat => iI (wS (k : Int)))) (hA543 : S.1 543 = .inl (.int, 1800, .inl fun k : Nat => iI (sO (k : Int)))) (hA544 : S.1 544 = .inl (.int, 1800, .inl fun k : Nat => iI (sN (k : Int)))) (hA576 : S.1 576 = .inl (.int, 40, .inl fun k : Nat => iI (vs (k : Int)))) (hA577 : S.1 577 = .inl (.int, 18, .inl fun k : Nat => iI (pl (k : Int)))) (hA578 : S.1 578 = .inl (.int, 4, .inl fun k : Nat => iI (hv (k : Int)))) (hbr : 0 ≤ b ∧ b ≤ 1) (hWS : ∀ w, 0 ≤ w → w < gw G → wS (30 * b + w) = gD G w 5 0) (hST : ∀ w, 0 ≤ w → w < gw G → ∀ k, 0 ≤ k → k < gD G w 5 0 → sO (30 * (30 * b + w) + k) = X_op (gD G w 12 k) ∧ (gD G w 12 k = 4 → sN (30 * (30 * b + w) + k) = gD G w 13 k) ∧ (gD G w 12 k = 64 → sN (30 * (30 * b + w) + k) = gD G w 13 k - 1)) (hw : (0 ≤ w ∧ w < gw G) ∧ gw G ≤ 30) (hsk : X_sok (gD G w) ∧ gD G w 5 0 ≤ 30 ∧ X_ph (gD G w 12) (gD G w 5 0).toNat = 1) (hn : 0 ≤ n ∧ n < 40) (hcv : ∀ h, 0 ≤ h → h < gD G w 4 0 → hv h = ch h) (h44 : 0 ≤ gD G w 4 0 ∧ gD G w 4 0 ≤ 4) : X_T sc 197 (0, [(0, .ref 530), (1, .int (iI (30 * b + w))), (2, .int (iI n))], [], S) (fun v S' => (∃ (pl1 : Int → Int), v = some (.int (iI 1)) ∧ X_wS (gD G w) ch (gD G w 5 0).toNat = none ∧ S'.1 577 = .inl (.int, 18, .inl fun k : Nat => iI (pl1 (k : Int))) ∧ X_Fr (fun q => q = 577) S S') ∨ (∃ (pl1 : Int → Int) (rr : Int × (Int → Int)), v = some (.int (iI 0)) ∧ X_wS (gD G w) ch (gD G w 5 0).toNat = some rr ∧ S'.1 576 = .inl (.int, 40, .inl fun k : Nat => iI ((X_ug vs n (rr.2 0)) (k : Int))) ∧ S'.1 577 = .inl (.int, 18, .inl fun k : Nat => iI (pl1 (k : Int))) ∧ (X_Fr (fun q => q = 576 ∨ q = 577) S S'))) := by
  have h50 := hsk.1.1
  refine X_QI (fun Q hQ => ?_)
  refine T_p xr_197_0 xn_197 (pc' := 1) (ls' := [(0, .ref 530), (1, .int (iI (30 * b + w))), (2, .int (iI n))]) (st' := [.int (iI 0)]) rfl ?_
  refine T_p xr_197_1 xn_197 (pc' := 2) (ls' := [(3, .int (iI 0)), (0, .ref 530), (1, .int (iI (30 * b + w))), (2, .int (iI n))]) (st' := []) rfl ?_
  refine T_p xr_197_2 xn_197 (pc' := 3) (ls' := [(3, .int (iI 0)), (0, .ref 530), (1, .int (iI (30 * b + w))), (2, .int (iI n))]) (st' := [.int (iI 0)]) rfl ?_
  refine T_p xr_197_3 xn_197 (pc' := 5) (ls' := [(4, .int (iI 0)), (3, .int (iI 0)), (0, .ref 530), (1, .int (iI (30 * b + w))), (2, .int (iI n))]) (st' := []) rfl ?_
  have L2410 : ∀ (m2412 : Nat) (S2415 : X_S) (k : Int) (hg : Int) (pl1 : Int → Int) (pr : Int → Int) (hpl1 : S2415.1 577 = .inl (.int, 18, .inl fun k : Nat => iI (pl1 (k : Int)))) (hF2414 : X_Fr (fun q => q = 577) S S2415) (hk : 0 ≤ k ∧ k ≤ gD G w 5 0) (hS : X_wS (gD G w) ch k.toNat = some (hg, pr)) (hpr : ∀ q, 0 ≤ q → q < hg → pl1 q = pr q) (hhg : 0 ≤ hg ∧ hg ≤ 16) (hm2413 : gD G w 5 0 - k < m2412), X_T sc 197 (5, [(4, .int (iI k)), (3, .int (iI hg)), (2, .int (iI n)), (1, .int (iI (30 * b + w))), (0, .ref 530)], [], S2415) Q := by
    intro m2412
    induction m2412 with
    | zero =>
      intro S2415 k hg pl1 pr hpl1 hF2414 hk hS hpr hhg hm2413
      exact (show False by omega).elim
    | succ m2412 ih2411 =>
      intro S2415 k hg pl1 pr hpl1 hF2414 hk hS hpr hhg hm2413
      refine T_p xr_197_5 xn_197 (pc' := 7) (ls' := [(4, .int (iI k)), (3, .int (iI hg)), (2, .int (iI n)), (1, .int (iI (30 * b + w))), (0, .ref 530)]) (st' := [.int (iI k)]) rfl ?_
      refine T_p xr_197_7 xn_197 (pc' := 8) (ls' := [(4, .int (iI k)), (3, .int (iI hg)), (2, .int (iI n)), (1, .int (iI (30 * b + w))), (0, .ref 530)]) (st' := [.ref 530, .int (iI k)]) rfl ?_
      have h2416 := (hF2414.1 530 (by first | decide | omega)).trans (hO530)
      refine T_get xr_197_8 h2416 rfl (v := .ref 542) rfl (pc' := 11) rfl ?_
      refine T_p xr_197_11 xn_197 (pc' := 12) (ls' := [(4, .int (iI k)), (3, .int (iI hg)), (2, .int (iI n)), (1, .int (iI (30 * b + w))), (0, .ref 530)]) (st' := [.int (iI (30 * b + w)), .ref 542, .int (iI k)]) rfl ?_
      have h2417 := (hF2414.1 542 (by first | decide | omega)).trans (hA542)
      refine T_ziald xr_197_12 h2417 (pc' := 13) rfl ?_
      refine T_ie (y := iI (gD G w 5 0)) (by rw [hWS w hw.1.1 hw.1.2]) ?_
      refine T_zicmp_ge xr_197_13 (t := 254) (pc' := 16) rfl rfl (fun c2418 => ?_) (fun c2418 => ?_)
      · skip
        have c2418 : (gD G w 5 0) ≤ k := c2418
        refine T_p xr_197_254 xn_197 (pc' := 255) (ls' := [(4, .int (iI k)), (3, .int (iI hg)), (2, .int (iI n)), (1, .int (iI (30 * b + w))), (0, .ref 530)]) (st' := [.ref 530]) rfl ?_
        refine T_get xr_197_255 h2416 rfl (v := .ref 576) rfl (pc' := 258) rfl ?_
        refine T_p xr_197_258 xn_197 (pc' := 259) (ls' := [(4, .int (iI k)), (3, .int (iI hg)), (2, .int (iI n)), (1, .int (iI (30 * b + w))), (0, .ref 530)]) (st' := [.int (iI n), .ref 576]) rfl ?_
        refine T_p xr_197_259 xn_197 (pc' := 260) (ls' := [(4, .int (iI k)), (3, .int (iI hg)), (2, .int (iI n)), (1, .int (iI (30 * b + w))), (0, .ref 530)]) (st' := [.ref 530, .int (iI n), .ref 576]) rfl ?_
        refine T_get xr_197_260 h2416 rfl (v := .ref 577) rfl (pc' := 263) rfl ?_
        refine T_p xr_197_263 xn_197 (pc' := 264) (ls' := [(4, .int (iI k)), (3, .int (iI hg)), (2, .int (iI n)), (1, .int (iI (30 * b + w))), (0, .ref 530)]) (st' := [.int (iI 0), .ref 577, .int (iI n), .ref 576]) rfl ?_
        refine T_ziald xr_197_264 hpl1 (pc' := 265) rfl ?_
        refine T_ie (y := iI (pr 0)) (by rw [hpr 0 (by omega) (by have := X_wS_h hsk.1 k.toNat (hg, pr) (by omega) hS; rw [show k = gD G w 5 0 by omega, hsk.2.2] at this; have : hg = 1 := this; omega)]) ?_
        have h2419 := (hF2414.1 576 (by first | decide | omega)).trans (hA576)
        refine T_ziast xr_197_265 h2419 (pc' := 266) rfl (fun S2420 h2421 n2422 e2423 => ?_)
        refine T_p xr_197_266 xn_197 (pc' := 267) (ls' := [(4, .int (iI k)), (3, .int (iI hg)), (2, .int (iI n)), (1, .int (iI (30 * b + w))), (0, .ref 530)]) (st' := [.int (iI 0)]) rfl ?_
        refine T_iret xr_197_267 xf_197.2.2 rfl ?_
        refine hQ _ _ ?_
        have h2424 := (n2422 577 (by decide)).trans (hpl1)
        exact Or.inr ⟨pl1, (hg, pr), rfl, (by rw [show gD G w 5 0 = k by omega]; exact hS), h2421, h2424, ((X_Fr.rf).tr (X_Fr.mono ⟨hF2414.1, hF2414.2⟩ (fun q hq => by first | exact hq | (rcases hq with rfl <;> decide) | (rcases hq with rfl | rfl <;> decide) | (rcases hq with rfl | rfl | rfl <;> decide) | (rcases hq with rfl | rfl | rfl | rfl <;> decide) | (rcases hq with rfl | rfl | rfl | rfl | rfl <;> decide) | (rcases hq with rfl | rfl | rfl | rfl | rfl | rfl <;> decide) | (rcases hq with rfl | rfl | rfl | rfl | rfl | rfl | rfl <;> decide) | omega))).tr (X_Fr.of n2422 e2423 (by first | decide | exact ⟨Nat.le_add_right _ _, Nat.add_le_add_left (by decide) _⟩ | omega))⟩
      · skip
        have c2418 : ¬ ((gD G w 5 0) ≤ k) := c2418
        have hst := hsk.1.2.2 k (by omega) (by omega)
        have hph : hg = X_ph (gD G w 12) k.toNat := X_wS_h hsk.1 k.toNat (hg, pr) (by omega) hS
        have hrng := X_wS_r k.toNat (hg, pr) hS
        have hr1 : -2147483648 ≤ pr (hg - 1) ∧ pr (hg - 1) ≤ 2147483647 := hrng (hg - 1)
        have hr2 : -2147483648 ≤ pr (hg - 2) ∧ pr (hg - 2) ≤ 2147483647 := hrng (hg - 2)
        have hgo := X_wS_s (gD G w) ch (k := k) (by omega)
        rw [hS] at hgo
        simp only [Option.bind] at hgo
        unfold X_st1 at hst
        have hst2 : (X_isOp (gD G w 12 k) ∧ 2 ≤ hg ∧ hg ≤ 16) ∨ (¬ X_isOp (gD G w 12 k) ∧ (gD G w 12 k = 4 ∨ (gD G w 12 k = 64 ∧ 1 ≤ gD G w 13 k ∧ gD G w 13 k ≤ gD G w 4 0)) ∧ 0 ≤ hg ∧ hg < 16) := by rw [hph]; exact hst
        have hsr : (gD G w 12 k = 4 ∧ 0 ≤ hg ∧ hg < 16) ∨ (gD G w 12 k = 64 ∧ (1 ≤ gD G w 13 k ∧ gD G w 13 k ≤ gD G w 4 0) ∧ 0 ≤ hg ∧ hg < 16) ∨ ((gD G w 12 k = 43 ∨ gD G w 12 k = 45 ∨ gD G w 12 k = 42 ∨ gD G w 12 k = 47 ∨ gD G w 12 k = 37 ∨ gD G w 12 k = 60) ∧ 2 ≤ hg ∧ hg ≤ 16) := by
          rcases hst2 with ⟨z, z1⟩ | ⟨-, z, z2⟩
          · unfold X_isOp at z; omega
          · omega
        have hso := hST w hw.1.1 hw.1.2 k (by omega) (by omega)
        obtain ⟨s, hs0⟩ : ∃ s, s = X_op (gD G w 12 k) := ⟨_, rfl⟩
        have hs1 : (gD G w 12 k = 4 → s = 110) ∧ (¬ gD G w 12 k = 4 → s = gD G w 12 k) := ⟨fun z => by rw [hs0]; unfold X_op; rw [if_pos z], fun z => by rw [hs0]; unfold X_op; rw [if_neg z]⟩
        refine T_p xr_197_16 xn_197 (pc' := 17) (ls' := [(4, .int (iI k)), (3, .int (iI hg)), (2, .int (iI n)), (1, .int (iI (30 * b + w))), (0, .ref 530)]) (st' := [.ref 530]) rfl ?_
        refine T_get xr_197_17 h2416 rfl (v := .ref 543) rfl (pc' := 20) rfl ?_
        refine T_p xr_197_20 xn_197 (pc' := 22) (ls' := [(4, .int (iI k)), (3, .int (iI hg)), (2, .int (iI n)), (1, .int (iI (30 * b + w))), (0, .ref 530)]) (st' := [.int (iI 30), .ref 543]) rfl ?_
        refine T_p xr_197_22 xn_197 (pc' := 23) (ls' := [(4, .int (iI k)), (3, .int (iI hg)), (2, .int (iI n)), (1, .int (iI (30 * b + w))), (0, .ref 530)]) (st' := [.int (iI (30 * b + w)), .int (iI 30), .ref 543]) rfl ?_
        refine T_zimul xr_197_23 (z := 30 * (30 * b + w)) rfl (pc' := 24) rfl ?_
        refine T_p xr_197_24 xn_197 (pc' := 26) (ls' := [(4, .int (iI k)), (3, .int (iI hg)), (2, .int (iI n)), (1, .int (iI (30 * b + w))), (0, .ref 530)]) (st' := [.int (iI k), .int (iI (30 * (30 * b + w))), .ref 543]) rfl ?_
        refine T_ziadd xr_197_26 (z := (30 * (30 * b + w)) + k) rfl (pc' := 27) rfl ?_
        have h2425 := (hF2414.1 543 (by first | decide | omega)).trans (hA543)
        refine T_ziald xr_197_27 h2425 (pc' := 28) rfl ?_
        refine T_ie (y := iI s) (by rw [hs0, hso.1]) ?_
        refine T_p xr_197_28 xn_197 (pc' := 30) (ls' := [(5, .int (iI s)), (4, .int (iI k)), (3, .int (iI hg)), (2, .int (iI n)), (1, .int (iI (30 * b + w))), (0, .ref 530)]) (st' := []) rfl ?_
        refine T_p xr_197_30 xn_197 (pc' := 31) (ls' := [(5, .int (iI s)), (4, .int (iI k)), (3, .int (iI hg)), (2, .int (iI n)), (1, .int (iI (30 * b + w))), (0, .ref 530)]) (st' := [.ref 530]) rfl ?_
        refine T_get xr_197_31 h2416 rfl (v := .ref 544) rfl (pc' := 34) rfl ?_
        refine T_p xr_197_34 xn_197 (pc' := 36) (ls' := [(5, .int (iI s)), (4, .int (iI k)), (3, .int (iI hg)), (2, .int (iI n)), (1, .int (iI (30 * b + w))), (0, .ref 530)]) (st' := [.int (iI 30), .ref 544]) rfl ?_
        refine T_p xr_197_36 xn_197 (pc' := 37) (ls' := [(5, .int (iI s)), (4, .int (iI k)), (3, .int (iI hg)), (2, .int (iI n)), (1, .int (iI (30 * b + w))), (0, .ref 530)]) (st' := [.int (iI (30 * b + w)), .int (iI 30), .ref 544]) rfl ?_
        refine T_zimul xr_197_37 (z := 30 * (30 * b + w)) rfl (pc' := 38) rfl ?_
        refine T_p xr_197_38 xn_197 (pc' := 40) (ls' := [(5, .int (iI s)), (4, .int (iI k)), (3, .int (iI hg)), (2, .int (iI n)), (1, .int (iI (30 * b + w))), (0, .ref 530)]) (st' := [.int (iI k), .int (iI (30 * (30 * b + w))), .ref 544]) rfl ?_
        refine T_ziadd xr_197_40 (z := (30 * (30 * b + w)) + k) rfl (pc' := 41) rfl ?_
        have h2426 := (hF2414.1 544 (by first | decide | omega)).trans (hA544)
        refine T_ziald xr_197_41 h2426 (pc' := 42) rfl ?_
        refine T_p xr_197_42 xn_197 (pc' := 44) (ls' := [(6, .int (iI (sN ((30 * (30 * b + w)) + k)))), (5, .int (iI s)), (4, .int (iI k)), (3, .int (iI hg)), (2, .int (iI n)), (1, .int (iI (30 * b + w))), (0, .ref 530)]) (st' := []) rfl ?_
        refine T_p xr_197_44 xn_197 (pc' := 46) (ls' := [(6, .int (iI (sN ((30 * (30 * b + w)) + k)))), (5, .int (iI s)), (4, .int (iI k)), (3, .int (iI hg)), (2, .int (iI n)), (1, .int (iI (30 * b + w))), (0, .ref 530)]) (st' := [.int (iI s)]) rfl ?_
        refine T_p xr_197_46 xn_197 (pc' := 48) (ls' := [(6, .int (iI (sN ((30 * (30 * b + w)) + k)))), (5, .int (iI s)), (4, .int (iI k)), (3, .int (iI hg)), (2, .int (iI n)), (1, .int (iI (30 * b + w))), (0, .ref 530)]) (st' := [.int (iI 110), .int (iI s)]) rfl ?_
        refine T_zicmp_eq xr_197_48 (t := 58) (pc' := 51) rfl rfl (fun c2427 => ?_) (fun c2427 => ?_)
        · skip
          have c2427 : s = 110 := c2427
          refine T_p xr_197_58 xn_197 (pc' := 59) (ls' := [(6, .int (iI (sN ((30 * (30 * b + w)) + k)))), (5, .int (iI s)), (4, .int (iI k)), (3, .int (iI hg)), (2, .int (iI n)), (1, .int (iI (30 * b + w))), (0, .ref 530)]) (st' := [.ref 530]) rfl ?_
          refine T_get xr_197_59 h2416 rfl (v := .ref 577) rfl (pc' := 62) rfl ?_
          refine T_p xr_197_62 xn_197 (pc' := 63) (ls' := [(6, .int (iI (sN ((30 * (30 * b + w)) + k)))), (5, .int (iI s)), (4, .int (iI k)), (3, .int (iI hg)), (2, .int (iI n)), (1, .int (iI (30 * b + w))), (0, .ref 530)]) (st' := [.int (iI hg), .ref 577]) rfl ?_
          refine T_p xr_197_63 xn_197 (pc' := 65) (ls' := [(6, .int (iI (sN ((30 * (30 * b + w)) + k)))), (5, .int (iI s)), (4, .int (iI k)), (3, .int (iI hg)), (2, .int (iI n)), (1, .int (iI (30 * b + w))), (0, .ref 530)]) (st' := [.int (iI s), .int (iI hg), .ref 577]) rfl ?_
          refine T_p xr_197_65 xn_197 (pc' := 67) (ls' := [(6, .int (iI (sN ((30 * (30 * b + w)) + k)))), (5, .int (iI s)), (4, .int (iI k)), (3, .int (iI hg)), (2, .int (iI n)), (1, .int (iI (30 * b + w))), (0, .ref 530)]) (st' := [.int (iI 110), .int (iI s), .int (iI hg), .ref 577]) rfl ?_
          refine T_zicmp_ne xr_197_67 (t := 75) (pc' := 70) rfl rfl (fun c2428 => ?_) (fun c2428 => ?_)
          · skip
            have c2428 : ¬ s = 110 := c2428
            have hsn := hso.2.2 (by omega)
            rw [if_neg (show ¬ gD G w 12 k = 4 by omega), if_pos (show gD G w 12 k = 64 by omega)] at hgo
            refine T_p xr_197_75 xn_197 (pc' := 76) (ls' := [(6, .int (iI (sN ((30 * (30 * b + w)) + k)))), (5, .int (iI s)), (4, .int (iI k)), (3, .int (iI hg)), (2, .int (iI n)), (1, .int (iI (30 * b + w))), (0, .ref 530)]) (st' := [.ref 530, .int (iI hg), .ref 577]) rfl ?_
            refine T_get xr_197_76 h2416 rfl (v := .ref 578) rfl (pc' := 79) rfl ?_
            refine T_p xr_197_79 xn_197 (pc' := 81) (ls' := [(6, .int (iI (sN ((30 * (30 * b + w)) + k)))), (5, .int (iI s)), (4, .int (iI k)), (3, .int (iI hg)), (2, .int (iI n)), (1, .int (iI (30 * b + w))), (0, .ref 530)]) (st' := [.int (iI (sN ((30 * (30 * b + w)) + k))), .ref 578, .int (iI hg), .ref 577]) rfl ?_
            refine T_ie (y := iI (gD G w 13 k - 1)) (by rw [hsn]) ?_
            have h2429 := (hF2414.1 578 (by first | decide | omega)).trans (hA578)
            refine T_ziald xr_197_81 h2429 (pc' := 82) rfl ?_
            refine T_ie (y := iI ((iI (ch (gD G w 13 k - 1))).toInt)) (by rw [hcv (gD G w 13 k - 1) (by omega) (by omega)]; exact iI_of _) ?_
            refine T_ziast xr_197_82 hpl1 (pc' := 83) rfl (fun S2430 h2431 n2432 e2433 => ?_)
            refine T_ziinc xr_197_83 xn_197 (a := hg) (z := hg + 1) rfl (Nat.le_of_ble_eq_true rfl) (by omega) (ls' := [(3, .int (iI (hg + 1))), (6, .int (iI (sN ((30 * (30 * b + w)) + k)))), (5, .int (iI s)), (4, .int (iI k)), (2, .int (iI n)), (1, .int (iI (30 * b + w))), (0, .ref 530)]) rfl (pc' := 86) rfl ?_
            refine T_p xr_197_86 xn_197 (pc' := 248) (ls' := [(3, .int (iI (hg + 1))), (6, .int (iI (sN ((30 * (30 * b + w)) + k)))), (5, .int (iI s)), (4, .int (iI k)), (2, .int (iI n)), (1, .int (iI (30 * b + w))), (0, .ref 530)]) (st' := []) rfl ?_
            refine T_ziinc xr_197_248 xn_197 (a := k) (z := k + 1) rfl (Nat.le_of_ble_eq_true rfl) (by omega) (ls' := [(4, .int (iI (k + 1))), (3, .int (iI (hg + 1))), (6, .int (iI (sN ((30 * (30 * b + w)) + k)))), (5, .int (iI s)), (2, .int (iI n)), (1, .int (iI (30 * b + w))), (0, .ref 530)]) rfl (pc' := 251) rfl ?_
            refine T_p xr_197_251 xn_197 (pc' := 5) (ls' := [(4, .int (iI (k + 1))), (3, .int (iI (hg + 1))), (6, .int (iI (sN ((30 * (30 * b + w)) + k)))), (5, .int (iI s)), (2, .int (iI n)), (1, .int (iI (30 * b + w))), (0, .ref 530)]) (st' := []) rfl ?_
            refine T_sub (ls := [(4, .int (iI (k + 1))), (3, .int (iI (hg + 1))), (2, .int (iI n)), (1, .int (iI (30 * b + w))), (0, .ref 530)]) ⟨rfl, rfl, rfl, rfl, rfl, trivial⟩ rfl rfl ?_
            exact ih2411 S2430 (k + 1) (hg + 1) (X_ug pl1 hg ((iI (ch (gD G w 13 k - 1))).toInt)) (X_ug pr hg ((iI (ch (gD G w 13 k - 1))).toInt)) h2431 (hF2414.tr ((X_Fr.rf).tr (X_Fr.of n2432 e2433 (by first | decide | exact ⟨Nat.le_add_right _ _, Nat.add_le_add_left (by decide) _⟩ | omega)))) (by omega) hgo (fun q h1 h2 => by
                  by_cases hq : q = hg
                  · rw [hq, X_ug_s, X_ug_s]
                  · rw [X_ug_n _ _ hq, X_ug_n _ _ hq]; exact hpr q h1 (by omega)) (by omega) (by omega)
          · skip
            have c2428 : ¬ (¬ s = 110) := c2428
            rw [if_pos (show gD G w 12 k = 4 by omega)] at hgo
            refine T_p xr_197_70 xn_197 (pc' := 72) (ls' := [(6, .int (iI (sN ((30 * (30 * b + w)) + k)))), (5, .int (iI s)), (4, .int (iI k)), (3, .int (iI hg)), (2, .int (iI n)), (1, .int (iI (30 * b + w))), (0, .ref 530)]) (st' := [.int (iI (sN ((30 * (30 * b + w)) + k))), .int (iI hg), .ref 577]) rfl ?_
            refine T_p xr_197_72 xn_197 (pc' := 82) (ls' := [(6, .int (iI (sN ((30 * (30 * b + w)) + k)))), (5, .int (iI s)), (4, .int (iI k)), (3, .int (iI hg)), (2, .int (iI n)), (1, .int (iI (30 * b + w))), (0, .ref 530)]) (st' := [.int (iI (sN ((30 * (30 * b + w)) + k))), .int (iI hg), .ref 577]) rfl ?_
            refine T_ie (y := iI ((iI (gD G w 13 k)).toInt)) (by rw [hso.2.1 (by omega)]; exact iI_of _) ?_
            refine T_ziast xr_197_82 hpl1 (pc' := 83) rfl (fun S2434 h2435 n2436 e2437 => ?_)
            refine T_ziinc xr_197_83 xn_197 (a := hg) (z := hg + 1) rfl (Nat.le_of_ble_eq_true rfl) (by omega) (ls' := [(3, .int (iI (hg + 1))), (6, .int (iI (sN ((30 * (30 * b + w)) + k)))), (5, .int (iI s)), (4, .int (iI k)), (2, .int (iI n)), (1, .int (iI (30 * b + w))), (0, .ref 530)]) rfl (pc' := 86) rfl ?_
            refine T_p xr_197_86 xn_197 (pc' := 248) (ls' := [(3, .int (iI (hg + 1))), (6, .int (iI (sN ((30 * (30 * b + w)) + k)))), (5, .int (iI s)), (4, .int (iI k)), (2, .int (iI n)), (1, .int (iI (30 * b + w))), (0, .ref 530)]) (st' := []) rfl ?_
            refine T_ziinc xr_197_248 xn_197 (a := k) (z := k + 1) rfl (Nat.le_of_ble_eq_true rfl) (by omega) (ls' := [(4, .int (iI (k + 1))), (3, .int (iI (hg + 1))), (6, .int (iI (sN ((30 * (30 * b + w)) + k)))), (5, .int (iI s)), (2, .int (iI n)), (1, .int (iI (30 * b + w))), (0, .ref 530)]) rfl (pc' := 251) rfl ?_
            refine T_p xr_197_251 xn_197 (pc' := 5) (ls' := [(4, .int (iI (k + 1))), (3, .int (iI (hg + 1))), (6, .int (iI (sN ((30 * (30 * b + w)) + k)))), (5, .int (iI s)), (2, .int (iI n)), (1, .int (iI (30 * b + w))), (0, .ref 530)]) (st' := []) rfl ?_
            refine T_sub (ls := [(4, .int (iI (k + 1))), (3, .int (iI (hg + 1))), (2, .int (iI n)), (1, .int (iI (30 * b + w))), (0, .ref 530)]) ⟨rfl, rfl, rfl, rfl, rfl, trivial⟩ rfl rfl ?_
            exact ih2411 S2434 (k + 1) (hg + 1) (X_ug pl1 hg ((iI (gD G w 13 k)).toInt)) (X_ug pr hg ((iI (gD G w 13 k)).toInt)) h2435 (hF2414.tr ((X_Fr.rf).tr (X_Fr.of n2436 e2437 (by first | decide | exact ⟨Nat.le_add_right _ _, Nat.add_le_add_left (by decide) _⟩ | omega)))) (by omega) hgo (fun q h1 h2 => by
                  by_cases hq : q = hg
                  · rw [hq, X_ug_s, X_ug_s]
                  · rw [X_ug_n _ _ hq, X_ug_n _ _ hq]; exact hpr q h1 (by omega)) (by omega) (by omega)
        · skip
          have c2427 : ¬ (s = 110) := c2427
          refine T_p xr_197_51 xn_197 (pc' := 53) (ls' := [(6, .int (iI (sN ((30 * (30 * b + w)) + k)))), (5, .int (iI s)), (4, .int (iI k)), (3, .int (iI hg)), (2, .int (iI n)), (1, .int (iI (30 * b + w))), (0, .ref 530)]) (st' := [.int (iI s)]) rfl ?_
          refine T_p xr_197_53 xn_197 (pc' := 55) (ls' := [(6, .int (iI (sN ((30 * (30 * b + w)) + k)))), (5, .int (iI s)), (4, .int (iI k)), (3, .int (iI hg)), (2, .int (iI n)), (1, .int (iI (30 * b + w))), (0, .ref 530)]) (st' := [.int (iI 64), .int (iI s)]) rfl ?_
          refine T_zicmp_ne xr_197_55 (t := 89) (pc' := 58) rfl rfl (fun c2438 => ?_) (fun c2438 => ?_)
          · skip
            have c2438 : ¬ s = 64 := c2438
            have hop : X_isOp (gD G w 12 k) := by unfold X_isOp; omega
            rw [if_neg (show ¬ gD G w 12 k = 4 by omega), if_neg (show ¬ gD G w 12 k = 64 by omega)] at hgo
            refine T_ziinc xr_197_89 xn_197 (a := hg) (z := hg - 1) rfl (Nat.le_of_ble_eq_true rfl) (by omega) (ls' := [(3, .int (iI (hg - 1))), (6, .int (iI (sN ((30 * (30 * b + w)) + k)))), (5, .int (iI s)), (4, .int (iI k)), (2, .int (iI n)), (1, .int (iI (30 * b + w))), (0, .ref 530)]) rfl (pc' := 92) rfl ?_
            refine T_p xr_197_92 xn_197 (pc' := 93) (ls' := [(3, .int (iI (hg - 1))), (6, .int (iI (sN ((30 * (30 * b + w)) + k)))), (5, .int (iI s)), (4, .int (iI k)), (2, .int (iI n)), (1, .int (iI (30 * b + w))), (0, .ref 530)]) (st' := [.ref 530]) rfl ?_
            refine T_get xr_197_93 h2416 rfl (v := .ref 577) rfl (pc' := 96) rfl ?_
            refine T_p xr_197_96 xn_197 (pc' := 97) (ls' := [(3, .int (iI (hg - 1))), (6, .int (iI (sN ((30 * (30 * b + w)) + k)))), (5, .int (iI s)), (4, .int (iI k)), (2, .int (iI n)), (1, .int (iI (30 * b + w))), (0, .ref 530)]) (st' := [.int (iI (hg - 1)), .ref 577]) rfl ?_
            refine T_p xr_197_97 xn_197 (pc' := 98) (ls' := [(3, .int (iI (hg - 1))), (6, .int (iI (sN ((30 * (30 * b + w)) + k)))), (5, .int (iI s)), (4, .int (iI k)), (2, .int (iI n)), (1, .int (iI (30 * b + w))), (0, .ref 530)]) (st' := [.int (iI 1), .int (iI (hg - 1)), .ref 577]) rfl ?_
            refine T_zisub xr_197_98 (z := hg - 2) (by omega) (pc' := 99) rfl ?_
            refine T_ziald xr_197_99 hpl1 (pc' := 100) rfl ?_
            refine T_ie (y := iI (pr (hg - 2))) (by rw [hpr (hg - 2) (by omega) (by omega)]) ?_
            refine T_p xr_197_100 xn_197 (pc' := 102) (ls' := [(7, .int (iI (pr (hg - 2)))), (3, .int (iI (hg - 1))), (6, .int (iI (sN ((30 * (30 * b + w)) + k)))), (5, .int (iI s)), (4, .int (iI k)), (2, .int (iI n)), (1, .int (iI (30 * b + w))), (0, .ref 530)]) (st' := []) rfl ?_
            refine T_p xr_197_102 xn_197 (pc' := 103) (ls' := [(7, .int (iI (pr (hg - 2)))), (3, .int (iI (hg - 1))), (6, .int (iI (sN ((30 * (30 * b + w)) + k)))), (5, .int (iI s)), (4, .int (iI k)), (2, .int (iI n)), (1, .int (iI (30 * b + w))), (0, .ref 530)]) (st' := [.ref 530]) rfl ?_
            refine T_get xr_197_103 h2416 rfl (v := .ref 577) rfl (pc' := 106) rfl ?_
            refine T_p xr_197_106 xn_197 (pc' := 107) (ls' := [(7, .int (iI (pr (hg - 2)))), (3, .int (iI (hg - 1))), (6, .int (iI (sN ((30 * (30 * b + w)) + k)))), (5, .int (iI s)), (4, .int (iI k)), (2, .int (iI n)), (1, .int (iI (30 * b + w))), (0, .ref 530)]) (st' := [.int (iI (hg - 1)), .ref 577]) rfl ?_
            refine T_ziald xr_197_107 hpl1 (pc' := 108) rfl ?_
            refine T_ie (y := iI (pr (hg - 1))) (by rw [hpr (hg - 1) (by omega) (by omega)]) ?_
            refine T_p xr_197_108 xn_197 (pc' := 110) (ls' := [(8, .int (iI (pr (hg - 1)))), (7, .int (iI (pr (hg - 2)))), (3, .int (iI (hg - 1))), (6, .int (iI (sN ((30 * (30 * b + w)) + k)))), (5, .int (iI s)), (4, .int (iI k)), (2, .int (iI n)), (1, .int (iI (30 * b + w))), (0, .ref 530)]) (st' := []) rfl ?_
            refine T_p xr_197_110 xn_197 (pc' := 112) (ls' := [(8, .int (iI (pr (hg - 1)))), (7, .int (iI (pr (hg - 2)))), (3, .int (iI (hg - 1))), (6, .int (iI (sN ((30 * (30 * b + w)) + k)))), (5, .int (iI s)), (4, .int (iI k)), (2, .int (iI n)), (1, .int (iI (30 * b + w))), (0, .ref 530)]) (st' := [.int (iI s)]) rfl ?_
            refine T_p xr_197_112 xn_197 (pc' := 114) (ls' := [(8, .int (iI (pr (hg - 1)))), (7, .int (iI (pr (hg - 2)))), (3, .int (iI (hg - 1))), (6, .int (iI (sN ((30 * (30 * b + w)) + k)))), (5, .int (iI s)), (4, .int (iI k)), (2, .int (iI n)), (1, .int (iI (30 * b + w))), (0, .ref 530)]) (st' := [.int (iI 47), .int (iI s)]) rfl ?_
            refine T_zicmp_eq xr_197_114 (t := 124) (pc' := 117) rfl rfl (fun c2439 => ?_) (fun c2439 => ?_)
            · skip
              have c2439 : s = 47 := c2439
              refine T_p xr_197_124 xn_197 (pc' := 126) (ls' := [(8, .int (iI (pr (hg - 1)))), (7, .int (iI (pr (hg - 2)))), (3, .int (iI (hg - 1))), (6, .int (iI (sN ((30 * (30 * b + w)) + k)))), (5, .int (iI s)), (4, .int (iI k)), (2, .int (iI n)), (1, .int (iI (30 * b + w))), (0, .ref 530)]) (st' := [.int (iI (pr (hg - 1)))]) rfl ?_
              refine T_zif_ne xr_197_126 (t := 131) (pc' := 129) rfl rfl (fun c2440 => ?_) (fun c2440 => ?_)
              · skip
                have c2440 : ¬ (pr (hg - 1)) = 0 := c2440
                refine T_p xr_197_131 xn_197 (pc' := 132) (ls' := [(8, .int (iI (pr (hg - 1)))), (7, .int (iI (pr (hg - 2)))), (3, .int (iI (hg - 1))), (6, .int (iI (sN ((30 * (30 * b + w)) + k)))), (5, .int (iI s)), (4, .int (iI k)), (2, .int (iI n)), (1, .int (iI (30 * b + w))), (0, .ref 530)]) (st' := [.ref 530]) rfl ?_
                refine T_get xr_197_132 h2416 rfl (v := .ref 577) rfl (pc' := 135) rfl ?_
                refine T_p xr_197_135 xn_197 (pc' := 136) (ls' := [(8, .int (iI (pr (hg - 1)))), (7, .int (iI (pr (hg - 2)))), (3, .int (iI (hg - 1))), (6, .int (iI (sN ((30 * (30 * b + w)) + k)))), (5, .int (iI s)), (4, .int (iI k)), (2, .int (iI n)), (1, .int (iI (30 * b + w))), (0, .ref 530)]) (st' := [.int (iI (hg - 1)), .ref 577]) rfl ?_
                refine T_p xr_197_136 xn_197 (pc' := 137) (ls' := [(8, .int (iI (pr (hg - 1)))), (7, .int (iI (pr (hg - 2)))), (3, .int (iI (hg - 1))), (6, .int (iI (sN ((30 * (30 * b + w)) + k)))), (5, .int (iI s)), (4, .int (iI k)), (2, .int (iI n)), (1, .int (iI (30 * b + w))), (0, .ref 530)]) (st' := [.int (iI 1), .int (iI (hg - 1)), .ref 577]) rfl ?_
                refine T_zisub xr_197_137 (z := hg - 2) (by omega) (pc' := 138) rfl ?_
                have J2441 : X_T sc 197 (247, [(8, .int (iI (pr (hg - 1)))), (7, .int (iI (pr (hg - 2)))), (3, .int (iI (hg - 1))), (6, .int (iI (sN ((30 * (30 * b + w)) + k)))), (5, .int (iI s)), (4, .int (iI k)), (2, .int (iI n)), (1, .int (iI (30 * b + w))), (0, .ref 530)], [.int (iI (X_out2 (gD G w 12 k) (pr (hg - 2)) (pr (hg - 1)))), .int (iI (hg - 2)), .ref 577], S2415) Q := by
                  refine T_ziast xr_197_247 hpl1 (pc' := 248) rfl (fun S2442 h2443 n2444 e2445 => ?_)
                  refine T_ziinc xr_197_248 xn_197 (a := k) (z := k + 1) rfl (Nat.le_of_ble_eq_true rfl) (by omega) (ls' := [(4, .int (iI (k + 1))), (8, .int (iI (pr (hg - 1)))), (7, .int (iI (pr (hg - 2)))), (3, .int (iI (hg - 1))), (6, .int (iI (sN ((30 * (30 * b + w)) + k)))), (5, .int (iI s)), (2, .int (iI n)), (1, .int (iI (30 * b + w))), (0, .ref 530)]) rfl (pc' := 251) rfl ?_
                  refine T_p xr_197_251 xn_197 (pc' := 5) (ls' := [(4, .int (iI (k + 1))), (8, .int (iI (pr (hg - 1)))), (7, .int (iI (pr (hg - 2)))), (3, .int (iI (hg - 1))), (6, .int (iI (sN ((30 * (30 * b + w)) + k)))), (5, .int (iI s)), (2, .int (iI n)), (1, .int (iI (30 * b + w))), (0, .ref 530)]) (st' := []) rfl ?_
                  refine T_sub (ls := [(4, .int (iI (k + 1))), (3, .int (iI (hg - 1))), (2, .int (iI n)), (1, .int (iI (30 * b + w))), (0, .ref 530)]) ⟨rfl, rfl, rfl, rfl, rfl, trivial⟩ rfl rfl ?_
                  exact ih2411 S2442 (k + 1) (hg - 1) (X_ug pl1 (hg - 2) (X_out2 (gD G w 12 k) (pr (hg - 2)) (pr (hg - 1)))) (X_ug pr (hg - 2) (X_out2 (gD G w 12 k) (pr (hg - 2)) (pr (hg - 1)))) h2443 (hF2414.tr ((X_Fr.rf).tr (X_Fr.of n2444 e2445 (by first | decide | exact ⟨Nat.le_add_right _ _, Nat.add_le_add_left (by decide) _⟩ | omega)))) (by omega) (by rw [hgo, if_neg (fun z => by have z1 := z.1; have z2 : pr (hg - 1) = 0 := z.2; omega)]) (fun q h1 h2 => by
                        by_cases hq : q = hg - 2
                        · rw [hq, X_ug_s, X_ug_s]
                        · rw [X_ug_n _ _ hq, X_ug_n _ _ hq]; exact hpr q h1 (by omega)) (by omega) (by omega)
                refine T_p xr_197_138 xn_197 (pc' := 140) (ls' := [(8, .int (iI (pr (hg - 1)))), (7, .int (iI (pr (hg - 2)))), (3, .int (iI (hg - 1))), (6, .int (iI (sN ((30 * (30 * b + w)) + k)))), (5, .int (iI s)), (4, .int (iI k)), (2, .int (iI n)), (1, .int (iI (30 * b + w))), (0, .ref 530)]) (st' := [.int (iI s), .int (iI (hg - 2)), .ref 577]) rfl ?_
                refine T_p xr_197_140 xn_197 (pc' := 142) (ls' := [(8, .int (iI (pr (hg - 1)))), (7, .int (iI (pr (hg - 2)))), (3, .int (iI (hg - 1))), (6, .int (iI (sN ((30 * (30 * b + w)) + k)))), (5, .int (iI s)), (4, .int (iI k)), (2, .int (iI n)), (1, .int (iI (30 * b + w))), (0, .ref 530)]) (st' := [.int (iI 43), .int (iI s), .int (iI (hg - 2)), .ref 577]) rfl ?_
                refine T_zicmp_ne xr_197_142 (t := 153) (pc' := 145) rfl rfl (fun c2446 => ?_) (fun c2446 => ?_)
                · skip
                  have c2446 : ¬ s = 43 := c2446
                  refine T_p xr_197_153 xn_197 (pc' := 155) (ls' := [(8, .int (iI (pr (hg - 1)))), (7, .int (iI (pr (hg - 2)))), (3, .int (iI (hg - 1))), (6, .int (iI (sN ((30 * (30 * b + w)) + k)))), (5, .int (iI s)), (4, .int (iI k)), (2, .int (iI n)), (1, .int (iI (30 * b + w))), (0, .ref 530)]) (st' := [.int (iI s), .int (iI (hg - 2)), .ref 577]) rfl ?_
                  refine T_p xr_197_155 xn_197 (pc' := 157) (ls' := [(8, .int (iI (pr (hg - 1)))), (7, .int (iI (pr (hg - 2)))), (3, .int (iI (hg - 1))), (6, .int (iI (sN ((30 * (30 * b + w)) + k)))), (5, .int (iI s)), (4, .int (iI k)), (2, .int (iI n)), (1, .int (iI (30 * b + w))), (0, .ref 530)]) (st' := [.int (iI 45), .int (iI s), .int (iI (hg - 2)), .ref 577]) rfl ?_
                  refine T_zicmp_ne xr_197_157 (t := 168) (pc' := 160) rfl rfl (fun c2447 => ?_) (fun c2447 => ?_)
                  · skip
                    have c2447 : ¬ s = 45 := c2447
                    refine T_p xr_197_168 xn_197 (pc' := 170) (ls' := [(8, .int (iI (pr (hg - 1)))), (7, .int (iI (pr (hg - 2)))), (3, .int (iI (hg - 1))), (6, .int (iI (sN ((30 * (30 * b + w)) + k)))), (5, .int (iI s)), (4, .int (iI k)), (2, .int (iI n)), (1, .int (iI (30 * b + w))), (0, .ref 530)]) (st' := [.int (iI s), .int (iI (hg - 2)), .ref 577]) rfl ?_
                    refine T_p xr_197_170 xn_197 (pc' := 172) (ls' := [(8, .int (iI (pr (hg - 1)))), (7, .int (iI (pr (hg - 2)))), (3, .int (iI (hg - 1))), (6, .int (iI (sN ((30 * (30 * b + w)) + k)))), (5, .int (iI s)), (4, .int (iI k)), (2, .int (iI n)), (1, .int (iI (30 * b + w))), (0, .ref 530)]) (st' := [.int (iI 42), .int (iI s), .int (iI (hg - 2)), .ref 577]) rfl ?_
                    refine T_zicmp_ne xr_197_172 (t := 183) (pc' := 175) rfl rfl (fun c2448 => ?_) (fun c2448 => ?_)
                    · skip
                      have c2448 : ¬ s = 42 := c2448
                      refine T_p xr_197_183 xn_197 (pc' := 185) (ls' := [(8, .int (iI (pr (hg - 1)))), (7, .int (iI (pr (hg - 2)))), (3, .int (iI (hg - 1))), (6, .int (iI (sN ((30 * (30 * b + w)) + k)))), (5, .int (iI s)), (4, .int (iI k)), (2, .int (iI n)), (1, .int (iI (30 * b + w))), (0, .ref 530)]) (st' := [.int (iI s), .int (iI (hg - 2)), .ref 577]) rfl ?_
                      refine T_p xr_197_185 xn_197 (pc' := 187) (ls' := [(8, .int (iI (pr (hg - 1)))), (7, .int (iI (pr (hg - 2)))), (3, .int (iI (hg - 1))), (6, .int (iI (sN ((30 * (30 * b + w)) + k)))), (5, .int (iI s)), (4, .int (iI k)), (2, .int (iI n)), (1, .int (iI (30 * b + w))), (0, .ref 530)]) (st' := [.int (iI 47), .int (iI s), .int (iI (hg - 2)), .ref 577]) rfl ?_
                      refine T_zicmp_ne xr_197_187 (t := 210) (pc' := 190) rfl rfl (fun c2449 => ?_) (fun c2449 => ?_)
                      · skip
                        have c2449 : ¬ s = 47 := c2449
                        refine T_p xr_197_210 xn_197 (pc' := 212) (ls' := [(8, .int (iI (pr (hg - 1)))), (7, .int (iI (pr (hg - 2)))), (3, .int (iI (hg - 1))), (6, .int (iI (sN ((30 * (30 * b + w)) + k)))), (5, .int (iI s)), (4, .int (iI k)), (2, .int (iI n)), (1, .int (iI (30 * b + w))), (0, .ref 530)]) (st' := [.int (iI s), .int (iI (hg - 2)), .ref 577]) rfl ?_
                        refine T_p xr_197_212 xn_197 (pc' := 214) (ls' := [(8, .int (iI (pr (hg - 1)))), (7, .int (iI (pr (hg - 2)))), (3, .int (iI (hg - 1))), (6, .int (iI (sN ((30 * (30 * b + w)) + k)))), (5, .int (iI s)), (4, .int (iI k)), (2, .int (iI n)), (1, .int (iI (30 * b + w))), (0, .ref 530)]) (st' := [.int (iI 37), .int (iI s), .int (iI (hg - 2)), .ref 577]) rfl ?_
                        refine T_zicmp_ne xr_197_214 (t := 235) (pc' := 217) rfl rfl (fun c2450 => ?_) (fun c2450 => ?_)
                        · skip
                          have c2450 : ¬ s = 37 := c2450
                          refine T_p xr_197_235 xn_197 (pc' := 237) (ls' := [(8, .int (iI (pr (hg - 1)))), (7, .int (iI (pr (hg - 2)))), (3, .int (iI (hg - 1))), (6, .int (iI (sN ((30 * (30 * b + w)) + k)))), (5, .int (iI s)), (4, .int (iI k)), (2, .int (iI n)), (1, .int (iI (30 * b + w))), (0, .ref 530)]) (st' := [.int (iI (pr (hg - 2))), .int (iI (hg - 2)), .ref 577]) rfl ?_
                          refine T_p xr_197_237 xn_197 (pc' := 239) (ls' := [(8, .int (iI (pr (hg - 1)))), (7, .int (iI (pr (hg - 2)))), (3, .int (iI (hg - 1))), (6, .int (iI (sN ((30 * (30 * b + w)) + k)))), (5, .int (iI s)), (4, .int (iI k)), (2, .int (iI n)), (1, .int (iI (30 * b + w))), (0, .ref 530)]) (st' := [.int (iI (pr (hg - 1))), .int (iI (pr (hg - 2))), .int (iI (hg - 2)), .ref 577]) rfl ?_
                          refine T_zicmp_ge xr_197_239 (t := 246) (pc' := 242) rfl rfl (fun c2451 => ?_) (fun c2451 => ?_)
                          · skip
                            have c2451 : (pr (hg - 1)) ≤ (pr (hg - 2)) := c2451
                            refine T_p xr_197_246 xn_197 (pc' := 247) (ls' := [(8, .int (iI (pr (hg - 1)))), (7, .int (iI (pr (hg - 2)))), (3, .int (iI (hg - 1))), (6, .int (iI (sN ((30 * (30 * b + w)) + k)))), (5, .int (iI s)), (4, .int (iI k)), (2, .int (iI n)), (1, .int (iI (30 * b + w))), (0, .ref 530)]) (st' := [.int (iI 0), .int (iI (hg - 2)), .ref 577]) rfl ?_
                            refine T_ie (y := iI (X_out2 (gD G w 12 k) (pr (hg - 2)) (pr (hg - 1)))) (X_out2_f hop (Or.inr (Or.inr (Or.inr (Or.inr (Or.inr (⟨by omega, (bI_f (by omega)).symm⟩))))))) ?_
                            exact J2441
                          · skip
                            have c2451 : ¬ ((pr (hg - 1)) ≤ (pr (hg - 2))) := c2451
                            refine T_p xr_197_242 xn_197 (pc' := 243) (ls' := [(8, .int (iI (pr (hg - 1)))), (7, .int (iI (pr (hg - 2)))), (3, .int (iI (hg - 1))), (6, .int (iI (sN ((30 * (30 * b + w)) + k)))), (5, .int (iI s)), (4, .int (iI k)), (2, .int (iI n)), (1, .int (iI (30 * b + w))), (0, .ref 530)]) (st' := [.int (iI 1), .int (iI (hg - 2)), .ref 577]) rfl ?_
                            refine T_p xr_197_243 xn_197 (pc' := 247) (ls' := [(8, .int (iI (pr (hg - 1)))), (7, .int (iI (pr (hg - 2)))), (3, .int (iI (hg - 1))), (6, .int (iI (sN ((30 * (30 * b + w)) + k)))), (5, .int (iI s)), (4, .int (iI k)), (2, .int (iI n)), (1, .int (iI (30 * b + w))), (0, .ref 530)]) (st' := [.int (iI 1), .int (iI (hg - 2)), .ref 577]) rfl ?_
                            refine T_ie (y := iI (X_out2 (gD G w 12 k) (pr (hg - 2)) (pr (hg - 1)))) (X_out2_f hop (Or.inr (Or.inr (Or.inr (Or.inr (Or.inr (⟨by omega, (bI_t (by omega)).symm⟩))))))) ?_
                            exact J2441
                        · skip
                          have c2450 : ¬ (¬ s = 37) := c2450
                          refine T_p xr_197_217 xn_197 (pc' := 219) (ls' := [(8, .int (iI (pr (hg - 1)))), (7, .int (iI (pr (hg - 2)))), (3, .int (iI (hg - 1))), (6, .int (iI (sN ((30 * (30 * b + w)) + k)))), (5, .int (iI s)), (4, .int (iI k)), (2, .int (iI n)), (1, .int (iI (30 * b + w))), (0, .ref 530)]) (st' := [.int (iI (pr (hg - 1))), .int (iI (hg - 2)), .ref 577]) rfl ?_
                          refine T_p xr_197_219 xn_197 (pc' := 220) (ls' := [(8, .int (iI (pr (hg - 1)))), (7, .int (iI (pr (hg - 2)))), (3, .int (iI (hg - 1))), (6, .int (iI (sN ((30 * (30 * b + w)) + k)))), (5, .int (iI s)), (4, .int (iI k)), (2, .int (iI n)), (1, .int (iI (30 * b + w))), (0, .ref 530)]) (st' := [.int (iI (-1)), .int (iI (pr (hg - 1))), .int (iI (hg - 2)), .ref 577]) rfl ?_
                          refine T_zicmp_ne xr_197_220 (t := 227) (pc' := 223) rfl rfl (fun c2452 => ?_) (fun c2452 => ?_)
                          · skip
                            have c2452 : ¬ (pr (hg - 1)) = (-1) := c2452
                            refine T_p xr_197_227 xn_197 (pc' := 229) (ls' := [(8, .int (iI (pr (hg - 1)))), (7, .int (iI (pr (hg - 2)))), (3, .int (iI (hg - 1))), (6, .int (iI (sN ((30 * (30 * b + w)) + k)))), (5, .int (iI s)), (4, .int (iI k)), (2, .int (iI n)), (1, .int (iI (30 * b + w))), (0, .ref 530)]) (st' := [.int (iI (pr (hg - 2))), .int (iI (hg - 2)), .ref 577]) rfl ?_
                            refine T_p xr_197_229 xn_197 (pc' := 231) (ls' := [(8, .int (iI (pr (hg - 1)))), (7, .int (iI (pr (hg - 2)))), (3, .int (iI (hg - 1))), (6, .int (iI (sN ((30 * (30 * b + w)) + k)))), (5, .int (iI s)), (4, .int (iI k)), (2, .int (iI n)), (1, .int (iI (30 * b + w))), (0, .ref 530)]) (st' := [.int (iI (pr (hg - 1))), .int (iI (pr (hg - 2))), .int (iI (hg - 2)), .ref 577]) rfl ?_
                            refine T_p xr_197_231 xn_197 (pc' := 232) (ls' := [(8, .int (iI (pr (hg - 1)))), (7, .int (iI (pr (hg - 2)))), (3, .int (iI (hg - 1))), (6, .int (iI (sN ((30 * (30 * b + w)) + k)))), (5, .int (iI s)), (4, .int (iI k)), (2, .int (iI n)), (1, .int (iI (30 * b + w))), (0, .ref 530)]) (st' := .int (iI (pr (hg - 2)) - iI (pr (hg - 2)) / iI (pr (hg - 1)) * iI (pr (hg - 1))) :: [.int (iI (hg - 2)), .ref 577]) (by simp only [X_pstep, X_i2]; rw [if_neg (by exact fun z => absurd ((iI_eq (b := 0) (by omega) (by omega) (by omega) (by omega)).mp z) (by omega))]) ?_
                            refine T_ie (y := iI ((iI (pr (hg - 2)) - iI (pr (hg - 2)) / iI (pr (hg - 1)) * iI (pr (hg - 1))).toInt)) (iI_of _) ?_
                            refine T_p xr_197_232 xn_197 (pc' := 247) (ls' := [(8, .int (iI (pr (hg - 1)))), (7, .int (iI (pr (hg - 2)))), (3, .int (iI (hg - 1))), (6, .int (iI (sN ((30 * (30 * b + w)) + k)))), (5, .int (iI s)), (4, .int (iI k)), (2, .int (iI n)), (1, .int (iI (30 * b + w))), (0, .ref 530)]) (st' := [.int (iI ((iI (pr (hg - 2)) - iI (pr (hg - 2)) / iI (pr (hg - 1)) * iI (pr (hg - 1))).toInt)), .int (iI (hg - 2)), .ref 577]) rfl ?_
                            refine T_ie (y := iI (X_out2 (gD G w 12 k) (pr (hg - 2)) (pr (hg - 1)))) (X_out2_f hop (Or.inr (Or.inr (Or.inr (Or.inr (Or.inl ⟨by omega, (iI_of _).symm⟩)))))) ?_
                            exact J2441
                          · skip
                            have c2452 : ¬ (¬ (pr (hg - 1)) = (-1)) := c2452
                            refine T_p xr_197_223 xn_197 (pc' := 224) (ls' := [(8, .int (iI (pr (hg - 1)))), (7, .int (iI (pr (hg - 2)))), (3, .int (iI (hg - 1))), (6, .int (iI (sN ((30 * (30 * b + w)) + k)))), (5, .int (iI s)), (4, .int (iI k)), (2, .int (iI n)), (1, .int (iI (30 * b + w))), (0, .ref 530)]) (st' := [.int (iI 0), .int (iI (hg - 2)), .ref 577]) rfl ?_
                            refine T_p xr_197_224 xn_197 (pc' := 247) (ls' := [(8, .int (iI (pr (hg - 1)))), (7, .int (iI (pr (hg - 2)))), (3, .int (iI (hg - 1))), (6, .int (iI (sN ((30 * (30 * b + w)) + k)))), (5, .int (iI s)), (4, .int (iI k)), (2, .int (iI n)), (1, .int (iI (30 * b + w))), (0, .ref 530)]) (st' := [.int (iI 0), .int (iI (hg - 2)), .ref 577]) rfl ?_
                            refine T_ie (y := iI (X_out2 (gD G w 12 k) (pr (hg - 2)) (pr (hg - 1)))) (X_out2_f hop (Or.inr (Or.inr (Or.inr (Or.inr (Or.inl ⟨by omega, (by rw [show pr (hg - 1) = -1 by omega]; exact iI_nmod)⟩)))))) ?_
                            exact J2441
                      · skip
                        have c2449 : ¬ (¬ s = 47) := c2449
                        refine T_p xr_197_190 xn_197 (pc' := 192) (ls' := [(8, .int (iI (pr (hg - 1)))), (7, .int (iI (pr (hg - 2)))), (3, .int (iI (hg - 1))), (6, .int (iI (sN ((30 * (30 * b + w)) + k)))), (5, .int (iI s)), (4, .int (iI k)), (2, .int (iI n)), (1, .int (iI (30 * b + w))), (0, .ref 530)]) (st' := [.int (iI (pr (hg - 1))), .int (iI (hg - 2)), .ref 577]) rfl ?_
                        refine T_p xr_197_192 xn_197 (pc' := 193) (ls' := [(8, .int (iI (pr (hg - 1)))), (7, .int (iI (pr (hg - 2)))), (3, .int (iI (hg - 1))), (6, .int (iI (sN ((30 * (30 * b + w)) + k)))), (5, .int (iI s)), (4, .int (iI k)), (2, .int (iI n)), (1, .int (iI (30 * b + w))), (0, .ref 530)]) (st' := [.int (iI (-1)), .int (iI (pr (hg - 1))), .int (iI (hg - 2)), .ref 577]) rfl ?_
                        refine T_zicmp_ne xr_197_193 (t := 202) (pc' := 196) rfl rfl (fun c2453 => ?_) (fun c2453 => ?_)
                        · skip
                          have c2453 : ¬ (pr (hg - 1)) = (-1) := c2453
                          refine T_p xr_197_202 xn_197 (pc' := 204) (ls' := [(8, .int (iI (pr (hg - 1)))), (7, .int (iI (pr (hg - 2)))), (3, .int (iI (hg - 1))), (6, .int (iI (sN ((30 * (30 * b + w)) + k)))), (5, .int (iI s)), (4, .int (iI k)), (2, .int (iI n)), (1, .int (iI (30 * b + w))), (0, .ref 530)]) (st' := [.int (iI (pr (hg - 2))), .int (iI (hg - 2)), .ref 577]) rfl ?_
                          refine T_p xr_197_204 xn_197 (pc' := 206) (ls' := [(8, .int (iI (pr (hg - 1)))), (7, .int (iI (pr (hg - 2)))), (3, .int (iI (hg - 1))), (6, .int (iI (sN ((30 * (30 * b + w)) + k)))), (5, .int (iI s)), (4, .int (iI k)), (2, .int (iI n)), (1, .int (iI (30 * b + w))), (0, .ref 530)]) (st' := [.int (iI (pr (hg - 1))), .int (iI (pr (hg - 2))), .int (iI (hg - 2)), .ref 577]) rfl ?_
                          refine T_p xr_197_206 xn_197 (pc' := 207) (ls' := [(8, .int (iI (pr (hg - 1)))), (7, .int (iI (pr (hg - 2)))), (3, .int (iI (hg - 1))), (6, .int (iI (sN ((30 * (30 * b + w)) + k)))), (5, .int (iI s)), (4, .int (iI k)), (2, .int (iI n)), (1, .int (iI (30 * b + w))), (0, .ref 530)]) (st' := .int (iI (pr (hg - 2)) / iI (pr (hg - 1))) :: [.int (iI (hg - 2)), .ref 577]) (by simp only [X_pstep, X_i2]; rw [if_neg (by exact fun z => absurd ((iI_eq (b := 0) (by omega) (by omega) (by omega) (by omega)).mp z) (by omega))]) ?_
                          refine T_ie (y := iI ((iI (pr (hg - 2)) / iI (pr (hg - 1))).toInt)) (iI_of _) ?_
                          refine T_p xr_197_207 xn_197 (pc' := 247) (ls' := [(8, .int (iI (pr (hg - 1)))), (7, .int (iI (pr (hg - 2)))), (3, .int (iI (hg - 1))), (6, .int (iI (sN ((30 * (30 * b + w)) + k)))), (5, .int (iI s)), (4, .int (iI k)), (2, .int (iI n)), (1, .int (iI (30 * b + w))), (0, .ref 530)]) (st' := [.int (iI ((iI (pr (hg - 2)) / iI (pr (hg - 1))).toInt)), .int (iI (hg - 2)), .ref 577]) rfl ?_
                          refine T_ie (y := iI (X_out2 (gD G w 12 k) (pr (hg - 2)) (pr (hg - 1)))) (X_out2_f hop (Or.inr (Or.inr (Or.inr (Or.inl ⟨by omega, (iI_of _).symm⟩))))) ?_
                          exact J2441
                        · skip
                          have c2453 : ¬ (¬ (pr (hg - 1)) = (-1)) := c2453
                          refine T_p xr_197_196 xn_197 (pc' := 198) (ls' := [(8, .int (iI (pr (hg - 1)))), (7, .int (iI (pr (hg - 2)))), (3, .int (iI (hg - 1))), (6, .int (iI (sN ((30 * (30 * b + w)) + k)))), (5, .int (iI s)), (4, .int (iI k)), (2, .int (iI n)), (1, .int (iI (30 * b + w))), (0, .ref 530)]) (st' := [.int (iI (pr (hg - 2))), .int (iI (hg - 2)), .ref 577]) rfl ?_
                          refine T_zineg xr_197_198 (z := -(pr (hg - 2))) rfl (pc' := 199) rfl ?_
                          refine T_p xr_197_199 xn_197 (pc' := 247) (ls' := [(8, .int (iI (pr (hg - 1)))), (7, .int (iI (pr (hg - 2)))), (3, .int (iI (hg - 1))), (6, .int (iI (sN ((30 * (30 * b + w)) + k)))), (5, .int (iI s)), (4, .int (iI k)), (2, .int (iI n)), (1, .int (iI (30 * b + w))), (0, .ref 530)]) (st' := [.int (iI (-(pr (hg - 2)))), .int (iI (hg - 2)), .ref 577]) rfl ?_
                          refine T_ie (y := iI (X_out2 (gD G w 12 k) (pr (hg - 2)) (pr (hg - 1)))) (X_out2_f hop (Or.inr (Or.inr (Or.inr (Or.inl ⟨by omega, (by rw [show pr (hg - 1) = -1 by omega]; exact iI_ndiv.symm)⟩))))) ?_
                          exact J2441
                    · skip
                      have c2448 : ¬ (¬ s = 42) := c2448
                      refine T_p xr_197_175 xn_197 (pc' := 177) (ls' := [(8, .int (iI (pr (hg - 1)))), (7, .int (iI (pr (hg - 2)))), (3, .int (iI (hg - 1))), (6, .int (iI (sN ((30 * (30 * b + w)) + k)))), (5, .int (iI s)), (4, .int (iI k)), (2, .int (iI n)), (1, .int (iI (30 * b + w))), (0, .ref 530)]) (st' := [.int (iI (pr (hg - 2))), .int (iI (hg - 2)), .ref 577]) rfl ?_
                      refine T_p xr_197_177 xn_197 (pc' := 179) (ls' := [(8, .int (iI (pr (hg - 1)))), (7, .int (iI (pr (hg - 2)))), (3, .int (iI (hg - 1))), (6, .int (iI (sN ((30 * (30 * b + w)) + k)))), (5, .int (iI s)), (4, .int (iI k)), (2, .int (iI n)), (1, .int (iI (30 * b + w))), (0, .ref 530)]) (st' := [.int (iI (pr (hg - 1))), .int (iI (pr (hg - 2))), .int (iI (hg - 2)), .ref 577]) rfl ?_
                      refine T_zimul xr_197_179 (z := (pr (hg - 2)) * (pr (hg - 1))) rfl (pc' := 180) rfl ?_
                      refine T_p xr_197_180 xn_197 (pc' := 247) (ls' := [(8, .int (iI (pr (hg - 1)))), (7, .int (iI (pr (hg - 2)))), (3, .int (iI (hg - 1))), (6, .int (iI (sN ((30 * (30 * b + w)) + k)))), (5, .int (iI s)), (4, .int (iI k)), (2, .int (iI n)), (1, .int (iI (30 * b + w))), (0, .ref 530)]) (st' := [.int (iI ((pr (hg - 2)) * (pr (hg - 1)))), .int (iI (hg - 2)), .ref 577]) rfl ?_
                      refine T_ie (y := iI (X_out2 (gD G w 12 k) (pr (hg - 2)) (pr (hg - 1)))) (X_out2_f hop (Or.inr (Or.inr (Or.inl ⟨by omega, (Int32.ofInt_mul _ _)⟩)))) ?_
                      exact J2441
                  · skip
                    have c2447 : ¬ (¬ s = 45) := c2447
                    refine T_p xr_197_160 xn_197 (pc' := 162) (ls' := [(8, .int (iI (pr (hg - 1)))), (7, .int (iI (pr (hg - 2)))), (3, .int (iI (hg - 1))), (6, .int (iI (sN ((30 * (30 * b + w)) + k)))), (5, .int (iI s)), (4, .int (iI k)), (2, .int (iI n)), (1, .int (iI (30 * b + w))), (0, .ref 530)]) (st' := [.int (iI (pr (hg - 2))), .int (iI (hg - 2)), .ref 577]) rfl ?_
                    refine T_p xr_197_162 xn_197 (pc' := 164) (ls' := [(8, .int (iI (pr (hg - 1)))), (7, .int (iI (pr (hg - 2)))), (3, .int (iI (hg - 1))), (6, .int (iI (sN ((30 * (30 * b + w)) + k)))), (5, .int (iI s)), (4, .int (iI k)), (2, .int (iI n)), (1, .int (iI (30 * b + w))), (0, .ref 530)]) (st' := [.int (iI (pr (hg - 1))), .int (iI (pr (hg - 2))), .int (iI (hg - 2)), .ref 577]) rfl ?_
                    refine T_zisub xr_197_164 (z := (pr (hg - 2)) - (pr (hg - 1))) rfl (pc' := 165) rfl ?_
                    refine T_p xr_197_165 xn_197 (pc' := 247) (ls' := [(8, .int (iI (pr (hg - 1)))), (7, .int (iI (pr (hg - 2)))), (3, .int (iI (hg - 1))), (6, .int (iI (sN ((30 * (30 * b + w)) + k)))), (5, .int (iI s)), (4, .int (iI k)), (2, .int (iI n)), (1, .int (iI (30 * b + w))), (0, .ref 530)]) (st' := [.int (iI ((pr (hg - 2)) - (pr (hg - 1)))), .int (iI (hg - 2)), .ref 577]) rfl ?_
                    refine T_ie (y := iI (X_out2 (gD G w 12 k) (pr (hg - 2)) (pr (hg - 1)))) (X_out2_f hop (Or.inr (Or.inl ⟨by omega, (Int32.ofInt_sub _ _)⟩))) ?_
                    exact J2441
                · skip
                  have c2446 : ¬ (¬ s = 43) := c2446
                  refine T_p xr_197_145 xn_197 (pc' := 147) (ls' := [(8, .int (iI (pr (hg - 1)))), (7, .int (iI (pr (hg - 2)))), (3, .int (iI (hg - 1))), (6, .int (iI (sN ((30 * (30 * b + w)) + k)))), (5, .int (iI s)), (4, .int (iI k)), (2, .int (iI n)), (1, .int (iI (30 * b + w))), (0, .ref 530)]) (st' := [.int (iI (pr (hg - 2))), .int (iI (hg - 2)), .ref 577]) rfl ?_
                  refine T_p xr_197_147 xn_197 (pc' := 149) (ls' := [(8, .int (iI (pr (hg - 1)))), (7, .int (iI (pr (hg - 2)))), (3, .int (iI (hg - 1))), (6, .int (iI (sN ((30 * (30 * b + w)) + k)))), (5, .int (iI s)), (4, .int (iI k)), (2, .int (iI n)), (1, .int (iI (30 * b + w))), (0, .ref 530)]) (st' := [.int (iI (pr (hg - 1))), .int (iI (pr (hg - 2))), .int (iI (hg - 2)), .ref 577]) rfl ?_
                  refine T_ziadd xr_197_149 (z := (pr (hg - 2)) + (pr (hg - 1))) rfl (pc' := 150) rfl ?_
                  refine T_p xr_197_150 xn_197 (pc' := 247) (ls' := [(8, .int (iI (pr (hg - 1)))), (7, .int (iI (pr (hg - 2)))), (3, .int (iI (hg - 1))), (6, .int (iI (sN ((30 * (30 * b + w)) + k)))), (5, .int (iI s)), (4, .int (iI k)), (2, .int (iI n)), (1, .int (iI (30 * b + w))), (0, .ref 530)]) (st' := [.int (iI ((pr (hg - 2)) + (pr (hg - 1)))), .int (iI (hg - 2)), .ref 577]) rfl ?_
                  refine T_ie (y := iI (X_out2 (gD G w 12 k) (pr (hg - 2)) (pr (hg - 1)))) (X_out2_f hop (Or.inl ⟨by omega, (Int32.ofInt_add _ _)⟩)) ?_
                  exact J2441
              · skip
                have c2440 : ¬ (¬ (pr (hg - 1)) = 0) := c2440
                refine T_p xr_197_129 xn_197 (pc' := 130) (ls' := [(8, .int (iI (pr (hg - 1)))), (7, .int (iI (pr (hg - 2)))), (3, .int (iI (hg - 1))), (6, .int (iI (sN ((30 * (30 * b + w)) + k)))), (5, .int (iI s)), (4, .int (iI k)), (2, .int (iI n)), (1, .int (iI (30 * b + w))), (0, .ref 530)]) (st' := [.int (iI 1)]) rfl ?_
                refine T_iret xr_197_130 xf_197.2.2 rfl ?_
                refine hQ _ _ ?_
                rw [if_pos ⟨by omega, show pr (hg - 1) = 0 by omega⟩] at hgo
                have hz := X_wS_none (d := gD G w) (ch := ch) (k := k + 1) (by omega) hgo ((gD G w 5 0).toNat - (k + 1).toNat)
                rw [show (k + 1).toNat + ((gD G w 5 0).toNat - (k + 1).toNat) = (gD G w 5 0).toNat by omega] at hz
                exact Or.inl ⟨pl1, rfl, hz, hpl1, (X_Fr.rf).tr (X_Fr.mono ⟨hF2414.1, hF2414.2⟩ (fun q hq => by first | exact hq | (rcases hq with rfl <;> decide) | (rcases hq with rfl | rfl <;> decide) | (rcases hq with rfl | rfl | rfl <;> decide) | (rcases hq with rfl | rfl | rfl | rfl <;> decide) | (rcases hq with rfl | rfl | rfl | rfl | rfl <;> decide) | (rcases hq with rfl | rfl | rfl | rfl | rfl | rfl <;> decide) | (rcases hq with rfl | rfl | rfl | rfl | rfl | rfl | rfl <;> decide) | omega))⟩
            · skip
              have c2439 : ¬ (s = 47) := c2439
              refine T_p xr_197_117 xn_197 (pc' := 119) (ls' := [(8, .int (iI (pr (hg - 1)))), (7, .int (iI (pr (hg - 2)))), (3, .int (iI (hg - 1))), (6, .int (iI (sN ((30 * (30 * b + w)) + k)))), (5, .int (iI s)), (4, .int (iI k)), (2, .int (iI n)), (1, .int (iI (30 * b + w))), (0, .ref 530)]) (st' := [.int (iI s)]) rfl ?_
              refine T_p xr_197_119 xn_197 (pc' := 121) (ls' := [(8, .int (iI (pr (hg - 1)))), (7, .int (iI (pr (hg - 2)))), (3, .int (iI (hg - 1))), (6, .int (iI (sN ((30 * (30 * b + w)) + k)))), (5, .int (iI s)), (4, .int (iI k)), (2, .int (iI n)), (1, .int (iI (30 * b + w))), (0, .ref 530)]) (st' := [.int (iI 37), .int (iI s)]) rfl ?_
              refine T_zicmp_ne xr_197_121 (t := 131) (pc' := 124) rfl rfl (fun c2454 => ?_) (fun c2454 => ?_)
              · skip
                have c2454 : ¬ s = 37 := c2454
                refine T_p xr_197_131 xn_197 (pc' := 132) (ls' := [(8, .int (iI (pr (hg - 1)))), (7, .int (iI (pr (hg - 2)))), (3, .int (iI (hg - 1))), (6, .int (iI (sN ((30 * (30 * b + w)) + k)))), (5, .int (iI s)), (4, .int (iI k)), (2, .int (iI n)), (1, .int (iI (30 * b + w))), (0, .ref 530)]) (st' := [.ref 530]) rfl ?_
                refine T_get xr_197_132 h2416 rfl (v := .ref 577) rfl (pc' := 135) rfl ?_
                refine T_p xr_197_135 xn_197 (pc' := 136) (ls' := [(8, .int (iI (pr (hg - 1)))), (7, .int (iI (pr (hg - 2)))), (3, .int (iI (hg - 1))), (6, .int (iI (sN ((30 * (30 * b + w)) + k)))), (5, .int (iI s)), (4, .int (iI k)), (2, .int (iI n)), (1, .int (iI (30 * b + w))), (0, .ref 530)]) (st' := [.int (iI (hg - 1)), .ref 577]) rfl ?_
                refine T_p xr_197_136 xn_197 (pc' := 137) (ls' := [(8, .int (iI (pr (hg - 1)))), (7, .int (iI (pr (hg - 2)))), (3, .int (iI (hg - 1))), (6, .int (iI (sN ((30 * (30 * b + w)) + k)))), (5, .int (iI s)), (4, .int (iI k)), (2, .int (iI n)), (1, .int (iI (30 * b + w))), (0, .ref 530)]) (st' := [.int (iI 1), .int (iI (hg - 1)), .ref 577]) rfl ?_
                refine T_zisub xr_197_137 (z := hg - 2) (by omega) (pc' := 138) rfl ?_
                have J2455 : X_T sc 197 (247, [(8, .int (iI (pr (hg - 1)))), (7, .int (iI (pr (hg - 2)))), (3, .int (iI (hg - 1))), (6, .int (iI (sN ((30 * (30 * b + w)) + k)))), (5, .int (iI s)), (4, .int (iI k)), (2, .int (iI n)), (1, .int (iI (30 * b + w))), (0, .ref 530)], [.int (iI (X_out2 (gD G w 12 k) (pr (hg - 2)) (pr (hg - 1)))), .int (iI (hg - 2)), .ref 577], S2415) Q := by
                  refine T_ziast xr_197_247 hpl1 (pc' := 248) rfl (fun S2456 h2457 n2458 e2459 => ?_)
                  refine T_ziinc xr_197_248 xn_197 (a := k) (z := k + 1) rfl (Nat.le_of_ble_eq_true rfl) (by omega) (ls' := [(4, .int (iI (k + 1))), (8, .int (iI (pr (hg - 1)))), (7, .int (iI (pr (hg - 2)))), (3, .int (iI (hg - 1))), (6, .int (iI (sN ((30 * (30 * b + w)) + k)))), (5, .int (iI s)), (2, .int (iI n)), (1, .int (iI (30 * b + w))), (0, .ref 530)]) rfl (pc' := 251) rfl ?_
                  refine T_p xr_197_251 xn_197 (pc' := 5) (ls' := [(4, .int (iI (k + 1))), (8, .int (iI (pr (hg - 1)))), (7, .int (iI (pr (hg - 2)))), (3, .int (iI (hg - 1))), (6, .int (iI (sN ((30 * (30 * b + w)) + k)))), (5, .int (iI s)), (2, .int (iI n)), (1, .int (iI (30 * b + w))), (0, .ref 530)]) (st' := []) rfl ?_
                  refine T_sub (ls := [(4, .int (iI (k + 1))), (3, .int (iI (hg - 1))), (2, .int (iI n)), (1, .int (iI (30 * b + w))), (0, .ref 530)]) ⟨rfl, rfl, rfl, rfl, rfl, trivial⟩ rfl rfl ?_
                  exact ih2411 S2456 (k + 1) (hg - 1) (X_ug pl1 (hg - 2) (X_out2 (gD G w 12 k) (pr (hg - 2)) (pr (hg - 1)))) (X_ug pr (hg - 2) (X_out2 (gD G w 12 k) (pr (hg - 2)) (pr (hg - 1)))) h2457 (hF2414.tr ((X_Fr.rf).tr (X_Fr.of n2458 e2459 (by first | decide | exact ⟨Nat.le_add_right _ _, Nat.add_le_add_left (by decide) _⟩ | omega)))) (by omega) (by rw [hgo, if_neg (fun z => by have z1 := z.1; have z2 : pr (hg - 1) = 0 := z.2; omega)]) (fun q h1 h2 => by
                        by_cases hq : q = hg - 2
                        · rw [hq, X_ug_s, X_ug_s]
                        · rw [X_ug_n _ _ hq, X_ug_n _ _ hq]; exact hpr q h1 (by omega)) (by omega) (by omega)
                refine T_p xr_197_138 xn_197 (pc' := 140) (ls' := [(8, .int (iI (pr (hg - 1)))), (7, .int (iI (pr (hg - 2)))), (3, .int (iI (hg - 1))), (6, .int (iI (sN ((30 * (30 * b + w)) + k)))), (5, .int (iI s)), (4, .int (iI k)), (2, .int (iI n)), (1, .int (iI (30 * b + w))), (0, .ref 530)]) (st' := [.int (iI s), .int (iI (hg - 2)), .ref 577]) rfl ?_
                refine T_p xr_197_140 xn_197 (pc' := 142) (ls' := [(8, .int (iI (pr (hg - 1)))), (7, .int (iI (pr (hg - 2)))), (3, .int (iI (hg - 1))), (6, .int (iI (sN ((30 * (30 * b + w)) + k)))), (5, .int (iI s)), (4, .int (iI k)), (2, .int (iI n)), (1, .int (iI (30 * b + w))), (0, .ref 530)]) (st' := [.int (iI 43), .int (iI s), .int (iI (hg - 2)), .ref 577]) rfl ?_
                refine T_zicmp_ne xr_197_142 (t := 153) (pc' := 145) rfl rfl (fun c2460 => ?_) (fun c2460 => ?_)
                · skip
                  have c2460 : ¬ s = 43 := c2460
                  refine T_p xr_197_153 xn_197 (pc' := 155) (ls' := [(8, .int (iI (pr (hg - 1)))), (7, .int (iI (pr (hg - 2)))), (3, .int (iI (hg - 1))), (6, .int (iI (sN ((30 * (30 * b + w)) + k)))), (5, .int (iI s)), (4, .int (iI k)), (2, .int (iI n)), (1, .int (iI (30 * b + w))), (0, .ref 530)]) (st' := [.int (iI s), .int (iI (hg - 2)), .ref 577]) rfl ?_
                  refine T_p xr_197_155 xn_197 (pc' := 157) (ls' := [(8, .int (iI (pr (hg - 1)))), (7, .int (iI (pr (hg - 2)))), (3, .int (iI (hg - 1))), (6, .int (iI (sN ((30 * (30 * b + w)) + k)))), (5, .int (iI s)), (4, .int (iI k)), (2, .int (iI n)), (1, .int (iI (30 * b + w))), (0, .ref 530)]) (st' := [.int (iI 45), .int (iI s), .int (iI (hg - 2)), .ref 577]) rfl ?_
                  refine T_zicmp_ne xr_197_157 (t := 168) (pc' := 160) rfl rfl (fun c2461 => ?_) (fun c2461 => ?_)
                  · skip
                    have c2461 : ¬ s = 45 := c2461
                    refine T_p xr_197_168 xn_197 (pc' := 170) (ls' := [(8, .int (iI (pr (hg - 1)))), (7, .int (iI (pr (hg - 2)))), (3, .int (iI (hg - 1))), (6, .int (iI (sN ((30 * (30 * b + w)) + k)))), (5, .int (iI s)), (4, .int (iI k)), (2, .int (iI n)), (1, .int (iI (30 * b + w))), (0, .ref 530)]) (st' := [.int (iI s), .int (iI (hg - 2)), .ref 577]) rfl ?_
                    refine T_p xr_197_170 xn_197 (pc' := 172) (ls' := [(8, .int (iI (pr (hg - 1)))), (7, .int (iI (pr (hg - 2)))), (3, .int (iI (hg - 1))), (6, .int (iI (sN ((30 * (30 * b + w)) + k)))), (5, .int (iI s)), (4, .int (iI k)), (2, .int (iI n)), (1, .int (iI (30 * b + w))), (0, .ref 530)]) (st' := [.int (iI 42), .int (iI s), .int (iI (hg - 2)), .ref 577]) rfl ?_
                    refine T_zicmp_ne xr_197_172 (t := 183) (pc' := 175) rfl rfl (fun c2462 => ?_) (fun c2462 => ?_)
                    · skip
                      have c2462 : ¬ s = 42 := c2462
                      refine T_p xr_197_183 xn_197 (pc' := 185) (ls' := [(8, .int (iI (pr (hg - 1)))), (7, .int (iI (pr (hg - 2)))), (3, .int (iI (hg - 1))), (6, .int (iI (sN ((30 * (30 * b + w)) + k)))), (5, .int (iI s)), (4, .int (iI k)), (2, .int (iI n)), (1, .int (iI (30 * b + w))), (0, .ref 530)]) (st' := [.int (iI s), .int (iI (hg - 2)), .ref 577]) rfl ?_
                      refine T_p xr_197_185 xn_197 (pc' := 187) (ls' := [(8, .int (iI (pr (hg - 1)))), (7, .int (iI (pr (hg - 2)))), (3, .int (iI (hg - 1))), (6, .int (iI (sN ((30 * (30 * b + w)) + k)))), (5, .int (iI s)), (4, .int (iI k)), (2, .int (iI n)), (1, .int (iI (30 * b + w))), (0, .ref 530)]) (st' := [.int (iI 47), .int (iI s), .int (iI (hg - 2)), .ref 577]) rfl ?_
                      refine T_zicmp_ne xr_197_187 (t := 210) (pc' := 190) rfl rfl (fun c2463 => ?_) (fun c2463 => ?_)
                      · skip
                        have c2463 : ¬ s = 47 := c2463
                        refine T_p xr_197_210 xn_197 (pc' := 212) (ls' := [(8, .int (iI (pr (hg - 1)))), (7, .int (iI (pr (hg - 2)))), (3, .int (iI (hg - 1))), (6, .int (iI (sN ((30 * (30 * b + w)) + k)))), (5, .int (iI s)), (4, .int (iI k)), (2, .int (iI n)), (1, .int (iI (30 * b + w))), (0, .ref 530)]) (st' := [.int (iI s), .int (iI (hg - 2)), .ref 577]) rfl ?_
                        refine T_p xr_197_212 xn_197 (pc' := 214) (ls' := [(8, .int (iI (pr (hg - 1)))), (7, .int (iI (pr (hg - 2)))), (3, .int (iI (hg - 1))), (6, .int (iI (sN ((30 * (30 * b + w)) + k)))), (5, .int (iI s)), (4, .int (iI k)), (2, .int (iI n)), (1, .int (iI (30 * b + w))), (0, .ref 530)]) (st' := [.int (iI 37), .int (iI s), .int (iI (hg - 2)), .ref 577]) rfl ?_
                        refine T_zicmp_ne xr_197_214 (t := 235) (pc' := 217) rfl rfl (fun c2464 => ?_) (fun c2464 => ?_)
                        · skip
                          have c2464 : ¬ s = 37 := c2464
                          refine T_p xr_197_235 xn_197 (pc' := 237) (ls' := [(8, .int (iI (pr (hg - 1)))), (7, .int (iI (pr (hg - 2)))), (3, .int (iI (hg - 1))), (6, .int (iI (sN ((30 * (30 * b + w)) + k)))), (5, .int (iI s)), (4, .int (iI k)), (2, .int (iI n)), (1, .int (iI (30 * b + w))), (0, .ref 530)]) (st' := [.int (iI (pr (hg - 2))), .int (iI (hg - 2)), .ref 577]) rfl ?_
                          refine T_p xr_197_237 xn_197 (pc' := 239) (ls' := [(8, .int (iI (pr (hg - 1)))), (7, .int (iI (pr (hg - 2)))), (3, .int (iI (hg - 1))), (6, .int (iI (sN ((30 * (30 * b + w)) + k)))), (5, .int (iI s)), (4, .int (iI k)), (2, .int (iI n)), (1, .int (iI (30 * b + w))), (0, .ref 530)]) (st' := [.int (iI (pr (hg - 1))), .int (iI (pr (hg - 2))), .int (iI (hg - 2)), .ref 577]) rfl ?_
                          refine T_zicmp_ge xr_197_239 (t := 246) (pc' := 242) rfl rfl (fun c2465 => ?_) (fun c2465 => ?_)
                          · skip
                            have c2465 : (pr (hg - 1)) ≤ (pr (hg - 2)) := c2465
                            refine T_p xr_197_246 xn_197 (pc' := 247) (ls' := [(8, .int (iI (pr (hg - 1)))), (7, .int (iI (pr (hg - 2)))), (3, .int (iI (hg - 1))), (6, .int (iI (sN ((30 * (30 * b + w)) + k)))), (5, .int (iI s)), (4, .int (iI k)), (2, .int (iI n)), (1, .int (iI (30 * b + w))), (0, .ref 530)]) (st' := [.int (iI 0), .int (iI (hg - 2)), .ref 577]) rfl ?_
                            refine T_ie (y := iI (X_out2 (gD G w 12 k) (pr (hg - 2)) (pr (hg - 1)))) (X_out2_f hop (Or.inr (Or.inr (Or.inr (Or.inr (Or.inr (⟨by omega, (bI_f (by omega)).symm⟩))))))) ?_
                            exact J2455
                          · skip
                            have c2465 : ¬ ((pr (hg - 1)) ≤ (pr (hg - 2))) := c2465
                            refine T_p xr_197_242 xn_197 (pc' := 243) (ls' := [(8, .int (iI (pr (hg - 1)))), (7, .int (iI (pr (hg - 2)))), (3, .int (iI (hg - 1))), (6, .int (iI (sN ((30 * (30 * b + w)) + k)))), (5, .int (iI s)), (4, .int (iI k)), (2, .int (iI n)), (1, .int (iI (30 * b + w))), (0, .ref 530)]) (st' := [.int (iI 1), .int (iI (hg - 2)), .ref 577]) rfl ?_
                            refine T_p xr_197_243 xn_197 (pc' := 247) (ls' := [(8, .int (iI (pr (hg - 1)))), (7, .int (iI (pr (hg - 2)))), (3, .int (iI (hg - 1))), (6, .int (iI (sN ((30 * (30 * b + w)) + k)))), (5, .int (iI s)), (4, .int (iI k)), (2, .int (iI n)), (1, .int (iI (30 * b + w))), (0, .ref 530)]) (st' := [.int (iI 1), .int (iI (hg - 2)), .ref 577]) rfl ?_
                            refine T_ie (y := iI (X_out2 (gD G w 12 k) (pr (hg - 2)) (pr (hg - 1)))) (X_out2_f hop (Or.inr (Or.inr (Or.inr (Or.inr (Or.inr (⟨by omega, (bI_t (by omega)).symm⟩))))))) ?_
                            exact J2455
                        · skip
                          have c2464 : ¬ (¬ s = 37) := c2464
                          exact (show False by first | contradiction | omega).elim
                      · skip
                        have c2463 : ¬ (¬ s = 47) := c2463
                        refine T_p xr_197_190 xn_197 (pc' := 192) (ls' := [(8, .int (iI (pr (hg - 1)))), (7, .int (iI (pr (hg - 2)))), (3, .int (iI (hg - 1))), (6, .int (iI (sN ((30 * (30 * b + w)) + k)))), (5, .int (iI s)), (4, .int (iI k)), (2, .int (iI n)), (1, .int (iI (30 * b + w))), (0, .ref 530)]) (st' := [.int (iI (pr (hg - 1))), .int (iI (hg - 2)), .ref 577]) rfl ?_
                        refine T_p xr_197_192 xn_197 (pc' := 193) (ls' := [(8, .int (iI (pr (hg - 1)))), (7, .int (iI (pr (hg - 2)))), (3, .int (iI (hg - 1))), (6, .int (iI (sN ((30 * (30 * b + w)) + k)))), (5, .int (iI s)), (4, .int (iI k)), (2, .int (iI n)), (1, .int (iI (30 * b + w))), (0, .ref 530)]) (st' := [.int (iI (-1)), .int (iI (pr (hg - 1))), .int (iI (hg - 2)), .ref 577]) rfl ?_
                        refine T_zicmp_ne xr_197_193 (t := 202) (pc' := 196) rfl rfl (fun c2466 => ?_) (fun c2466 => ?_)
                        · skip
                          have c2466 : ¬ (pr (hg - 1)) = (-1) := c2466
                          refine T_p xr_197_202 xn_197 (pc' := 204) (ls' := [(8, .int (iI (pr (hg - 1)))), (7, .int (iI (pr (hg - 2)))), (3, .int (iI (hg - 1))), (6, .int (iI (sN ((30 * (30 * b + w)) + k)))), (5, .int (iI s)), (4, .int (iI k)), (2, .int (iI n)), (1, .int (iI (30 * b + w))), (0, .ref 530)]) (st' := [.int (iI (pr (hg - 2))), .int (iI (hg - 2)), .ref 577]) rfl ?_
                          refine T_p xr_197_204 xn_197 (pc' := 206) (ls' := [(8, .int (iI (pr (hg - 1)))), (7, .int (iI (pr (hg - 2)))), (3, .int (iI (hg - 1))), (6, .int (iI (sN ((30 * (30 * b + w)) + k)))), (5, .int (iI s)), (4, .int (iI k)), (2, .int (iI n)), (1, .int (iI (30 * b + w))), (0, .ref 530)]) (st' := [.int (iI (pr (hg - 1))), .int (iI (pr (hg - 2))), .int (iI (hg - 2)), .ref 577]) rfl ?_
                          refine T_p xr_197_206 xn_197 (pc' := 207) (ls' := [(8, .int (iI (pr (hg - 1)))), (7, .int (iI (pr (hg - 2)))), (3, .int (iI (hg - 1))), (6, .int (iI (sN ((30 * (30 * b + w)) + k)))), (5, .int (iI s)), (4, .int (iI k)), (2, .int (iI n)), (1, .int (iI (30 * b + w))), (0, .ref 530)]) (st' := .int (iI (pr (hg - 2)) / iI (pr (hg - 1))) :: [.int (iI (hg - 2)), .ref 577]) (by simp only [X_pstep, X_i2]; rw [if_neg (by exact fun z => absurd ((iI_eq (b := 0) (by omega) (by omega) (by omega) (by omega)).mp z) (by omega))]) ?_
                          refine T_ie (y := iI ((iI (pr (hg - 2)) / iI (pr (hg - 1))).toInt)) (iI_of _) ?_
                          refine T_p xr_197_207 xn_197 (pc' := 247) (ls' := [(8, .int (iI (pr (hg - 1)))), (7, .int (iI (pr (hg - 2)))), (3, .int (iI (hg - 1))), (6, .int (iI (sN ((30 * (30 * b + w)) + k)))), (5, .int (iI s)), (4, .int (iI k)), (2, .int (iI n)), (1, .int (iI (30 * b + w))), (0, .ref 530)]) (st' := [.int (iI ((iI (pr (hg - 2)) / iI (pr (hg - 1))).toInt)), .int (iI (hg - 2)), .ref 577]) rfl ?_
                          refine T_ie (y := iI (X_out2 (gD G w 12 k) (pr (hg - 2)) (pr (hg - 1)))) (X_out2_f hop (Or.inr (Or.inr (Or.inr (Or.inl ⟨by omega, (iI_of _).symm⟩))))) ?_
                          exact J2455
                        · skip
                          have c2466 : ¬ (¬ (pr (hg - 1)) = (-1)) := c2466
                          refine T_p xr_197_196 xn_197 (pc' := 198) (ls' := [(8, .int (iI (pr (hg - 1)))), (7, .int (iI (pr (hg - 2)))), (3, .int (iI (hg - 1))), (6, .int (iI (sN ((30 * (30 * b + w)) + k)))), (5, .int (iI s)), (4, .int (iI k)), (2, .int (iI n)), (1, .int (iI (30 * b + w))), (0, .ref 530)]) (st' := [.int (iI (pr (hg - 2))), .int (iI (hg - 2)), .ref 577]) rfl ?_
                          refine T_zineg xr_197_198 (z := -(pr (hg - 2))) rfl (pc' := 199) rfl ?_
                          refine T_p xr_197_199 xn_197 (pc' := 247) (ls' := [(8, .int (iI (pr (hg - 1)))), (7, .int (iI (pr (hg - 2)))), (3, .int (iI (hg - 1))), (6, .int (iI (sN ((30 * (30 * b + w)) + k)))), (5, .int (iI s)), (4, .int (iI k)), (2, .int (iI n)), (1, .int (iI (30 * b + w))), (0, .ref 530)]) (st' := [.int (iI (-(pr (hg - 2)))), .int (iI (hg - 2)), .ref 577]) rfl ?_
                          refine T_ie (y := iI (X_out2 (gD G w 12 k) (pr (hg - 2)) (pr (hg - 1)))) (X_out2_f hop (Or.inr (Or.inr (Or.inr (Or.inl ⟨by omega, (by rw [show pr (hg - 1) = -1 by omega]; exact iI_ndiv.symm)⟩))))) ?_
                          exact J2455
                    · skip
                      have c2462 : ¬ (¬ s = 42) := c2462
                      refine T_p xr_197_175 xn_197 (pc' := 177) (ls' := [(8, .int (iI (pr (hg - 1)))), (7, .int (iI (pr (hg - 2)))), (3, .int (iI (hg - 1))), (6, .int (iI (sN ((30 * (30 * b + w)) + k)))), (5, .int (iI s)), (4, .int (iI k)), (2, .int (iI n)), (1, .int (iI (30 * b + w))), (0, .ref 530)]) (st' := [.int (iI (pr (hg - 2))), .int (iI (hg - 2)), .ref 577]) rfl ?_
                      refine T_p xr_197_177 xn_197 (pc' := 179) (ls' := [(8, .int (iI (pr (hg - 1)))), (7, .int (iI (pr (hg - 2)))), (3, .int (iI (hg - 1))), (6, .int (iI (sN ((30 * (30 * b + w)) + k)))), (5, .int (iI s)), (4, .int (iI k)), (2, .int (iI n)), (1, .int (iI (30 * b + w))), (0, .ref 530)]) (st' := [.int (iI (pr (hg - 1))), .int (iI (pr (hg - 2))), .int (iI (hg - 2)), .ref 577]) rfl ?_
                      refine T_zimul xr_197_179 (z := (pr (hg - 2)) * (pr (hg - 1))) rfl (pc' := 180) rfl ?_
                      refine T_p xr_197_180 xn_197 (pc' := 247) (ls' := [(8, .int (iI (pr (hg - 1)))), (7, .int (iI (pr (hg - 2)))), (3, .int (iI (hg - 1))), (6, .int (iI (sN ((30 * (30 * b + w)) + k)))), (5, .int (iI s)), (4, .int (iI k)), (2, .int (iI n)), (1, .int (iI (30 * b + w))), (0, .ref 530)]) (st' := [.int (iI ((pr (hg - 2)) * (pr (hg - 1)))), .int (iI (hg - 2)), .ref 577]) rfl ?_
                      refine T_ie (y := iI (X_out2 (gD G w 12 k) (pr (hg - 2)) (pr (hg - 1)))) (X_out2_f hop (Or.inr (Or.inr (Or.inl ⟨by omega, (Int32.ofInt_mul _ _)⟩)))) ?_
                      exact J2455
                  · skip
                    have c2461 : ¬ (¬ s = 45) := c2461
                    refine T_p xr_197_160 xn_197 (pc' := 162) (ls' := [(8, .int (iI (pr (hg - 1)))), (7, .int (iI (pr (hg - 2)))), (3, .int (iI (hg - 1))), (6, .int (iI (sN ((30 * (30 * b + w)) + k)))), (5, .int (iI s)), (4, .int (iI k)), (2, .int (iI n)), (1, .int (iI (30 * b + w))), (0, .ref 530)]) (st' := [.int (iI (pr (hg - 2))), .int (iI (hg - 2)), .ref 577]) rfl ?_
                    refine T_p xr_197_162 xn_197 (pc' := 164) (ls' := [(8, .int (iI (pr (hg - 1)))), (7, .int (iI (pr (hg - 2)))), (3, .int (iI (hg - 1))), (6, .int (iI (sN ((30 * (30 * b + w)) + k)))), (5, .int (iI s)), (4, .int (iI k)), (2, .int (iI n)), (1, .int (iI (30 * b + w))), (0, .ref 530)]) (st' := [.int (iI (pr (hg - 1))), .int (iI (pr (hg - 2))), .int (iI (hg - 2)), .ref 577]) rfl ?_
                    refine T_zisub xr_197_164 (z := (pr (hg - 2)) - (pr (hg - 1))) rfl (pc' := 165) rfl ?_
                    refine T_p xr_197_165 xn_197 (pc' := 247) (ls' := [(8, .int (iI (pr (hg - 1)))), (7, .int (iI (pr (hg - 2)))), (3, .int (iI (hg - 1))), (6, .int (iI (sN ((30 * (30 * b + w)) + k)))), (5, .int (iI s)), (4, .int (iI k)), (2, .int (iI n)), (1, .int (iI (30 * b + w))), (0, .ref 530)]) (st' := [.int (iI ((pr (hg - 2)) - (pr (hg - 1)))), .int (iI (hg - 2)), .ref 577]) rfl ?_
                    refine T_ie (y := iI (X_out2 (gD G w 12 k) (pr (hg - 2)) (pr (hg - 1)))) (X_out2_f hop (Or.inr (Or.inl ⟨by omega, (Int32.ofInt_sub _ _)⟩))) ?_
                    exact J2455
                · skip
                  have c2460 : ¬ (¬ s = 43) := c2460
                  refine T_p xr_197_145 xn_197 (pc' := 147) (ls' := [(8, .int (iI (pr (hg - 1)))), (7, .int (iI (pr (hg - 2)))), (3, .int (iI (hg - 1))), (6, .int (iI (sN ((30 * (30 * b + w)) + k)))), (5, .int (iI s)), (4, .int (iI k)), (2, .int (iI n)), (1, .int (iI (30 * b + w))), (0, .ref 530)]) (st' := [.int (iI (pr (hg - 2))), .int (iI (hg - 2)), .ref 577]) rfl ?_
                  refine T_p xr_197_147 xn_197 (pc' := 149) (ls' := [(8, .int (iI (pr (hg - 1)))), (7, .int (iI (pr (hg - 2)))), (3, .int (iI (hg - 1))), (6, .int (iI (sN ((30 * (30 * b + w)) + k)))), (5, .int (iI s)), (4, .int (iI k)), (2, .int (iI n)), (1, .int (iI (30 * b + w))), (0, .ref 530)]) (st' := [.int (iI (pr (hg - 1))), .int (iI (pr (hg - 2))), .int (iI (hg - 2)), .ref 577]) rfl ?_
                  refine T_ziadd xr_197_149 (z := (pr (hg - 2)) + (pr (hg - 1))) rfl (pc' := 150) rfl ?_
                  refine T_p xr_197_150 xn_197 (pc' := 247) (ls' := [(8, .int (iI (pr (hg - 1)))), (7, .int (iI (pr (hg - 2)))), (3, .int (iI (hg - 1))), (6, .int (iI (sN ((30 * (30 * b + w)) + k)))), (5, .int (iI s)), (4, .int (iI k)), (2, .int (iI n)), (1, .int (iI (30 * b + w))), (0, .ref 530)]) (st' := [.int (iI ((pr (hg - 2)) + (pr (hg - 1)))), .int (iI (hg - 2)), .ref 577]) rfl ?_
                  refine T_ie (y := iI (X_out2 (gD G w 12 k) (pr (hg - 2)) (pr (hg - 1)))) (X_out2_f hop (Or.inl ⟨by omega, (Int32.ofInt_add _ _)⟩)) ?_
                  exact J2455
              · skip
                have c2454 : ¬ (¬ s = 37) := c2454
                refine T_p xr_197_124 xn_197 (pc' := 126) (ls' := [(8, .int (iI (pr (hg - 1)))), (7, .int (iI (pr (hg - 2)))), (3, .int (iI (hg - 1))), (6, .int (iI (sN ((30 * (30 * b + w)) + k)))), (5, .int (iI s)), (4, .int (iI k)), (2, .int (iI n)), (1, .int (iI (30 * b + w))), (0, .ref 530)]) (st' := [.int (iI (pr (hg - 1)))]) rfl ?_
                refine T_zif_ne xr_197_126 (t := 131) (pc' := 129) rfl rfl (fun c2467 => ?_) (fun c2467 => ?_)
                · skip
                  have c2467 : ¬ (pr (hg - 1)) = 0 := c2467
                  refine T_p xr_197_131 xn_197 (pc' := 132) (ls' := [(8, .int (iI (pr (hg - 1)))), (7, .int (iI (pr (hg - 2)))), (3, .int (iI (hg - 1))), (6, .int (iI (sN ((30 * (30 * b + w)) + k)))), (5, .int (iI s)), (4, .int (iI k)), (2, .int (iI n)), (1, .int (iI (30 * b + w))), (0, .ref 530)]) (st' := [.ref 530]) rfl ?_
                  refine T_get xr_197_132 h2416 rfl (v := .ref 577) rfl (pc' := 135) rfl ?_
                  refine T_p xr_197_135 xn_197 (pc' := 136) (ls' := [(8, .int (iI (pr (hg - 1)))), (7, .int (iI (pr (hg - 2)))), (3, .int (iI (hg - 1))), (6, .int (iI (sN ((30 * (30 * b + w)) + k)))), (5, .int (iI s)), (4, .int (iI k)), (2, .int (iI n)), (1, .int (iI (30 * b + w))), (0, .ref 530)]) (st' := [.int (iI (hg - 1)), .ref 577]) rfl ?_
                  refine T_p xr_197_136 xn_197 (pc' := 137) (ls' := [(8, .int (iI (pr (hg - 1)))), (7, .int (iI (pr (hg - 2)))), (3, .int (iI (hg - 1))), (6, .int (iI (sN ((30 * (30 * b + w)) + k)))), (5, .int (iI s)), (4, .int (iI k)), (2, .int (iI n)), (1, .int (iI (30 * b + w))), (0, .ref 530)]) (st' := [.int (iI 1), .int (iI (hg - 1)), .ref 577]) rfl ?_
                  refine T_zisub xr_197_137 (z := hg - 2) (by omega) (pc' := 138) rfl ?_
                  have J2468 : X_T sc 197 (247, [(8, .int (iI (pr (hg - 1)))), (7, .int (iI (pr (hg - 2)))), (3, .int (iI (hg - 1))), (6, .int (iI (sN ((30 * (30 * b + w)) + k)))), (5, .int (iI s)), (4, .int (iI k)), (2, .int (iI n)), (1, .int (iI (30 * b + w))), (0, .ref 530)], [.int (iI (X_out2 (gD G w 12 k) (pr (hg - 2)) (pr (hg - 1)))), .int (iI (hg - 2)), .ref 577], S2415) Q := by
                    refine T_ziast xr_197_247 hpl1 (pc' := 248) rfl (fun S2469 h2470 n2471 e2472 => ?_)
                    refine T_ziinc xr_197_248 xn_197 (a := k) (z := k + 1) rfl (Nat.le_of_ble_eq_true rfl) (by omega) (ls' := [(4, .int (iI (k + 1))), (8, .int (iI (pr (hg - 1)))), (7, .int (iI (pr (hg - 2)))), (3, .int (iI (hg - 1))), (6, .int (iI (sN ((30 * (30 * b + w)) + k)))), (5, .int (iI s)), (2, .int (iI n)), (1, .int (iI (30 * b + w))), (0, .ref 530)]) rfl (pc' := 251) rfl ?_
                    refine T_p xr_197_251 xn_197 (pc' := 5) (ls' := [(4, .int (iI (k + 1))), (8, .int (iI (pr (hg - 1)))), (7, .int (iI (pr (hg - 2)))), (3, .int (iI (hg - 1))), (6, .int (iI (sN ((30 * (30 * b + w)) + k)))), (5, .int (iI s)), (2, .int (iI n)), (1, .int (iI (30 * b + w))), (0, .ref 530)]) (st' := []) rfl ?_
                    refine T_sub (ls := [(4, .int (iI (k + 1))), (3, .int (iI (hg - 1))), (2, .int (iI n)), (1, .int (iI (30 * b + w))), (0, .ref 530)]) ⟨rfl, rfl, rfl, rfl, rfl, trivial⟩ rfl rfl ?_
                    exact ih2411 S2469 (k + 1) (hg - 1) (X_ug pl1 (hg - 2) (X_out2 (gD G w 12 k) (pr (hg - 2)) (pr (hg - 1)))) (X_ug pr (hg - 2) (X_out2 (gD G w 12 k) (pr (hg - 2)) (pr (hg - 1)))) h2470 (hF2414.tr ((X_Fr.rf).tr (X_Fr.of n2471 e2472 (by first | decide | exact ⟨Nat.le_add_right _ _, Nat.add_le_add_left (by decide) _⟩ | omega)))) (by omega) (by rw [hgo, if_neg (fun z => by have z1 := z.1; have z2 : pr (hg - 1) = 0 := z.2; omega)]) (fun q h1 h2 => by
                          by_cases hq : q = hg - 2
                          · rw [hq, X_ug_s, X_ug_s]
                          · rw [X_ug_n _ _ hq, X_ug_n _ _ hq]; exact hpr q h1 (by omega)) (by omega) (by omega)
                  refine T_p xr_197_138 xn_197 (pc' := 140) (ls' := [(8, .int (iI (pr (hg - 1)))), (7, .int (iI (pr (hg - 2)))), (3, .int (iI (hg - 1))), (6, .int (iI (sN ((30 * (30 * b + w)) + k)))), (5, .int (iI s)), (4, .int (iI k)), (2, .int (iI n)), (1, .int (iI (30 * b + w))), (0, .ref 530)]) (st' := [.int (iI s), .int (iI (hg - 2)), .ref 577]) rfl ?_
                  refine T_p xr_197_140 xn_197 (pc' := 142) (ls' := [(8, .int (iI (pr (hg - 1)))), (7, .int (iI (pr (hg - 2)))), (3, .int (iI (hg - 1))), (6, .int (iI (sN ((30 * (30 * b + w)) + k)))), (5, .int (iI s)), (4, .int (iI k)), (2, .int (iI n)), (1, .int (iI (30 * b + w))), (0, .ref 530)]) (st' := [.int (iI 43), .int (iI s), .int (iI (hg - 2)), .ref 577]) rfl ?_
                  refine T_zicmp_ne xr_197_142 (t := 153) (pc' := 145) rfl rfl (fun c2473 => ?_) (fun c2473 => ?_)
                  · skip
                    have c2473 : ¬ s = 43 := c2473
                    refine T_p xr_197_153 xn_197 (pc' := 155) (ls' := [(8, .int (iI (pr (hg - 1)))), (7, .int (iI (pr (hg - 2)))), (3, .int (iI (hg - 1))), (6, .int (iI (sN ((30 * (30 * b + w)) + k)))), (5, .int (iI s)), (4, .int (iI k)), (2, .int (iI n)), (1, .int (iI (30 * b + w))), (0, .ref 530)]) (st' := [.int (iI s), .int (iI (hg - 2)), .ref 577]) rfl ?_
                    refine T_p xr_197_155 xn_197 (pc' := 157) (ls' := [(8, .int (iI (pr (hg - 1)))), (7, .int (iI (pr (hg - 2)))), (3, .int (iI (hg - 1))), (6, .int (iI (sN ((30 * (30 * b + w)) + k)))), (5, .int (iI s)), (4, .int (iI k)), (2, .int (iI n)), (1, .int (iI (30 * b + w))), (0, .ref 530)]) (st' := [.int (iI 45), .int (iI s), .int (iI (hg - 2)), .ref 577]) rfl ?_
                    refine T_zicmp_ne xr_197_157 (t := 168) (pc' := 160) rfl rfl (fun c2474 => ?_) (fun c2474 => ?_)
                    · skip
                      have c2474 : ¬ s = 45 := c2474
                      refine T_p xr_197_168 xn_197 (pc' := 170) (ls' := [(8, .int (iI (pr (hg - 1)))), (7, .int (iI (pr (hg - 2)))), (3, .int (iI (hg - 1))), (6, .int (iI (sN ((30 * (30 * b + w)) + k)))), (5, .int (iI s)), (4, .int (iI k)), (2, .int (iI n)), (1, .int (iI (30 * b + w))), (0, .ref 530)]) (st' := [.int (iI s), .int (iI (hg - 2)), .ref 577]) rfl ?_
                      refine T_p xr_197_170 xn_197 (pc' := 172) (ls' := [(8, .int (iI (pr (hg - 1)))), (7, .int (iI (pr (hg - 2)))), (3, .int (iI (hg - 1))), (6, .int (iI (sN ((30 * (30 * b + w)) + k)))), (5, .int (iI s)), (4, .int (iI k)), (2, .int (iI n)), (1, .int (iI (30 * b + w))), (0, .ref 530)]) (st' := [.int (iI 42), .int (iI s), .int (iI (hg - 2)), .ref 577]) rfl ?_
                      refine T_zicmp_ne xr_197_172 (t := 183) (pc' := 175) rfl rfl (fun c2475 => ?_) (fun c2475 => ?_)
                      · skip
                        have c2475 : ¬ s = 42 := c2475
                        refine T_p xr_197_183 xn_197 (pc' := 185) (ls' := [(8, .int (iI (pr (hg - 1)))), (7, .int (iI (pr (hg - 2)))), (3, .int (iI (hg - 1))), (6, .int (iI (sN ((30 * (30 * b + w)) + k)))), (5, .int (iI s)), (4, .int (iI k)), (2, .int (iI n)), (1, .int (iI (30 * b + w))), (0, .ref 530)]) (st' := [.int (iI s), .int (iI (hg - 2)), .ref 577]) rfl ?_
                        refine T_p xr_197_185 xn_197 (pc' := 187) (ls' := [(8, .int (iI (pr (hg - 1)))), (7, .int (iI (pr (hg - 2)))), (3, .int (iI (hg - 1))), (6, .int (iI (sN ((30 * (30 * b + w)) + k)))), (5, .int (iI s)), (4, .int (iI k)), (2, .int (iI n)), (1, .int (iI (30 * b + w))), (0, .ref 530)]) (st' := [.int (iI 47), .int (iI s), .int (iI (hg - 2)), .ref 577]) rfl ?_
                        refine T_zicmp_ne xr_197_187 (t := 210) (pc' := 190) rfl rfl (fun c2476 => ?_) (fun c2476 => ?_)
                        · skip
                          have c2476 : ¬ s = 47 := c2476
                          refine T_p xr_197_210 xn_197 (pc' := 212) (ls' := [(8, .int (iI (pr (hg - 1)))), (7, .int (iI (pr (hg - 2)))), (3, .int (iI (hg - 1))), (6, .int (iI (sN ((30 * (30 * b + w)) + k)))), (5, .int (iI s)), (4, .int (iI k)), (2, .int (iI n)), (1, .int (iI (30 * b + w))), (0, .ref 530)]) (st' := [.int (iI s), .int (iI (hg - 2)), .ref 577]) rfl ?_
                          refine T_p xr_197_212 xn_197 (pc' := 214) (ls' := [(8, .int (iI (pr (hg - 1)))), (7, .int (iI (pr (hg - 2)))), (3, .int (iI (hg - 1))), (6, .int (iI (sN ((30 * (30 * b + w)) + k)))), (5, .int (iI s)), (4, .int (iI k)), (2, .int (iI n)), (1, .int (iI (30 * b + w))), (0, .ref 530)]) (st' := [.int (iI 37), .int (iI s), .int (iI (hg - 2)), .ref 577]) rfl ?_
                          refine T_zicmp_ne xr_197_214 (t := 235) (pc' := 217) rfl rfl (fun c2477 => ?_) (fun c2477 => ?_)
                          · skip
                            have c2477 : ¬ s = 37 := c2477
                            exact (show False by first | contradiction | omega).elim
                          · skip
                            have c2477 : ¬ (¬ s = 37) := c2477
                            refine T_p xr_197_217 xn_197 (pc' := 219) (ls' := [(8, .int (iI (pr (hg - 1)))), (7, .int (iI (pr (hg - 2)))), (3, .int (iI (hg - 1))), (6, .int (iI (sN ((30 * (30 * b + w)) + k)))), (5, .int (iI s)), (4, .int (iI k)), (2, .int (iI n)), (1, .int (iI (30 * b + w))), (0, .ref 530)]) (st' := [.int (iI (pr (hg - 1))), .int (iI (hg - 2)), .ref 577]) rfl ?_
                            refine T_p xr_197_219 xn_197 (pc' := 220) (ls' := [(8, .int (iI (pr (hg - 1)))), (7, .int (iI (pr (hg - 2)))), (3, .int (iI (hg - 1))), (6, .int (iI (sN ((30 * (30 * b + w)) + k)))), (5, .int (iI s)), (4, .int (iI k)), (2, .int (iI n)), (1, .int (iI (30 * b + w))), (0, .ref 530)]) (st' := [.int (iI (-1)), .int (iI (pr (hg - 1))), .int (iI (hg - 2)), .ref 577]) rfl ?_
                            refine T_zicmp_ne xr_197_220 (t := 227) (pc' := 223) rfl rfl (fun c2478 => ?_) (fun c2478 => ?_)
                            · skip
                              have c2478 : ¬ (pr (hg - 1)) = (-1) := c2478
                              refine T_p xr_197_227 xn_197 (pc' := 229) (ls' := [(8, .int (iI (pr (hg - 1)))), (7, .int (iI (pr (hg - 2)))), (3, .int (iI (hg - 1))), (6, .int (iI (sN ((30 * (30 * b + w)) + k)))), (5, .int (iI s)), (4, .int (iI k)), (2, .int (iI n)), (1, .int (iI (30 * b + w))), (0, .ref 530)]) (st' := [.int (iI (pr (hg - 2))), .int (iI (hg - 2)), .ref 577]) rfl ?_
                              refine T_p xr_197_229 xn_197 (pc' := 231) (ls' := [(8, .int (iI (pr (hg - 1)))), (7, .int (iI (pr (hg - 2)))), (3, .int (iI (hg - 1))), (6, .int (iI (sN ((30 * (30 * b + w)) + k)))), (5, .int (iI s)), (4, .int (iI k)), (2, .int (iI n)), (1, .int (iI (30 * b + w))), (0, .ref 530)]) (st' := [.int (iI (pr (hg - 1))), .int (iI (pr (hg - 2))), .int (iI (hg - 2)), .ref 577]) rfl ?_
                              refine T_p xr_197_231 xn_197 (pc' := 232) (ls' := [(8, .int (iI (pr (hg - 1)))), (7, .int (iI (pr (hg - 2)))), (3, .int (iI (hg - 1))), (6, .int (iI (sN ((30 * (30 * b + w)) + k)))), (5, .int (iI s)), (4, .int (iI k)), (2, .int (iI n)), (1, .int (iI (30 * b + w))), (0, .ref 530)]) (st' := .int (iI (pr (hg - 2)) - iI (pr (hg - 2)) / iI (pr (hg - 1)) * iI (pr (hg - 1))) :: [.int (iI (hg - 2)), .ref 577]) (by simp only [X_pstep, X_i2]; rw [if_neg (by exact fun z => absurd ((iI_eq (b := 0) (by omega) (by omega) (by omega) (by omega)).mp z) (by omega))]) ?_
                              refine T_ie (y := iI ((iI (pr (hg - 2)) - iI (pr (hg - 2)) / iI (pr (hg - 1)) * iI (pr (hg - 1))).toInt)) (iI_of _) ?_
                              refine T_p xr_197_232 xn_197 (pc' := 247) (ls' := [(8, .int (iI (pr (hg - 1)))), (7, .int (iI (pr (hg - 2)))), (3, .int (iI (hg - 1))), (6, .int (iI (sN ((30 * (30 * b + w)) + k)))), (5, .int (iI s)), (4, .int (iI k)), (2, .int (iI n)), (1, .int (iI (30 * b + w))), (0, .ref 530)]) (st' := [.int (iI ((iI (pr (hg - 2)) - iI (pr (hg - 2)) / iI (pr (hg - 1)) * iI (pr (hg - 1))).toInt)), .int (iI (hg - 2)), .ref 577]) rfl ?_
                              refine T_ie (y := iI (X_out2 (gD G w 12 k) (pr (hg - 2)) (pr (hg - 1)))) (X_out2_f hop (Or.inr (Or.inr (Or.inr (Or.inr (Or.inl ⟨by omega, (iI_of _).symm⟩)))))) ?_
                              exact J2468
                            · skip
                              have c2478 : ¬ (¬ (pr (hg - 1)) = (-1)) := c2478
                              refine T_p xr_197_223 xn_197 (pc' := 224) (ls' := [(8, .int (iI (pr (hg - 1)))), (7, .int (iI (pr (hg - 2)))), (3, .int (iI (hg - 1))), (6, .int (iI (sN ((30 * (30 * b + w)) + k)))), (5, .int (iI s)), (4, .int (iI k)), (2, .int (iI n)), (1, .int (iI (30 * b + w))), (0, .ref 530)]) (st' := [.int (iI 0), .int (iI (hg - 2)), .ref 577]) rfl ?_
                              refine T_p xr_197_224 xn_197 (pc' := 247) (ls' := [(8, .int (iI (pr (hg - 1)))), (7, .int (iI (pr (hg - 2)))), (3, .int (iI (hg - 1))), (6, .int (iI (sN ((30 * (30 * b + w)) + k)))), (5, .int (iI s)), (4, .int (iI k)), (2, .int (iI n)), (1, .int (iI (30 * b + w))), (0, .ref 530)]) (st' := [.int (iI 0), .int (iI (hg - 2)), .ref 577]) rfl ?_
                              refine T_ie (y := iI (X_out2 (gD G w 12 k) (pr (hg - 2)) (pr (hg - 1)))) (X_out2_f hop (Or.inr (Or.inr (Or.inr (Or.inr (Or.inl ⟨by omega, (by rw [show pr (hg - 1) = -1 by omega]; exact iI_nmod)⟩)))))) ?_
                              exact J2468
                        · skip
                          have c2476 : ¬ (¬ s = 47) := c2476
                          refine T_p xr_197_190 xn_197 (pc' := 192) (ls' := [(8, .int (iI (pr (hg - 1)))), (7, .int (iI (pr (hg - 2)))), (3, .int (iI (hg - 1))), (6, .int (iI (sN ((30 * (30 * b + w)) + k)))), (5, .int (iI s)), (4, .int (iI k)), (2, .int (iI n)), (1, .int (iI (30 * b + w))), (0, .ref 530)]) (st' := [.int (iI (pr (hg - 1))), .int (iI (hg - 2)), .ref 577]) rfl ?_
                          refine T_p xr_197_192 xn_197 (pc' := 193) (ls' := [(8, .int (iI (pr (hg - 1)))), (7, .int (iI (pr (hg - 2)))), (3, .int (iI (hg - 1))), (6, .int (iI (sN ((30 * (30 * b + w)) + k)))), (5, .int (iI s)), (4, .int (iI k)), (2, .int (iI n)), (1, .int (iI (30 * b + w))), (0, .ref 530)]) (st' := [.int (iI (-1)), .int (iI (pr (hg - 1))), .int (iI (hg - 2)), .ref 577]) rfl ?_
                          refine T_zicmp_ne xr_197_193 (t := 202) (pc' := 196) rfl rfl (fun c2479 => ?_) (fun c2479 => ?_)
                          · skip
                            have c2479 : ¬ (pr (hg - 1)) = (-1) := c2479
                            refine T_p xr_197_202 xn_197 (pc' := 204) (ls' := [(8, .int (iI (pr (hg - 1)))), (7, .int (iI (pr (hg - 2)))), (3, .int (iI (hg - 1))), (6, .int (iI (sN ((30 * (30 * b + w)) + k)))), (5, .int (iI s)), (4, .int (iI k)), (2, .int (iI n)), (1, .int (iI (30 * b + w))), (0, .ref 530)]) (st' := [.int (iI (pr (hg - 2))), .int (iI (hg - 2)), .ref 577]) rfl ?_
                            refine T_p xr_197_204 xn_197 (pc' := 206) (ls' := [(8, .int (iI (pr (hg - 1)))), (7, .int (iI (pr (hg - 2)))), (3, .int (iI (hg - 1))), (6, .int (iI (sN ((30 * (30 * b + w)) + k)))), (5, .int (iI s)), (4, .int (iI k)), (2, .int (iI n)), (1, .int (iI (30 * b + w))), (0, .ref 530)]) (st' := [.int (iI (pr (hg - 1))), .int (iI (pr (hg - 2))), .int (iI (hg - 2)), .ref 577]) rfl ?_
                            refine T_p xr_197_206 xn_197 (pc' := 207) (ls' := [(8, .int (iI (pr (hg - 1)))), (7, .int (iI (pr (hg - 2)))), (3, .int (iI (hg - 1))), (6, .int (iI (sN ((30 * (30 * b + w)) + k)))), (5, .int (iI s)), (4, .int (iI k)), (2, .int (iI n)), (1, .int (iI (30 * b + w))), (0, .ref 530)]) (st' := .int (iI (pr (hg - 2)) / iI (pr (hg - 1))) :: [.int (iI (hg - 2)), .ref 577]) (by simp only [X_pstep, X_i2]; rw [if_neg (by exact fun z => absurd ((iI_eq (b := 0) (by omega) (by omega) (by omega) (by omega)).mp z) (by omega))]) ?_
                            refine T_ie (y := iI ((iI (pr (hg - 2)) / iI (pr (hg - 1))).toInt)) (iI_of _) ?_
                            refine T_p xr_197_207 xn_197 (pc' := 247) (ls' := [(8, .int (iI (pr (hg - 1)))), (7, .int (iI (pr (hg - 2)))), (3, .int (iI (hg - 1))), (6, .int (iI (sN ((30 * (30 * b + w)) + k)))), (5, .int (iI s)), (4, .int (iI k)), (2, .int (iI n)), (1, .int (iI (30 * b + w))), (0, .ref 530)]) (st' := [.int (iI ((iI (pr (hg - 2)) / iI (pr (hg - 1))).toInt)), .int (iI (hg - 2)), .ref 577]) rfl ?_
                            refine T_ie (y := iI (X_out2 (gD G w 12 k) (pr (hg - 2)) (pr (hg - 1)))) (X_out2_f hop (Or.inr (Or.inr (Or.inr (Or.inl ⟨by omega, (iI_of _).symm⟩))))) ?_
                            exact J2468
                          · skip
                            have c2479 : ¬ (¬ (pr (hg - 1)) = (-1)) := c2479
                            refine T_p xr_197_196 xn_197 (pc' := 198) (ls' := [(8, .int (iI (pr (hg - 1)))), (7, .int (iI (pr (hg - 2)))), (3, .int (iI (hg - 1))), (6, .int (iI (sN ((30 * (30 * b + w)) + k)))), (5, .int (iI s)), (4, .int (iI k)), (2, .int (iI n)), (1, .int (iI (30 * b + w))), (0, .ref 530)]) (st' := [.int (iI (pr (hg - 2))), .int (iI (hg - 2)), .ref 577]) rfl ?_
                            refine T_zineg xr_197_198 (z := -(pr (hg - 2))) rfl (pc' := 199) rfl ?_
                            refine T_p xr_197_199 xn_197 (pc' := 247) (ls' := [(8, .int (iI (pr (hg - 1)))), (7, .int (iI (pr (hg - 2)))), (3, .int (iI (hg - 1))), (6, .int (iI (sN ((30 * (30 * b + w)) + k)))), (5, .int (iI s)), (4, .int (iI k)), (2, .int (iI n)), (1, .int (iI (30 * b + w))), (0, .ref 530)]) (st' := [.int (iI (-(pr (hg - 2)))), .int (iI (hg - 2)), .ref 577]) rfl ?_
                            refine T_ie (y := iI (X_out2 (gD G w 12 k) (pr (hg - 2)) (pr (hg - 1)))) (X_out2_f hop (Or.inr (Or.inr (Or.inr (Or.inl ⟨by omega, (by rw [show pr (hg - 1) = -1 by omega]; exact iI_ndiv.symm)⟩))))) ?_
                            exact J2468
                      · skip
                        have c2475 : ¬ (¬ s = 42) := c2475
                        refine T_p xr_197_175 xn_197 (pc' := 177) (ls' := [(8, .int (iI (pr (hg - 1)))), (7, .int (iI (pr (hg - 2)))), (3, .int (iI (hg - 1))), (6, .int (iI (sN ((30 * (30 * b + w)) + k)))), (5, .int (iI s)), (4, .int (iI k)), (2, .int (iI n)), (1, .int (iI (30 * b + w))), (0, .ref 530)]) (st' := [.int (iI (pr (hg - 2))), .int (iI (hg - 2)), .ref 577]) rfl ?_
                        refine T_p xr_197_177 xn_197 (pc' := 179) (ls' := [(8, .int (iI (pr (hg - 1)))), (7, .int (iI (pr (hg - 2)))), (3, .int (iI (hg - 1))), (6, .int (iI (sN ((30 * (30 * b + w)) + k)))), (5, .int (iI s)), (4, .int (iI k)), (2, .int (iI n)), (1, .int (iI (30 * b + w))), (0, .ref 530)]) (st' := [.int (iI (pr (hg - 1))), .int (iI (pr (hg - 2))), .int (iI (hg - 2)), .ref 577]) rfl ?_
                        refine T_zimul xr_197_179 (z := (pr (hg - 2)) * (pr (hg - 1))) rfl (pc' := 180) rfl ?_
                        refine T_p xr_197_180 xn_197 (pc' := 247) (ls' := [(8, .int (iI (pr (hg - 1)))), (7, .int (iI (pr (hg - 2)))), (3, .int (iI (hg - 1))), (6, .int (iI (sN ((30 * (30 * b + w)) + k)))), (5, .int (iI s)), (4, .int (iI k)), (2, .int (iI n)), (1, .int (iI (30 * b + w))), (0, .ref 530)]) (st' := [.int (iI ((pr (hg - 2)) * (pr (hg - 1)))), .int (iI (hg - 2)), .ref 577]) rfl ?_
                        refine T_ie (y := iI (X_out2 (gD G w 12 k) (pr (hg - 2)) (pr (hg - 1)))) (X_out2_f hop (Or.inr (Or.inr (Or.inl ⟨by omega, (Int32.ofInt_mul _ _)⟩)))) ?_
                        exact J2468
                    · skip
                      have c2474 : ¬ (¬ s = 45) := c2474
                      refine T_p xr_197_160 xn_197 (pc' := 162) (ls' := [(8, .int (iI (pr (hg - 1)))), (7, .int (iI (pr (hg - 2)))), (3, .int (iI (hg - 1))), (6, .int (iI (sN ((30 * (30 * b + w)) + k)))), (5, .int (iI s)), (4, .int (iI k)), (2, .int (iI n)), (1, .int (iI (30 * b + w))), (0, .ref 530)]) (st' := [.int (iI (pr (hg - 2))), .int (iI (hg - 2)), .ref 577]) rfl ?_
                      refine T_p xr_197_162 xn_197 (pc' := 164) (ls' := [(8, .int (iI (pr (hg - 1)))), (7, .int (iI (pr (hg - 2)))), (3, .int (iI (hg - 1))), (6, .int (iI (sN ((30 * (30 * b + w)) + k)))), (5, .int (iI s)), (4, .int (iI k)), (2, .int (iI n)), (1, .int (iI (30 * b + w))), (0, .ref 530)]) (st' := [.int (iI (pr (hg - 1))), .int (iI (pr (hg - 2))), .int (iI (hg - 2)), .ref 577]) rfl ?_
                      refine T_zisub xr_197_164 (z := (pr (hg - 2)) - (pr (hg - 1))) rfl (pc' := 165) rfl ?_
                      refine T_p xr_197_165 xn_197 (pc' := 247) (ls' := [(8, .int (iI (pr (hg - 1)))), (7, .int (iI (pr (hg - 2)))), (3, .int (iI (hg - 1))), (6, .int (iI (sN ((30 * (30 * b + w)) + k)))), (5, .int (iI s)), (4, .int (iI k)), (2, .int (iI n)), (1, .int (iI (30 * b + w))), (0, .ref 530)]) (st' := [.int (iI ((pr (hg - 2)) - (pr (hg - 1)))), .int (iI (hg - 2)), .ref 577]) rfl ?_
                      refine T_ie (y := iI (X_out2 (gD G w 12 k) (pr (hg - 2)) (pr (hg - 1)))) (X_out2_f hop (Or.inr (Or.inl ⟨by omega, (Int32.ofInt_sub _ _)⟩))) ?_
                      exact J2468
                  · skip
                    have c2473 : ¬ (¬ s = 43) := c2473
                    refine T_p xr_197_145 xn_197 (pc' := 147) (ls' := [(8, .int (iI (pr (hg - 1)))), (7, .int (iI (pr (hg - 2)))), (3, .int (iI (hg - 1))), (6, .int (iI (sN ((30 * (30 * b + w)) + k)))), (5, .int (iI s)), (4, .int (iI k)), (2, .int (iI n)), (1, .int (iI (30 * b + w))), (0, .ref 530)]) (st' := [.int (iI (pr (hg - 2))), .int (iI (hg - 2)), .ref 577]) rfl ?_
                    refine T_p xr_197_147 xn_197 (pc' := 149) (ls' := [(8, .int (iI (pr (hg - 1)))), (7, .int (iI (pr (hg - 2)))), (3, .int (iI (hg - 1))), (6, .int (iI (sN ((30 * (30 * b + w)) + k)))), (5, .int (iI s)), (4, .int (iI k)), (2, .int (iI n)), (1, .int (iI (30 * b + w))), (0, .ref 530)]) (st' := [.int (iI (pr (hg - 1))), .int (iI (pr (hg - 2))), .int (iI (hg - 2)), .ref 577]) rfl ?_
                    refine T_ziadd xr_197_149 (z := (pr (hg - 2)) + (pr (hg - 1))) rfl (pc' := 150) rfl ?_
                    refine T_p xr_197_150 xn_197 (pc' := 247) (ls' := [(8, .int (iI (pr (hg - 1)))), (7, .int (iI (pr (hg - 2)))), (3, .int (iI (hg - 1))), (6, .int (iI (sN ((30 * (30 * b + w)) + k)))), (5, .int (iI s)), (4, .int (iI k)), (2, .int (iI n)), (1, .int (iI (30 * b + w))), (0, .ref 530)]) (st' := [.int (iI ((pr (hg - 2)) + (pr (hg - 1)))), .int (iI (hg - 2)), .ref 577]) rfl ?_
                    refine T_ie (y := iI (X_out2 (gD G w 12 k) (pr (hg - 2)) (pr (hg - 1)))) (X_out2_f hop (Or.inl ⟨by omega, (Int32.ofInt_add _ _)⟩)) ?_
                    exact J2468
                · skip
                  have c2467 : ¬ (¬ (pr (hg - 1)) = 0) := c2467
                  refine T_p xr_197_129 xn_197 (pc' := 130) (ls' := [(8, .int (iI (pr (hg - 1)))), (7, .int (iI (pr (hg - 2)))), (3, .int (iI (hg - 1))), (6, .int (iI (sN ((30 * (30 * b + w)) + k)))), (5, .int (iI s)), (4, .int (iI k)), (2, .int (iI n)), (1, .int (iI (30 * b + w))), (0, .ref 530)]) (st' := [.int (iI 1)]) rfl ?_
                  refine T_iret xr_197_130 xf_197.2.2 rfl ?_
                  refine hQ _ _ ?_
                  rw [if_pos ⟨by omega, show pr (hg - 1) = 0 by omega⟩] at hgo
                  have hz := X_wS_none (d := gD G w) (ch := ch) (k := k + 1) (by omega) hgo ((gD G w 5 0).toNat - (k + 1).toNat)
                  rw [show (k + 1).toNat + ((gD G w 5 0).toNat - (k + 1).toNat) = (gD G w 5 0).toNat by omega] at hz
                  exact Or.inl ⟨pl1, rfl, hz, hpl1, (X_Fr.rf).tr (X_Fr.mono ⟨hF2414.1, hF2414.2⟩ (fun q hq => by first | exact hq | (rcases hq with rfl <;> decide) | (rcases hq with rfl | rfl <;> decide) | (rcases hq with rfl | rfl | rfl <;> decide) | (rcases hq with rfl | rfl | rfl | rfl <;> decide) | (rcases hq with rfl | rfl | rfl | rfl | rfl <;> decide) | (rcases hq with rfl | rfl | rfl | rfl | rfl | rfl <;> decide) | (rcases hq with rfl | rfl | rfl | rfl | rfl | rfl | rfl <;> decide) | omega))⟩
          · skip
            have c2438 : ¬ (¬ s = 64) := c2438
            refine T_p xr_197_58 xn_197 (pc' := 59) (ls' := [(6, .int (iI (sN ((30 * (30 * b + w)) + k)))), (5, .int (iI s)), (4, .int (iI k)), (3, .int (iI hg)), (2, .int (iI n)), (1, .int (iI (30 * b + w))), (0, .ref 530)]) (st' := [.ref 530]) rfl ?_
            refine T_get xr_197_59 h2416 rfl (v := .ref 577) rfl (pc' := 62) rfl ?_
            refine T_p xr_197_62 xn_197 (pc' := 63) (ls' := [(6, .int (iI (sN ((30 * (30 * b + w)) + k)))), (5, .int (iI s)), (4, .int (iI k)), (3, .int (iI hg)), (2, .int (iI n)), (1, .int (iI (30 * b + w))), (0, .ref 530)]) (st' := [.int (iI hg), .ref 577]) rfl ?_
            refine T_p xr_197_63 xn_197 (pc' := 65) (ls' := [(6, .int (iI (sN ((30 * (30 * b + w)) + k)))), (5, .int (iI s)), (4, .int (iI k)), (3, .int (iI hg)), (2, .int (iI n)), (1, .int (iI (30 * b + w))), (0, .ref 530)]) (st' := [.int (iI s), .int (iI hg), .ref 577]) rfl ?_
            refine T_p xr_197_65 xn_197 (pc' := 67) (ls' := [(6, .int (iI (sN ((30 * (30 * b + w)) + k)))), (5, .int (iI s)), (4, .int (iI k)), (3, .int (iI hg)), (2, .int (iI n)), (1, .int (iI (30 * b + w))), (0, .ref 530)]) (st' := [.int (iI 110), .int (iI s), .int (iI hg), .ref 577]) rfl ?_
            refine T_zicmp_ne xr_197_67 (t := 75) (pc' := 70) rfl rfl (fun c2480 => ?_) (fun c2480 => ?_)
            · skip
              have c2480 : ¬ s = 110 := c2480
              have hsn := hso.2.2 (by omega)
              rw [if_neg (show ¬ gD G w 12 k = 4 by omega), if_pos (show gD G w 12 k = 64 by omega)] at hgo
              refine T_p xr_197_75 xn_197 (pc' := 76) (ls' := [(6, .int (iI (sN ((30 * (30 * b + w)) + k)))), (5, .int (iI s)), (4, .int (iI k)), (3, .int (iI hg)), (2, .int (iI n)), (1, .int (iI (30 * b + w))), (0, .ref 530)]) (st' := [.ref 530, .int (iI hg), .ref 577]) rfl ?_
              refine T_get xr_197_76 h2416 rfl (v := .ref 578) rfl (pc' := 79) rfl ?_
              refine T_p xr_197_79 xn_197 (pc' := 81) (ls' := [(6, .int (iI (sN ((30 * (30 * b + w)) + k)))), (5, .int (iI s)), (4, .int (iI k)), (3, .int (iI hg)), (2, .int (iI n)), (1, .int (iI (30 * b + w))), (0, .ref 530)]) (st' := [.int (iI (sN ((30 * (30 * b + w)) + k))), .ref 578, .int (iI hg), .ref 577]) rfl ?_
              refine T_ie (y := iI (gD G w 13 k - 1)) (by rw [hsn]) ?_
              have h2481 := (hF2414.1 578 (by first | decide | omega)).trans (hA578)
              refine T_ziald xr_197_81 h2481 (pc' := 82) rfl ?_
              refine T_ie (y := iI ((iI (ch (gD G w 13 k - 1))).toInt)) (by rw [hcv (gD G w 13 k - 1) (by omega) (by omega)]; exact iI_of _) ?_
              refine T_ziast xr_197_82 hpl1 (pc' := 83) rfl (fun S2482 h2483 n2484 e2485 => ?_)
              refine T_ziinc xr_197_83 xn_197 (a := hg) (z := hg + 1) rfl (Nat.le_of_ble_eq_true rfl) (by omega) (ls' := [(3, .int (iI (hg + 1))), (6, .int (iI (sN ((30 * (30 * b + w)) + k)))), (5, .int (iI s)), (4, .int (iI k)), (2, .int (iI n)), (1, .int (iI (30 * b + w))), (0, .ref 530)]) rfl (pc' := 86) rfl ?_
              refine T_p xr_197_86 xn_197 (pc' := 248) (ls' := [(3, .int (iI (hg + 1))), (6, .int (iI (sN ((30 * (30 * b + w)) + k)))), (5, .int (iI s)), (4, .int (iI k)), (2, .int (iI n)), (1, .int (iI (30 * b + w))), (0, .ref 530)]) (st' := []) rfl ?_
              refine T_ziinc xr_197_248 xn_197 (a := k) (z := k + 1) rfl (Nat.le_of_ble_eq_true rfl) (by omega) (ls' := [(4, .int (iI (k + 1))), (3, .int (iI (hg + 1))), (6, .int (iI (sN ((30 * (30 * b + w)) + k)))), (5, .int (iI s)), (2, .int (iI n)), (1, .int (iI (30 * b + w))), (0, .ref 530)]) rfl (pc' := 251) rfl ?_
              refine T_p xr_197_251 xn_197 (pc' := 5) (ls' := [(4, .int (iI (k + 1))), (3, .int (iI (hg + 1))), (6, .int (iI (sN ((30 * (30 * b + w)) + k)))), (5, .int (iI s)), (2, .int (iI n)), (1, .int (iI (30 * b + w))), (0, .ref 530)]) (st' := []) rfl ?_
              refine T_sub (ls := [(4, .int (iI (k + 1))), (3, .int (iI (hg + 1))), (2, .int (iI n)), (1, .int (iI (30 * b + w))), (0, .ref 530)]) ⟨rfl, rfl, rfl, rfl, rfl, trivial⟩ rfl rfl ?_
              exact ih2411 S2482 (k + 1) (hg + 1) (X_ug pl1 hg ((iI (ch (gD G w 13 k - 1))).toInt)) (X_ug pr hg ((iI (ch (gD G w 13 k - 1))).toInt)) h2483 (hF2414.tr ((X_Fr.rf).tr (X_Fr.of n2484 e2485 (by first | decide | exact ⟨Nat.le_add_right _ _, Nat.add_le_add_left (by decide) _⟩ | omega)))) (by omega) hgo (fun q h1 h2 => by
                    by_cases hq : q = hg
                    · rw [hq, X_ug_s, X_ug_s]
                    · rw [X_ug_n _ _ hq, X_ug_n _ _ hq]; exact hpr q h1 (by omega)) (by omega) (by omega)
            · skip
              have c2480 : ¬ (¬ s = 110) := c2480
              rw [if_pos (show gD G w 12 k = 4 by omega)] at hgo
              refine T_p xr_197_70 xn_197 (pc' := 72) (ls' := [(6, .int (iI (sN ((30 * (30 * b + w)) + k)))), (5, .int (iI s)), (4, .int (iI k)), (3, .int (iI hg)), (2, .int (iI n)), (1, .int (iI (30 * b + w))), (0, .ref 530)]) (st' := [.int (iI (sN ((30 * (30 * b + w)) + k))), .int (iI hg), .ref 577]) rfl ?_
              refine T_p xr_197_72 xn_197 (pc' := 82) (ls' := [(6, .int (iI (sN ((30 * (30 * b + w)) + k)))), (5, .int (iI s)), (4, .int (iI k)), (3, .int (iI hg)), (2, .int (iI n)), (1, .int (iI (30 * b + w))), (0, .ref 530)]) (st' := [.int (iI (sN ((30 * (30 * b + w)) + k))), .int (iI hg), .ref 577]) rfl ?_
              refine T_ie (y := iI ((iI (gD G w 13 k)).toInt)) (by rw [hso.2.1 (by omega)]; exact iI_of _) ?_
              refine T_ziast xr_197_82 hpl1 (pc' := 83) rfl (fun S2486 h2487 n2488 e2489 => ?_)
              refine T_ziinc xr_197_83 xn_197 (a := hg) (z := hg + 1) rfl (Nat.le_of_ble_eq_true rfl) (by omega) (ls' := [(3, .int (iI (hg + 1))), (6, .int (iI (sN ((30 * (30 * b + w)) + k)))), (5, .int (iI s)), (4, .int (iI k)), (2, .int (iI n)), (1, .int (iI (30 * b + w))), (0, .ref 530)]) rfl (pc' := 86) rfl ?_
              refine T_p xr_197_86 xn_197 (pc' := 248) (ls' := [(3, .int (iI (hg + 1))), (6, .int (iI (sN ((30 * (30 * b + w)) + k)))), (5, .int (iI s)), (4, .int (iI k)), (2, .int (iI n)), (1, .int (iI (30 * b + w))), (0, .ref 530)]) (st' := []) rfl ?_
              refine T_ziinc xr_197_248 xn_197 (a := k) (z := k + 1) rfl (Nat.le_of_ble_eq_true rfl) (by omega) (ls' := [(4, .int (iI (k + 1))), (3, .int (iI (hg + 1))), (6, .int (iI (sN ((30 * (30 * b + w)) + k)))), (5, .int (iI s)), (2, .int (iI n)), (1, .int (iI (30 * b + w))), (0, .ref 530)]) rfl (pc' := 251) rfl ?_
              refine T_p xr_197_251 xn_197 (pc' := 5) (ls' := [(4, .int (iI (k + 1))), (3, .int (iI (hg + 1))), (6, .int (iI (sN ((30 * (30 * b + w)) + k)))), (5, .int (iI s)), (2, .int (iI n)), (1, .int (iI (30 * b + w))), (0, .ref 530)]) (st' := []) rfl ?_
              refine T_sub (ls := [(4, .int (iI (k + 1))), (3, .int (iI (hg + 1))), (2, .int (iI n)), (1, .int (iI (30 * b + w))), (0, .ref 530)]) ⟨rfl, rfl, rfl, rfl, rfl, trivial⟩ rfl rfl ?_
              exact ih2411 S2486 (k + 1) (hg + 1) (X_ug pl1 hg ((iI (gD G w 13 k)).toInt)) (X_ug pr hg ((iI (gD G w 13 k)).toInt)) h2487 (hF2414.tr ((X_Fr.rf).tr (X_Fr.of n2488 e2489 (by first | decide | exact ⟨Nat.le_add_right _ _, Nat.add_le_add_left (by decide) _⟩ | omega)))) (by omega) hgo (fun q h1 h2 => by
                    by_cases hq : q = hg
                    · rw [hq, X_ug_s, X_ug_s]
                    · rw [X_ug_n _ _ hq, X_ug_n _ _ hq]; exact hpr q h1 (by omega)) (by omega) (by omega)
  refine T_sub (ls := [(4, .int (iI 0)), (3, .int (iI 0)), (2, .int (iI n)), (1, .int (iI (30 * b + w))), (0, .ref 530)]) ⟨rfl, rfl, rfl, rfl, rfl, trivial⟩ rfl rfl ?_
  exact L2410 ((gD G w 5 0) + 1).toNat S 0 0 pl (fun _ => 0) hA577 ((X_Fr.rf)) (by omega) rfl (fun q h1 h2 => absurd h2 (by omega)) (by omega) (by omega)
theorem r_behind (sc : X_Sc) (S : X_S) (nW : Int → Int) (nF : Int → Int) (nL : Int → Int) (nP : Int → Int) (nH : Int → Int) (o : Nat → Int) (nm : Int64) (b : Int) (rc : Int) (G : X_G) (tn : Int) (nc : Int) (N : Int → Int → Int) (n : Int) (hO530 : S.1 530 = .inr (11, [.ref 531, .int (iI (o 1)), .ref 532, .int (iI (o 3)), .int (iI b), .int (iI (o 5)), .int (iI (o 6)), .int (iI (o 7)), .int (iI (o 8)), .int (iI (o 9)), .int (iI (o 10)), .int (iI (o 11)), .long nm, .ref 533, .ref 534, .ref 535, .ref 536, .ref 537, .ref 538, .ref 539, .ref 540, .ref 541, .ref 542, .ref 543, .ref 544, .ref 545, .ref 546, .ref 547, .int (iI rc), .int (iI (gk G)), .int (iI (gw G)), .int (iI (o 31)), .int (iI (o 32)), .int (iI (o 33)), .ref 548, .ref 549, .ref 550, .ref 551, .int (iI tn), .ref 552, .ref 553, .ref 554, .ref 555, .ref 556, .ref 557, .ref 558, .ref 559, .ref 560, .ref 561, .int (iI nc), .ref 562, .ref 563, .ref 564, .ref 565, .ref 566, .ref 567, .ref 568, .ref 569, .int (iI (o 58)), .ref 570, .ref 571, .ref 572, .ref 573, .ref 574, .ref 575, .ref 576, .ref 577, .ref 578, .int (iI (o 68)), .int (iI (o 69)), .int (iI (o 70)), .ref 579])) (hA557 : S.1 557 = .inl (.int, 40, .inl fun k : Nat => iI (nW (k : Int)))) (hA558 : S.1 558 = .inl (.int, 40, .inl fun k : Nat => iI (nF (k : Int)))) (hA559 : S.1 559 = .inl (.int, 40, .inl fun k : Nat => iI (nL (k : Int)))) (hA560 : S.1 560 = .inl (.int, 40, .inl fun k : Nat => iI (nP (k : Int)))) (hA561 : S.1 561 = .inl (.int, 40, .inl fun k : Nat => iI (nH (k : Int)))) (hnc : 0 ≤ nc ∧ nc ≤ 30) (hn : 0 ≤ n ∧ n < nc) (hnd : R_nd nc N nW nF nL nP nH) (ht0 : X_tr0 N nc) : X_T sc 192 (0, [(0, .ref 530), (1, .int (iI n))], [], S) (fun v S' => ∃ (r : Int), v = some (.int (iI r)) ∧ (n + 1 ≤ r ∧ r ≤ nc) ∧ (r < nc → N 3 r < n) ∧ S' = S) := by
  refine X_QI (fun Q hQ => ?_)
  refine T_p xr_192_0 xn_192 (pc' := 1) (ls' := [(0, .ref 530), (1, .int (iI n))]) (st' := [.int (iI n)]) rfl ?_
  refine T_p xr_192_1 xn_192 (pc' := 2) (ls' := [(0, .ref 530), (1, .int (iI n))]) (st' := [.int (iI 1), .int (iI n)]) rfl ?_
  refine T_ziadd xr_192_2 (z := n + 1) rfl (pc' := 3) rfl ?_
  refine T_p xr_192_3 xn_192 (pc' := 4) (ls' := [(2, .int (iI (n + 1))), (0, .ref 530), (1, .int (iI n))]) (st' := []) rfl ?_
  have L2490 : ∀ (m2492 : Nat) (m : Int) (hm : n + 1 ≤ m ∧ m ≤ nc) (hm2493 : nc - m < m2492), X_T sc 192 (4, [(2, .int (iI m)), (1, .int (iI n)), (0, .ref 530)], [], S) Q := by
    intro m2492
    induction m2492 with
    | zero =>
      intro m hm hm2493
      exact (show False by omega).elim
    | succ m2492 ih2491 =>
      intro m hm hm2493
      refine T_p xr_192_4 xn_192 (pc' := 5) (ls' := [(2, .int (iI m)), (1, .int (iI n)), (0, .ref 530)]) (st' := [.int (iI m)]) rfl ?_
      refine T_p xr_192_5 xn_192 (pc' := 6) (ls' := [(2, .int (iI m)), (1, .int (iI n)), (0, .ref 530)]) (st' := [.ref 530, .int (iI m)]) rfl ?_
      refine T_get xr_192_6 hO530 rfl (v := .int (iI nc)) rfl (pc' := 9) rfl ?_
      refine T_zicmp_ge xr_192_9 (t := 28) (pc' := 12) rfl rfl (fun c2495 => ?_) (fun c2495 => ?_)
      · skip
        have c2495 : nc ≤ m := c2495
        refine T_p xr_192_28 xn_192 (pc' := 29) (ls' := [(2, .int (iI m)), (1, .int (iI n)), (0, .ref 530)]) (st' := [.int (iI m)]) rfl ?_
        refine T_iret xr_192_29 xf_192.2.2 rfl ?_
        refine hQ _ _ ?_
        exact ⟨m, rfl, (by omega), (fun z => by omega), rfl⟩
      · skip
        have c2495 : ¬ (nc ≤ m) := c2495
        refine T_p xr_192_12 xn_192 (pc' := 13) (ls' := [(2, .int (iI m)), (1, .int (iI n)), (0, .ref 530)]) (st' := [.ref 530]) rfl ?_
        refine T_get xr_192_13 hO530 rfl (v := .ref 560) rfl (pc' := 16) rfl ?_
        refine T_p xr_192_16 xn_192 (pc' := 17) (ls' := [(2, .int (iI m)), (1, .int (iI n)), (0, .ref 530)]) (st' := [.int (iI m), .ref 560]) rfl ?_
        refine T_ziald xr_192_17 hA560 (pc' := 18) rfl ?_
        have htm := ht0 m (by omega) (by omega)
        refine T_ie (y := iI (N 3 m)) (by rw [(hnd m (by omega) (by omega)).2.2.2.1]) ?_
        refine T_p xr_192_18 xn_192 (pc' := 19) (ls' := [(2, .int (iI m)), (1, .int (iI n)), (0, .ref 530)]) (st' := [.int (iI n), .int (iI (N 3 m))]) rfl ?_
        refine T_zicmp_lt xr_192_19 (t := 28) (pc' := 22) rfl rfl (fun c2496 => ?_) (fun c2496 => ?_)
        · skip
          have c2496 : (N 3 m) < n := c2496
          refine T_p xr_192_28 xn_192 (pc' := 29) (ls' := [(2, .int (iI m)), (1, .int (iI n)), (0, .ref 530)]) (st' := [.int (iI m)]) rfl ?_
          refine T_iret xr_192_29 xf_192.2.2 rfl ?_
          refine hQ _ _ ?_
          exact ⟨m, rfl, (by omega), (fun z => by omega), rfl⟩
        · skip
          have c2496 : ¬ ((N 3 m) < n) := c2496
          refine T_ziinc xr_192_22 xn_192 (a := m) (z := m + 1) rfl (Nat.le_of_ble_eq_true rfl) (by omega) (ls' := [(2, .int (iI (m + 1))), (1, .int (iI n)), (0, .ref 530)]) rfl (pc' := 25) rfl ?_
          refine T_p xr_192_25 xn_192 (pc' := 4) (ls' := [(2, .int (iI (m + 1))), (1, .int (iI n)), (0, .ref 530)]) (st' := []) rfl ?_
          exact ih2491 (m + 1)  (by omega) (by omega)
  refine T_sub (ls := [(2, .int (iI (n + 1))), (1, .int (iI n)), (0, .ref 530)]) ⟨rfl, rfl, rfl, trivial⟩ rfl rfl ?_
  exact L2490 (nc + 1).toNat (n + 1)  (by omega) (by omega)
theorem r_nextWithin (sc : X_Sc) (S : X_S) (nW : Int → Int) (nF : Int → Int) (nL : Int → Int) (nP : Int → Int) (nH : Int → Int) (dn : Int → Int) (o : Nat → Int) (nm : Int64) (b : Int) (rc : Int) (G : X_G) (tn : Int) (nc : Int) (N : Int → Int → Int) (n : Int) (hO530 : S.1 530 = .inr (11, [.ref 531, .int (iI (o 1)), .ref 532, .int (iI (o 3)), .int (iI b), .int (iI (o 5)), .int (iI (o 6)), .int (iI (o 7)), .int (iI (o 8)), .int (iI (o 9)), .int (iI (o 10)), .int (iI (o 11)), .long nm, .ref 533, .ref 534, .ref 535, .ref 536, .ref 537, .ref 538, .ref 539, .ref 540, .ref 541, .ref 542, .ref 543, .ref 544, .ref 545, .ref 546, .ref 547, .int (iI rc), .int (iI (gk G)), .int (iI (gw G)), .int (iI (o 31)), .int (iI (o 32)), .int (iI (o 33)), .ref 548, .ref 549, .ref 550, .ref 551, .int (iI tn), .ref 552, .ref 553, .ref 554, .ref 555, .ref 556, .ref 557, .ref 558, .ref 559, .ref 560, .ref 561, .int (iI nc), .ref 562, .ref 563, .ref 564, .ref 565, .ref 566, .ref 567, .ref 568, .ref 569, .int (iI (o 58)), .ref 570, .ref 571, .ref 572, .ref 573, .ref 574, .ref 575, .ref 576, .ref 577, .ref 578, .int (iI (o 68)), .int (iI (o 69)), .int (iI (o 70)), .ref 579])) (hA557 : S.1 557 = .inl (.int, 40, .inl fun k : Nat => iI (nW (k : Int)))) (hA558 : S.1 558 = .inl (.int, 40, .inl fun k : Nat => iI (nF (k : Int)))) (hA559 : S.1 559 = .inl (.int, 40, .inl fun k : Nat => iI (nL (k : Int)))) (hA560 : S.1 560 = .inl (.int, 40, .inl fun k : Nat => iI (nP (k : Int)))) (hA561 : S.1 561 = .inl (.int, 40, .inl fun k : Nat => iI (nH (k : Int)))) (hA579 : S.1 579 = .inl (.boolean, 40, .inl fun k : Nat => iI (dn (k : Int)))) (hnc : 0 ≤ nc ∧ nc ≤ 30) (hn : 0 ≤ n ∧ n < nc) (hnd : R_nd nc N nW nF nL nP nH) (ht0 : X_tr0 N nc) (hdr : ∀ m, 0 ≤ m → m < nc → dn m = 0 ∨ dn m = 1) : X_T sc 194 (0, [(0, .ref 530), (1, .int (iI n))], [], S) (fun v S' => (v = some (.int (iI (-1))) ∧ (∀ m1, n < m1 → m1 < nc → N 3 m1 = n → ¬ dn m1 = 0) ∧ S' = S) ∨ (∃ (r : Int), v = some (.int (iI r)) ∧ (n < r ∧ r < nc) ∧ N 3 r = n ∧ dn r = 0 ∧ (∀ m1, n < m1 → m1 < r → N 3 m1 = n → ¬ dn m1 = 0) ∧ S' = S)) := by
  refine X_QI (fun Q hQ => ?_)
  refine T_p xr_194_0 xn_194 (pc' := 1) (ls' := [(0, .ref 530), (1, .int (iI n))]) (st' := [.int (iI n)]) rfl ?_
  refine T_p xr_194_1 xn_194 (pc' := 2) (ls' := [(0, .ref 530), (1, .int (iI n))]) (st' := [.int (iI 1), .int (iI n)]) rfl ?_
  refine T_ziadd xr_194_2 (z := n + 1) rfl (pc' := 3) rfl ?_
  refine T_p xr_194_3 xn_194 (pc' := 4) (ls' := [(2, .int (iI (n + 1))), (0, .ref 530), (1, .int (iI n))]) (st' := []) rfl ?_
  have L2497 : ∀ (m2499 : Nat) (m : Int) (hm : n + 1 ≤ m ∧ m ≤ nc) (hno : ∀ m1, n < m1 → m1 < m → N 3 m1 = n → ¬ dn m1 = 0) (hm2500 : nc - m < m2499), X_T sc 194 (4, [(2, .int (iI m)), (1, .int (iI n)), (0, .ref 530)], [], S) Q := by
    intro m2499
    induction m2499 with
    | zero =>
      intro m hm hno hm2500
      exact (show False by omega).elim
    | succ m2499 ih2498 =>
      intro m hm hno hm2500
      refine T_p xr_194_4 xn_194 (pc' := 5) (ls' := [(2, .int (iI m)), (1, .int (iI n)), (0, .ref 530)]) (st' := [.int (iI m)]) rfl ?_
      refine T_p xr_194_5 xn_194 (pc' := 6) (ls' := [(2, .int (iI m)), (1, .int (iI n)), (0, .ref 530)]) (st' := [.ref 530, .int (iI m)]) rfl ?_
      refine T_get xr_194_6 hO530 rfl (v := .int (iI nc)) rfl (pc' := 9) rfl ?_
      refine T_zicmp_ge xr_194_9 (t := 39) (pc' := 12) rfl rfl (fun c2502 => ?_) (fun c2502 => ?_)
      · skip
        have c2502 : nc ≤ m := c2502
        refine T_p xr_194_39 xn_194 (pc' := 40) (ls' := [(2, .int (iI m)), (1, .int (iI n)), (0, .ref 530)]) (st' := [.int (iI (-1))]) rfl ?_
        refine T_iret xr_194_40 xf_194.2.2 rfl ?_
        refine hQ _ _ ?_
        exact Or.inl ⟨rfl, (fun m1 h1 h2 => hno m1 h1 (by omega)), rfl⟩
      · skip
        have c2502 : ¬ (nc ≤ m) := c2502
        refine T_p xr_194_12 xn_194 (pc' := 13) (ls' := [(2, .int (iI m)), (1, .int (iI n)), (0, .ref 530)]) (st' := [.ref 530]) rfl ?_
        refine T_get xr_194_13 hO530 rfl (v := .ref 560) rfl (pc' := 16) rfl ?_
        refine T_p xr_194_16 xn_194 (pc' := 17) (ls' := [(2, .int (iI m)), (1, .int (iI n)), (0, .ref 530)]) (st' := [.int (iI m), .ref 560]) rfl ?_
        refine T_ziald xr_194_17 hA560 (pc' := 18) rfl ?_
        have htm := ht0 m (by omega) (by omega)
        refine T_ie (y := iI (N 3 m)) (by rw [(hnd m (by omega) (by omega)).2.2.2.1]) ?_
        refine T_p xr_194_18 xn_194 (pc' := 19) (ls' := [(2, .int (iI m)), (1, .int (iI n)), (0, .ref 530)]) (st' := [.int (iI n), .int (iI (N 3 m))]) rfl ?_
        refine T_zicmp_ne xr_194_19 (t := 33) (pc' := 22) rfl rfl (fun c2503 => ?_) (fun c2503 => ?_)
        · skip
          have c2503 : ¬ (N 3 m) = n := c2503
          refine T_ziinc xr_194_33 xn_194 (a := m) (z := m + 1) rfl (Nat.le_of_ble_eq_true rfl) (by omega) (ls' := [(2, .int (iI (m + 1))), (1, .int (iI n)), (0, .ref 530)]) rfl (pc' := 36) rfl ?_
          refine T_p xr_194_36 xn_194 (pc' := 4) (ls' := [(2, .int (iI (m + 1))), (1, .int (iI n)), (0, .ref 530)]) (st' := []) rfl ?_
          exact ih2498 (m + 1)  (by omega) (fun m1 h1 h2 h3 => by
                by_cases hh : m1 = m
                · rw [hh] at h3 ⊢; omega
                · exact hno m1 h1 (by omega) h3) (by omega)
        · skip
          have c2503 : ¬ (¬ (N 3 m) = n) := c2503
          refine T_p xr_194_22 xn_194 (pc' := 23) (ls' := [(2, .int (iI m)), (1, .int (iI n)), (0, .ref 530)]) (st' := [.ref 530]) rfl ?_
          refine T_get xr_194_23 hO530 rfl (v := .ref 579) rfl (pc' := 26) rfl ?_
          refine T_p xr_194_26 xn_194 (pc' := 27) (ls' := [(2, .int (iI m)), (1, .int (iI n)), (0, .ref 530)]) (st' := [.int (iI m), .ref 579]) rfl ?_
          refine T_zzald xr_194_27 hA579 (pc' := 28) rfl ?_
          have hdm := hdr m (by omega) (by omega)
          refine T_zif_ne xr_194_28 (t := 33) (pc' := 31) rfl rfl (fun c2504 => ?_) (fun c2504 => ?_)
          · skip
            have c2504 : ¬ (dn m) = 0 := c2504
            refine T_ziinc xr_194_33 xn_194 (a := m) (z := m + 1) rfl (Nat.le_of_ble_eq_true rfl) (by omega) (ls' := [(2, .int (iI (m + 1))), (1, .int (iI n)), (0, .ref 530)]) rfl (pc' := 36) rfl ?_
            refine T_p xr_194_36 xn_194 (pc' := 4) (ls' := [(2, .int (iI (m + 1))), (1, .int (iI n)), (0, .ref 530)]) (st' := []) rfl ?_
            exact ih2498 (m + 1)  (by omega) (fun m1 h1 h2 h3 => by
                  by_cases hh : m1 = m
                  · rw [hh] at h3 ⊢; omega
                  · exact hno m1 h1 (by omega) h3) (by omega)
          · skip
            have c2504 : ¬ (¬ (dn m) = 0) := c2504
            refine T_p xr_194_31 xn_194 (pc' := 32) (ls' := [(2, .int (iI m)), (1, .int (iI n)), (0, .ref 530)]) (st' := [.int (iI m)]) rfl ?_
            refine T_iret xr_194_32 xf_194.2.2 rfl ?_
            refine hQ _ _ ?_
            exact Or.inr ⟨m, rfl, (by omega), (by omega), (by omega), hno, rfl⟩
  refine T_sub (ls := [(2, .int (iI (n + 1))), (1, .int (iI n)), (0, .ref 530)]) ⟨rfl, rfl, rfl, trivial⟩ rfl rfl ?_
  exact L2497 (nc + 1).toNat (n + 1)  (by omega) (fun m1 h1 h2 => absurd h2 (by omega)) (by omega)
set_option maxHeartbeats 1600000 in
theorem r_value (sc : X_Sc) (S : X_S) (wS : Int → Int) (sO : Int → Int) (sN : Int → Int) (tU : Int → Int) (nW : Int → Int) (nF : Int → Int) (nL : Int → Int) (nP : Int → Int) (nH : Int → Int) (bo : Int → Int) (va : Int → Int) (vs : Int → Int) (pl : Int → Int) (hv : Int → Int) (o : Nat → Int) (nm : Int64) (b : Int) (rc : Int) (G : X_G) (tn : Int) (nc : Int) (N : Int → Int → Int) (n : Int) (V : Int → Int) (hO530 : S.1 530 = .inr (11, [.ref 531, .int (iI (o 1)), .ref 532, .int (iI (o 3)), .int (iI b), .int (iI (o 5)), .int (iI (o 6)), .int (iI (o 7)), .int (iI (o 8)), .int (iI (o 9)), .int (iI (o 10)), .int (iI (o 11)), .long nm, .ref 533, .ref 534, .ref 535, .ref 536, .ref 537, .ref 538, .ref 539, .ref 540, .ref 541, .ref 542, .ref 543, .ref 544, .ref 545, .ref 546, .ref 547, .int (iI rc), .int (iI (gk G)), .int (iI (gw G)), .int (iI (o 31)), .int (iI (o 32)), .int (iI (o 33)), .ref 548, .ref 549, .ref 550, .ref 551, .int (iI tn), .ref 552, .ref 553, .ref 554, .ref 555, .ref 556, .ref 557, .ref 558, .ref 559, .ref 560, .ref 561, .int (iI nc), .ref 562, .ref 563, .ref 564, .ref 565, .ref 566, .ref 567, .ref 568, .ref 569, .int (iI (o 58)), .ref 570, .ref 571, .ref 572, .ref 573, .ref 574, .ref 575, .ref 576, .ref 577, .ref 578, .int (iI (o 68)), .int (iI (o 69)), .int (iI (o 70)), .ref 579])) (hA542 : S.1 542 = .inl (.int, 60, .inl fun k : Nat => iI (wS (k : Int)))) (hA543 : S.1 543 = .inl (.int, 1800, .inl fun k : Nat => iI (sO (k : Int)))) (hA544 : S.1 544 = .inl (.int, 1800, .inl fun k : Nat => iI (sN (k : Int)))) (hA550 : S.1 550 = .inl (.int, 30, .inl fun k : Nat => iI (tU (k : Int)))) (hA557 : S.1 557 = .inl (.int, 40, .inl fun k : Nat => iI (nW (k : Int)))) (hA558 : S.1 558 = .inl (.int, 40, .inl fun k : Nat => iI (nF (k : Int)))) (hA559 : S.1 559 = .inl (.int, 40, .inl fun k : Nat => iI (nL (k : Int)))) (hA560 : S.1 560 = .inl (.int, 40, .inl fun k : Nat => iI (nP (k : Int)))) (hA561 : S.1 561 = .inl (.int, 40, .inl fun k : Nat => iI (nH (k : Int)))) (hA574 : S.1 574 = .inl (.boolean, 30, .inl fun k : Nat => iI (bo (k : Int)))) (hA575 : S.1 575 = .inl (.int, 30, .inl fun k : Nat => iI (va (k : Int)))) (hA576 : S.1 576 = .inl (.int, 40, .inl fun k : Nat => iI (vs (k : Int)))) (hA577 : S.1 577 = .inl (.int, 18, .inl fun k : Nat => iI (pl (k : Int)))) (hA578 : S.1 578 = .inl (.int, 4, .inl fun k : Nat => iI (hv (k : Int)))) (hbr : 0 ≤ b ∧ b ≤ 1) (hG : X_Gok G) (hGs : X_Gst G) (hTU : ∀ t, 0 ≤ t → t < tn → tU t = X_nv (gt G t)) (hWS : ∀ w, 0 ≤ w → w < gw G → wS (30 * b + w) = gD G w 5 0) (hST : ∀ w, 0 ≤ w → w < gw G → ∀ k, 0 ≤ k → k < gD G w 5 0 → sO (30 * (30 * b + w) + k) = X_op (gD G w 12 k) ∧ (gD G w 12 k = 4 → sN (30 * (30 * b + w) + k) = gD G w 13 k) ∧ (gD G w 12 k = 64 → sN (30 * (30 * b + w) + k) = gD G w 13 k - 1)) (hbo : ∀ w, 0 ≤ w → w < gw G → (bo w = gD G w 6 0 ∧ (gD G w 6 0 = 1 → va w = gD G w 7 0)) ∧ 0 ≤ gD G w 6 0 ∧ gD G w 6 0 ≤ 1) (hR : X_Rok G tn nc N) (hn : 0 ≤ n ∧ n < nc) (hnd : R_nd nc N nW nF nL nP nH) (hV : ∀ h, 0 ≤ h → h < 4 → ¬ X_lc N n h nc.toNat = -1 → vs (X_lc N n h nc.toNat) = V (X_lc N n h nc.toNat)) : X_T sc 196 (0, [(0, .ref 530), (1, .int (iI n))], [], S) (fun v S' => ∃ (vs1 : Int → Int) (pl1 : Int → Int) (hv1 : Int → Int), v = some (.int (iI ((X_ev G (fun w => gD G w 6 0) (fun w => gD G w 7 0) N nc V n).1))) ∧ ((X_ev G (fun w => gD G w 6 0) (fun w => gD G w 7 0) N nc V n).1 = 0 → vs1 n = (X_ev G (fun w => gD G w 6 0) (fun w => gD G w 7 0) N nc V n).2) ∧ (∀ m, ¬ m = n → vs1 m = vs m) ∧ S'.1 576 = .inl (.int, 40, .inl fun k : Nat => iI (vs1 (k : Int))) ∧ S'.1 577 = .inl (.int, 18, .inl fun k : Nat => iI (pl1 (k : Int))) ∧ S'.1 578 = .inl (.int, 4, .inl fun k : Nat => iI (hv1 (k : Int))) ∧ (X_Fr (fun q => q = 576 ∨ q = 577 ∨ q = 578) S S')) := by
  have hRn := hR.1
  have t0 := hR.2.1
  have hc1 := hG.1
  have hR4 := hR.2.2.2.2.1 n hn.1 hn.2
  have hN0 := (hnd n hn.1 hn.2).1
  have hN1 := (hnd n hn.1 hn.2).2.1
  have hN0r := hR4.1
  refine X_QI (fun Q hQ => ?_)
  refine T_p xr_196_0 xn_196 (pc' := 1) (ls' := [(0, .ref 530), (1, .int (iI n))]) (st' := [.ref 530]) rfl ?_
  refine T_get xr_196_1 hO530 rfl (v := .ref 557) rfl (pc' := 4) rfl ?_
  refine T_p xr_196_4 xn_196 (pc' := 5) (ls' := [(0, .ref 530), (1, .int (iI n))]) (st' := [.int (iI n), .ref 557]) rfl ?_
  refine T_ziald xr_196_5 hA557 (pc' := 6) rfl ?_
  refine T_ie (y := iI (N 0 n)) (by rw [hN0]) ?_
  refine T_p xr_196_6 xn_196 (pc' := 7) (ls' := [(2, .int (iI (N 0 n))), (0, .ref 530), (1, .int (iI n))]) (st' := []) rfl ?_
  refine T_p xr_196_7 xn_196 (pc' := 8) (ls' := [(2, .int (iI (N 0 n))), (0, .ref 530), (1, .int (iI n))]) (st' := [.int (iI (N 0 n))]) rfl ?_
  refine T_p xr_196_8 xn_196 (pc' := 10) (ls' := [(2, .int (iI (N 0 n))), (0, .ref 530), (1, .int (iI n))]) (st' := [.int (iI (-2)), .int (iI (N 0 n))]) rfl ?_
  refine T_zicmp_ne xr_196_10 (t := 32) (pc' := 13) rfl rfl (fun c2505 => ?_) (fun c2505 => ?_)
  · skip
    have c2505 : ¬ (N 0 n) = (-2) := c2505
    refine T_p xr_196_32 xn_196 (pc' := 33) (ls' := [(2, .int (iI (N 0 n))), (0, .ref 530), (1, .int (iI n))]) (st' := [.int (iI (N 0 n))]) rfl ?_
    refine T_p xr_196_33 xn_196 (pc' := 35) (ls' := [(2, .int (iI (N 0 n))), (0, .ref 530), (1, .int (iI n))]) (st' := [.int (iI (-3)), .int (iI (N 0 n))]) rfl ?_
    refine T_zicmp_ne xr_196_35 (t := 54) (pc' := 38) rfl rfl (fun c2506 => ?_) (fun c2506 => ?_)
    · skip
      have c2506 : ¬ (N 0 n) = (-3) := c2506
      have hwn : 0 ≤ N 0 n ∧ N 0 n < gw G := by omega
      have hgn := hG.2.2.2 (N 0 n) hwn.1 hwn.2
      have hgh := hgn.2.1
      have hst : gD G (N 0 n) 5 0 = -1 ∨ (0 ≤ gD G (N 0 n) 5 0 ∧ gD G (N 0 n) 5 0 ≤ 30) := by
        rcases hGs (N 0 n) hwn.1 hwn.2 with h | h
        · exact Or.inl h
        · exact Or.inr ⟨h.1.1, h.2.1⟩
      have hbn := hbo (N 0 n) hwn.1 hwn.2
      refine T_p xr_196_54 xn_196 (pc' := 55) (ls' := [(2, .int (iI (N 0 n))), (0, .ref 530), (1, .int (iI n))]) (st' := [.int (iI n)]) rfl ?_
      refine T_p xr_196_55 xn_196 (pc' := 56) (ls' := [(2, .int (iI (N 0 n))), (0, .ref 530), (1, .int (iI n))]) (st' := [.int (iI 1), .int (iI n)]) rfl ?_
      refine T_ziadd xr_196_56 (z := n + 1) rfl (pc' := 57) rfl ?_
      refine T_p xr_196_57 xn_196 (pc' := 58) (ls' := [(3, .int (iI (n + 1))), (2, .int (iI (N 0 n))), (0, .ref 530), (1, .int (iI n))]) (st' := []) rfl ?_
      have L2507 : ∀ (m2509 : Nat) (S2512 : X_S) (m : Int) (hv1 : Int → Int) (hhv1 : S2512.1 578 = .inl (.int, 4, .inl fun k : Nat => iI (hv1 (k : Int)))) (hF2511 : X_Fr (fun q => q = 578) S S2512) (hm : n + 1 ≤ m ∧ m ≤ nc) (hlc : ∀ h, 0 ≤ h → h < 4 → ¬ X_lc N n h m.toNat = -1 → hv1 h = vs (X_lc N n h m.toNat)) (hm2510 : nc - m < m2509), X_T sc 196 (58, [(3, .int (iI m)), (2, .int (iI (N 0 n))), (1, .int (iI n)), (0, .ref 530)], [], S2512) Q := by
        intro m2509
        induction m2509 with
        | zero =>
          intro S2512 m hv1 hhv1 hF2511 hm hlc hm2510
          exact (show False by omega).elim
        | succ m2509 ih2508 =>
          intro S2512 m hv1 hhv1 hF2511 hm hlc hm2510
          refine T_p xr_196_58 xn_196 (pc' := 59) (ls' := [(3, .int (iI m)), (2, .int (iI (N 0 n))), (1, .int (iI n)), (0, .ref 530)]) (st' := [.int (iI m)]) rfl ?_
          refine T_p xr_196_59 xn_196 (pc' := 60) (ls' := [(3, .int (iI m)), (2, .int (iI (N 0 n))), (1, .int (iI n)), (0, .ref 530)]) (st' := [.ref 530, .int (iI m)]) rfl ?_
          have h2513 := (hF2511.1 530 (by first | decide | omega)).trans (hO530)
          refine T_get xr_196_60 h2513 rfl (v := .int (iI nc)) rfl (pc' := 63) rfl ?_
          refine T_zicmp_ge xr_196_63 (t := 99) (pc' := 66) rfl rfl (fun c2514 => ?_) (fun c2514 => ?_)
          · skip
            have c2514 : nc ≤ m := c2514
            refine T_p xr_196_99 xn_196 (pc' := 101) (ls' := [(3, .int (iI m)), (2, .int (iI (N 0 n))), (1, .int (iI n)), (0, .ref 530)]) (st' := [.int (iI 30)]) rfl ?_
            refine T_p xr_196_101 xn_196 (pc' := 102) (ls' := [(3, .int (iI m)), (2, .int (iI (N 0 n))), (1, .int (iI n)), (0, .ref 530)]) (st' := [.ref 530, .int (iI 30)]) rfl ?_
            refine T_get xr_196_102 h2513 rfl (v := .int (iI b)) rfl (pc' := 105) rfl ?_
            refine T_zimul xr_196_105 (z := 30 * b) rfl (pc' := 106) rfl ?_
            refine T_p xr_196_106 xn_196 (pc' := 107) (ls' := [(3, .int (iI m)), (2, .int (iI (N 0 n))), (1, .int (iI n)), (0, .ref 530)]) (st' := [.int (iI (N 0 n)), .int (iI (30 * b))]) rfl ?_
            refine T_ziadd xr_196_107 (z := (30 * b) + (N 0 n)) rfl (pc' := 108) rfl ?_
            refine T_p xr_196_108 xn_196 (pc' := 109) (ls' := [(3, .int (iI ((30 * b) + (N 0 n)))), (2, .int (iI (N 0 n))), (1, .int (iI n)), (0, .ref 530)]) (st' := []) rfl ?_
            refine T_p xr_196_109 xn_196 (pc' := 110) (ls' := [(3, .int (iI ((30 * b) + (N 0 n)))), (2, .int (iI (N 0 n))), (1, .int (iI n)), (0, .ref 530)]) (st' := [.ref 530]) rfl ?_
            refine T_get xr_196_110 h2513 rfl (v := .ref 542) rfl (pc' := 113) rfl ?_
            refine T_p xr_196_113 xn_196 (pc' := 114) (ls' := [(3, .int (iI ((30 * b) + (N 0 n)))), (2, .int (iI (N 0 n))), (1, .int (iI n)), (0, .ref 530)]) (st' := [.int (iI ((30 * b) + (N 0 n))), .ref 542]) rfl ?_
            have h2515 := (hF2511.1 542 (by first | decide | omega)).trans (hA542)
            refine T_ziald xr_196_114 h2515 (pc' := 115) rfl ?_
            refine T_ie (y := iI (gD G (N 0 n) 5 0)) (by rw [hWS (N 0 n) hwn.1 hwn.2]) ?_
            refine T_zif_lt xr_196_115 (t := 125) (pc' := 118) rfl rfl (fun c2516 => ?_) (fun c2516 => ?_)
            · skip
              have c2516 : (gD G (N 0 n) 5 0) < 0 := c2516
              refine T_p xr_196_125 xn_196 (pc' := 126) (ls' := [(3, .int (iI ((30 * b) + (N 0 n)))), (2, .int (iI (N 0 n))), (1, .int (iI n)), (0, .ref 530)]) (st' := [.ref 530]) rfl ?_
              refine T_get xr_196_126 h2513 rfl (v := .ref 574) rfl (pc' := 129) rfl ?_
              refine T_p xr_196_129 xn_196 (pc' := 130) (ls' := [(3, .int (iI ((30 * b) + (N 0 n)))), (2, .int (iI (N 0 n))), (1, .int (iI n)), (0, .ref 530)]) (st' := [.int (iI (N 0 n)), .ref 574]) rfl ?_
              have h2517 := (hF2511.1 574 (by first | decide | omega)).trans (hA574)
              refine T_zzald xr_196_130 h2517 (pc' := 131) rfl ?_
              refine T_ie (y := iI (gD G (N 0 n) 6 0)) (by rw [hbn.1.1]) ?_
              refine T_zif_ne xr_196_131 (t := 136) (pc' := 134) rfl rfl (fun c2518 => ?_) (fun c2518 => ?_)
              · skip
                have c2518 : ¬ (gD G (N 0 n) 6 0) = 0 := c2518
                refine T_p xr_196_136 xn_196 (pc' := 137) (ls' := [(3, .int (iI ((30 * b) + (N 0 n)))), (2, .int (iI (N 0 n))), (1, .int (iI n)), (0, .ref 530)]) (st' := [.ref 530]) rfl ?_
                refine T_get xr_196_137 h2513 rfl (v := .ref 576) rfl (pc' := 140) rfl ?_
                refine T_p xr_196_140 xn_196 (pc' := 141) (ls' := [(3, .int (iI ((30 * b) + (N 0 n)))), (2, .int (iI (N 0 n))), (1, .int (iI n)), (0, .ref 530)]) (st' := [.int (iI n), .ref 576]) rfl ?_
                refine T_p xr_196_141 xn_196 (pc' := 142) (ls' := [(3, .int (iI ((30 * b) + (N 0 n)))), (2, .int (iI (N 0 n))), (1, .int (iI n)), (0, .ref 530)]) (st' := [.ref 530, .int (iI n), .ref 576]) rfl ?_
                refine T_get xr_196_142 h2513 rfl (v := .ref 575) rfl (pc' := 145) rfl ?_
                refine T_p xr_196_145 xn_196 (pc' := 146) (ls' := [(3, .int (iI ((30 * b) + (N 0 n)))), (2, .int (iI (N 0 n))), (1, .int (iI n)), (0, .ref 530)]) (st' := [.int (iI (N 0 n)), .ref 575, .int (iI n), .ref 576]) rfl ?_
                have h2519 := (hF2511.1 575 (by first | decide | omega)).trans (hA575)
                refine T_ziald xr_196_146 h2519 (pc' := 147) rfl ?_
                refine T_ie (y := iI (gD G (N 0 n) 7 0)) (by rw [hbn.1.2 (by omega)]) ?_
                have h2520 := (hF2511.1 576 (by first | decide | omega)).trans (hA576)
                refine T_ziast xr_196_147 h2520 (pc' := 148) rfl (fun S2521 h2522 n2523 e2524 => ?_)
                refine T_p xr_196_148 xn_196 (pc' := 149) (ls' := [(3, .int (iI ((30 * b) + (N 0 n)))), (2, .int (iI (N 0 n))), (1, .int (iI n)), (0, .ref 530)]) (st' := [.int (iI 0)]) rfl ?_
                refine T_iret xr_196_149 xf_196.2.2 rfl ?_
                refine hQ _ _ ?_
                have h2525 := (n2523 577 (by decide)).trans ((hF2511.1 577 (by first | decide | omega)).trans (hA577))
                have h2526 := (n2523 578 (by decide)).trans (hhv1)
                have hev2527 : (X_ev G (fun w => gD G w 6 0) (fun w => gD G w 7 0) N nc V n) = (0, gD G (N 0 n) 7 0) := (X_ev_v hwn.1 (by omega)).trans (by first | rw [if_pos (show gD G (N 0 n) 6 0 = 1 by omega)] | rw [if_neg (show ¬ gD G (N 0 n) 6 0 = 1 by omega)])
                exact ⟨(X_ug vs n (gD G (N 0 n) 7 0)), pl, hv1, (by rw [hev2527]), (fun _ => by rw [hev2527]; exact X_ug_s _ _ _), (fun m hm => X_ug_n _ _ hm), h2522, h2525, h2526, ((X_Fr.rf).tr (X_Fr.mono ⟨hF2511.1, hF2511.2⟩ (fun q hq => by first | exact hq | (rcases hq with rfl <;> decide) | (rcases hq with rfl | rfl <;> decide) | (rcases hq with rfl | rfl | rfl <;> decide) | (rcases hq with rfl | rfl | rfl | rfl <;> decide) | (rcases hq with rfl | rfl | rfl | rfl | rfl <;> decide) | (rcases hq with rfl | rfl | rfl | rfl | rfl | rfl <;> decide) | (rcases hq with rfl | rfl | rfl | rfl | rfl | rfl | rfl <;> decide) | omega))).tr (X_Fr.of n2523 e2524 (by first | decide | exact ⟨Nat.le_add_right _ _, Nat.add_le_add_left (by decide) _⟩ | omega))⟩
              · skip
                have c2518 : ¬ (¬ (gD G (N 0 n) 6 0) = 0) := c2518
                refine T_p xr_196_134 xn_196 (pc' := 135) (ls' := [(3, .int (iI ((30 * b) + (N 0 n)))), (2, .int (iI (N 0 n))), (1, .int (iI n)), (0, .ref 530)]) (st' := [.int (iI 2)]) rfl ?_
                refine T_iret xr_196_135 xf_196.2.2 rfl ?_
                refine hQ _ _ ?_
                have h2528 := (hF2511.1 576 (by first | decide | omega)).trans (hA576)
                have h2529 := (hF2511.1 577 (by first | decide | omega)).trans (hA577)
                have hev2530 : (X_ev G (fun w => gD G w 6 0) (fun w => gD G w 7 0) N nc V n) = (2, 0) := (X_ev_v hwn.1 (by omega)).trans (by first | rw [if_pos (show gD G (N 0 n) 6 0 = 1 by omega)] | rw [if_neg (show ¬ gD G (N 0 n) 6 0 = 1 by omega)])
                exact ⟨vs, pl, hv1, (by rw [hev2530]), (fun z => absurd (show (2 : Int) = 0 by rw [hev2530] at z; exact z) (by omega)), (fun m _ => rfl), h2528, h2529, hhv1, (X_Fr.rf).tr (X_Fr.mono ⟨hF2511.1, hF2511.2⟩ (fun q hq => by first | exact hq | (rcases hq with rfl <;> decide) | (rcases hq with rfl | rfl <;> decide) | (rcases hq with rfl | rfl | rfl <;> decide) | (rcases hq with rfl | rfl | rfl | rfl <;> decide) | (rcases hq with rfl | rfl | rfl | rfl | rfl <;> decide) | (rcases hq with rfl | rfl | rfl | rfl | rfl | rfl <;> decide) | (rcases hq with rfl | rfl | rfl | rfl | rfl | rfl | rfl <;> decide) | omega))⟩
            · skip
              have c2516 : ¬ ((gD G (N 0 n) 5 0) < 0) := c2516
              have hsk := (hGs (N 0 n) hwn.1 hwn.2).resolve_left (by omega)
              have hcv : ∀ h, 0 ≤ h → h < gD G (N 0 n) 4 0 → hv1 h = (fun h => V (X_lc N n h nc.toNat)) h := fun h g1 g2 => by
                have hc := hR.2.2.2.2.2.1 n hn.1 hn.2 hwn.1 h g1 g2
                have hm2 := hlc h g1 (by omega)
                rw [show m = nc by omega] at hm2
                rw [hm2 hc]
                exact hV h g1 (by omega) hc
              refine T_p xr_196_118 xn_196 (pc' := 119) (ls' := [(3, .int (iI ((30 * b) + (N 0 n)))), (2, .int (iI (N 0 n))), (1, .int (iI n)), (0, .ref 530)]) (st' := [.ref 530]) rfl ?_
              refine T_p xr_196_119 xn_196 (pc' := 120) (ls' := [(3, .int (iI ((30 * b) + (N 0 n)))), (2, .int (iI (N 0 n))), (1, .int (iI n)), (0, .ref 530)]) (st' := [.int (iI ((30 * b) + (N 0 n))), .ref 530]) rfl ?_
              refine T_p xr_196_120 xn_196 (pc' := 121) (ls' := [(3, .int (iI ((30 * b) + (N 0 n)))), (2, .int (iI (N 0 n))), (1, .int (iI n)), (0, .ref 530)]) (st' := [.int (iI n), .int (iI ((30 * b) + (N 0 n))), .ref 530]) rfl ?_
              refine T_cv (S := S2512) (q := 530) xr_196_121 xf_197.1 xf_197.2.1 xn_197 (as := [.int (iI ((30 * b) + (N 0 n))), .int (iI n)]) (r := []) rfl h2513 (Nat.le_of_ble_eq_true rfl) (Nat.le_of_ble_eq_true rfl) (pc' := 124) rfl (ls' := [(0, .ref 530), (1, .int (iI ((30 * b) + (N 0 n)))), (2, .int (iI n))]) rfl ?_
              have h2531 := (hF2511.1 543 (by first | decide | omega)).trans (hA543)
              have h2532 := (hF2511.1 544 (by first | decide | omega)).trans (hA544)
              have h2533 := (hF2511.1 576 (by first | decide | omega)).trans (hA576)
              have h2534 := (hF2511.1 577 (by first | decide | omega)).trans (hA577)
              refine T_mono (r_steps sc S2512 wS sO sN vs pl hv1 (X_ou o 49 nc) nm b rc G tn (N 0 n) n (fun h => V (X_lc N n h nc.toNat)) h2513 h2515 h2531 h2532 h2533 h2534 hhv1 (by omega) hWS hST (by omega) hsk (by omega) hcv (by omega)) (fun v2535 S2536 h2537 => ?_)
              rcases h2537 with ⟨pl2538, hv2539, hp2540, ha2541, hf2542⟩ | ⟨pl2543, rr2544, hv2545, hp2546, ha2547, ha2548, hf2549⟩
              · skip
                rw [hv2539]
                show X_T sc 196 (124, [(3, .int (iI ((30 * b) + (N 0 n)))), (2, .int (iI (N 0 n))), (1, .int (iI n)), (0, .ref 530)], [.int (iI 1)], S2536) _
                refine T_iret xr_196_124 xf_196.2.2 rfl ?_
                refine hQ _ _ ?_
                have h2550 := (hf2542.1 576 (by first | decide | omega)).trans (h2533)
                have h2551 := (hf2542.1 578 (by first | decide | omega)).trans (hhv1)
                have hev2552 : (X_ev G (fun w => gD G w 6 0) (fun w => gD G w 7 0) N nc V n) = (1, 0) := X_ev_s1 hwn.1 (by omega) hp2540
                exact ⟨vs, pl2538, hv1, (by rw [hev2552]), (fun z => absurd (show (1 : Int) = 0 by rw [hev2552] at z; exact z) (by omega)), (fun m _ => rfl), h2550, ha2541, h2551, ((X_Fr.rf).tr (X_Fr.mono ⟨hF2511.1, hF2511.2⟩ (fun q hq => by first | exact hq | (rcases hq with rfl <;> decide) | (rcases hq with rfl | rfl <;> decide) | (rcases hq with rfl | rfl | rfl <;> decide) | (rcases hq with rfl | rfl | rfl | rfl <;> decide) | (rcases hq with rfl | rfl | rfl | rfl | rfl <;> decide) | (rcases hq with rfl | rfl | rfl | rfl | rfl | rfl <;> decide) | (rcases hq with rfl | rfl | rfl | rfl | rfl | rfl | rfl <;> decide) | omega))).tr (X_Fr.mono ⟨hf2542.1, hf2542.2⟩ (fun q hq => by first | exact hq | (rcases hq with rfl <;> decide) | (rcases hq with rfl | rfl <;> decide) | (rcases hq with rfl | rfl | rfl <;> decide) | (rcases hq with rfl | rfl | rfl | rfl <;> decide) | (rcases hq with rfl | rfl | rfl | rfl | rfl <;> decide) | (rcases hq with rfl | rfl | rfl | rfl | rfl | rfl <;> decide) | (rcases hq with rfl | rfl | rfl | rfl | rfl | rfl | rfl <;> decide) | omega))⟩
              · skip
                rw [hv2545]
                show X_T sc 196 (124, [(3, .int (iI ((30 * b) + (N 0 n)))), (2, .int (iI (N 0 n))), (1, .int (iI n)), (0, .ref 530)], [.int (iI 0)], S2536) _
                refine T_iret xr_196_124 xf_196.2.2 rfl ?_
                refine hQ _ _ ?_
                have h2553 := (hf2549.1 578 (by first | decide | omega)).trans (hhv1)
                have hev2554 : (X_ev G (fun w => gD G w 6 0) (fun w => gD G w 7 0) N nc V n) = (0, rr2544.2 0) := X_ev_s0 hwn.1 (by omega) hp2546
                exact ⟨(X_ug vs n (rr2544.2 0)), pl2543, hv1, (by rw [hev2554]), (fun _ => by rw [hev2554]; exact X_ug_s _ _ _), (fun m hm => X_ug_n _ _ hm), ha2547, ha2548, h2553, ((X_Fr.rf).tr (X_Fr.mono ⟨hF2511.1, hF2511.2⟩ (fun q hq => by first | exact hq | (rcases hq with rfl <;> decide) | (rcases hq with rfl | rfl <;> decide) | (rcases hq with rfl | rfl | rfl <;> decide) | (rcases hq with rfl | rfl | rfl | rfl <;> decide) | (rcases hq with rfl | rfl | rfl | rfl | rfl <;> decide) | (rcases hq with rfl | rfl | rfl | rfl | rfl | rfl <;> decide) | (rcases hq with rfl | rfl | rfl | rfl | rfl | rfl | rfl <;> decide) | omega))).tr (X_Fr.mono ⟨hf2549.1, hf2549.2⟩ (fun q hq => by first | exact hq | (rcases hq with rfl <;> decide) | (rcases hq with rfl | rfl <;> decide) | (rcases hq with rfl | rfl | rfl <;> decide) | (rcases hq with rfl | rfl | rfl | rfl <;> decide) | (rcases hq with rfl | rfl | rfl | rfl | rfl <;> decide) | (rcases hq with rfl | rfl | rfl | rfl | rfl | rfl <;> decide) | (rcases hq with rfl | rfl | rfl | rfl | rfl | rfl | rfl <;> decide) | omega))⟩
          · skip
            have c2514 : ¬ (nc ≤ m) := c2514
            have htm := t0 m (by omega) (by omega)
            have hnm := hnd m (by omega) (by omega)
            have hRm := hR.2.2.2.2.1 m (by omega) (by omega)
            refine T_p xr_196_66 xn_196 (pc' := 67) (ls' := [(3, .int (iI m)), (2, .int (iI (N 0 n))), (1, .int (iI n)), (0, .ref 530)]) (st' := [.ref 530]) rfl ?_
            refine T_get xr_196_67 h2513 rfl (v := .ref 560) rfl (pc' := 70) rfl ?_
            refine T_p xr_196_70 xn_196 (pc' := 71) (ls' := [(3, .int (iI m)), (2, .int (iI (N 0 n))), (1, .int (iI n)), (0, .ref 530)]) (st' := [.int (iI m), .ref 560]) rfl ?_
            have h2555 := (hF2511.1 560 (by first | decide | omega)).trans (hA560)
            refine T_ziald xr_196_71 h2555 (pc' := 72) rfl ?_
            refine T_ie (y := iI (N 3 m)) (by rw [hnm.2.2.2.1]) ?_
            refine T_p xr_196_72 xn_196 (pc' := 73) (ls' := [(3, .int (iI m)), (2, .int (iI (N 0 n))), (1, .int (iI n)), (0, .ref 530)]) (st' := [.int (iI n), .int (iI (N 3 m))]) rfl ?_
            refine T_zicmp_ne xr_196_73 (t := 93) (pc' := 76) rfl rfl (fun c2556 => ?_) (fun c2556 => ?_)
            · skip
              have c2556 : ¬ (N 3 m) = n := c2556
              refine T_ziinc xr_196_93 xn_196 (a := m) (z := m + 1) rfl (Nat.le_of_ble_eq_true rfl) (by omega) (ls' := [(3, .int (iI (m + 1))), (2, .int (iI (N 0 n))), (1, .int (iI n)), (0, .ref 530)]) rfl (pc' := 96) rfl ?_
              refine T_p xr_196_96 xn_196 (pc' := 58) (ls' := [(3, .int (iI (m + 1))), (2, .int (iI (N 0 n))), (1, .int (iI n)), (0, .ref 530)]) (st' := []) rfl ?_
              exact ih2508 S2512 (m + 1) hv1 hhv1 (hF2511.tr (X_Fr.rf)) (by omega) (fun h h1 h2 h3 => by
                    rw [X_lc_s (show 0 ≤ m by omega)] at h3 ⊢
                    by_cases hc : N 3 m = n ∧ N 4 m = h
                    · rw [if_pos hc]; first | (rw [hc.2, X_ug_s]) | (exfalso; exact absurd hc.1 (by assumption))
                    · rw [if_neg hc] at h3 ⊢; first | (rw [X_ug_n _ _ (fun z => hc ⟨by omega, by omega⟩)]; exact hlc h h1 h2 h3) | exact hlc h h1 h2 h3) (by omega)
            · skip
              have c2556 : ¬ (¬ (N 3 m) = n) := c2556
              refine T_p xr_196_76 xn_196 (pc' := 77) (ls' := [(3, .int (iI m)), (2, .int (iI (N 0 n))), (1, .int (iI n)), (0, .ref 530)]) (st' := [.ref 530]) rfl ?_
              refine T_get xr_196_77 h2513 rfl (v := .ref 578) rfl (pc' := 80) rfl ?_
              refine T_p xr_196_80 xn_196 (pc' := 81) (ls' := [(3, .int (iI m)), (2, .int (iI (N 0 n))), (1, .int (iI n)), (0, .ref 530)]) (st' := [.ref 530, .ref 578]) rfl ?_
              refine T_get xr_196_81 h2513 rfl (v := .ref 561) rfl (pc' := 84) rfl ?_
              refine T_p xr_196_84 xn_196 (pc' := 85) (ls' := [(3, .int (iI m)), (2, .int (iI (N 0 n))), (1, .int (iI n)), (0, .ref 530)]) (st' := [.int (iI m), .ref 561, .ref 578]) rfl ?_
              have h2557 := (hF2511.1 561 (by first | decide | omega)).trans (hA561)
              refine T_ziald xr_196_85 h2557 (pc' := 86) rfl ?_
              refine T_ie (y := iI (N 4 m)) (by rw [hnm.2.2.2.2]) ?_
              refine T_p xr_196_86 xn_196 (pc' := 87) (ls' := [(3, .int (iI m)), (2, .int (iI (N 0 n))), (1, .int (iI n)), (0, .ref 530)]) (st' := [.ref 530, .int (iI (N 4 m)), .ref 578]) rfl ?_
              refine T_get xr_196_87 h2513 rfl (v := .ref 576) rfl (pc' := 90) rfl ?_
              refine T_p xr_196_90 xn_196 (pc' := 91) (ls' := [(3, .int (iI m)), (2, .int (iI (N 0 n))), (1, .int (iI n)), (0, .ref 530)]) (st' := [.int (iI m), .ref 576, .int (iI (N 4 m)), .ref 578]) rfl ?_
              have h2558 := (hF2511.1 576 (by first | decide | omega)).trans (hA576)
              refine T_ziald xr_196_91 h2558 (pc' := 92) rfl ?_
              refine T_ziast xr_196_92 hhv1 (pc' := 93) rfl (fun S2559 h2560 n2561 e2562 => ?_)
              refine T_ziinc xr_196_93 xn_196 (a := m) (z := m + 1) rfl (Nat.le_of_ble_eq_true rfl) (by omega) (ls' := [(3, .int (iI (m + 1))), (2, .int (iI (N 0 n))), (1, .int (iI n)), (0, .ref 530)]) rfl (pc' := 96) rfl ?_
              refine T_p xr_196_96 xn_196 (pc' := 58) (ls' := [(3, .int (iI (m + 1))), (2, .int (iI (N 0 n))), (1, .int (iI n)), (0, .ref 530)]) (st' := []) rfl ?_
              exact ih2508 S2559 (m + 1) (X_ug hv1 (N 4 m) (vs m)) h2560 (hF2511.tr ((X_Fr.rf).tr (X_Fr.of n2561 e2562 (by first | decide | exact ⟨Nat.le_add_right _ _, Nat.add_le_add_left (by decide) _⟩ | omega)))) (by omega) (fun h h1 h2 h3 => by
                    rw [X_lc_s (show 0 ≤ m by omega)] at h3 ⊢
                    by_cases hc : N 3 m = n ∧ N 4 m = h
                    · rw [if_pos hc]; first | (rw [hc.2, X_ug_s]) | (exfalso; exact absurd hc.1 (by assumption))
                    · rw [if_neg hc] at h3 ⊢; first | (rw [X_ug_n _ _ (fun z => hc ⟨by omega, by omega⟩)]; exact hlc h h1 h2 h3) | exact hlc h h1 h2 h3) (by omega)
      refine T_sub (ls := [(3, .int (iI (n + 1))), (2, .int (iI (N 0 n))), (1, .int (iI n)), (0, .ref 530)]) ⟨rfl, rfl, rfl, rfl, trivial⟩ rfl rfl ?_
      exact L2507 (nc + 1).toNat S (n + 1) hv hA578 ((X_Fr.rf)) (by omega) (fun h h1 h2 h3 => absurd (X_lc_0 t0 hn.1 hn.2) h3) (by omega)
    · skip
      have c2506 : ¬ (¬ (N 0 n) = (-3)) := c2506
      have hb := hR.2.2.2.2.2.2 n hn.1 hn.2 (by omega)
      have hbv := hV 0 (Int.le_refl 0) (by omega) (by omega)
      refine T_p xr_196_38 xn_196 (pc' := 39) (ls' := [(2, .int (iI (N 0 n))), (0, .ref 530), (1, .int (iI n))]) (st' := [.ref 530]) rfl ?_
      refine T_get xr_196_39 hO530 rfl (v := .ref 576) rfl (pc' := 42) rfl ?_
      refine T_p xr_196_42 xn_196 (pc' := 43) (ls' := [(2, .int (iI (N 0 n))), (0, .ref 530), (1, .int (iI n))]) (st' := [.int (iI n), .ref 576]) rfl ?_
      refine T_p xr_196_43 xn_196 (pc' := 44) (ls' := [(2, .int (iI (N 0 n))), (0, .ref 530), (1, .int (iI n))]) (st' := [.ref 530, .int (iI n), .ref 576]) rfl ?_
      refine T_get xr_196_44 hO530 rfl (v := .ref 576) rfl (pc' := 47) rfl ?_
      refine T_p xr_196_47 xn_196 (pc' := 48) (ls' := [(2, .int (iI (N 0 n))), (0, .ref 530), (1, .int (iI n))]) (st' := [.int (iI n), .ref 576, .int (iI n), .ref 576]) rfl ?_
      refine T_p xr_196_48 xn_196 (pc' := 49) (ls' := [(2, .int (iI (N 0 n))), (0, .ref 530), (1, .int (iI n))]) (st' := [.int (iI 1), .int (iI n), .ref 576, .int (iI n), .ref 576]) rfl ?_
      refine T_ziadd xr_196_49 (z := n + 1) rfl (pc' := 50) rfl ?_
      refine T_ziald xr_196_50 hA576 (pc' := 51) rfl ?_
      refine T_ie (y := iI (V (X_lc N n 0 nc.toNat))) (by rw [← hbv, hb.2.1]) ?_
      refine T_ziast xr_196_51 hA576 (pc' := 52) rfl (fun S2563 h2564 n2565 e2566 => ?_)
      refine T_p xr_196_52 xn_196 (pc' := 53) (ls' := [(2, .int (iI (N 0 n))), (0, .ref 530), (1, .int (iI n))]) (st' := [.int (iI 0)]) rfl ?_
      refine T_iret xr_196_53 xf_196.2.2 rfl ?_
      refine hQ _ _ ?_
      have h2567 := (n2565 577 (by decide)).trans (hA577)
      have h2568 := (n2565 578 (by decide)).trans (hA578)
      have hev2569 : (X_ev G (fun w => gD G w 6 0) (fun w => gD G w 7 0) N nc V n) = (0, V (X_lc N n 0 nc.toNat)) := X_ev_b (by omega)
      exact ⟨(X_ug vs n (V (X_lc N n 0 nc.toNat))), pl, hv, (by rw [hev2569]), (fun _ => by rw [hev2569]; exact X_ug_s _ _ _), (fun m hm => X_ug_n _ _ hm), h2564, h2567, h2568, (X_Fr.rf).tr (X_Fr.of n2565 e2566 (by first | decide | exact ⟨Nat.le_add_right _ _, Nat.add_le_add_left (by decide) _⟩ | omega))⟩
  · skip
    have c2505 : ¬ (¬ (N 0 n) = (-2)) := c2505
    refine T_p xr_196_13 xn_196 (pc' := 14) (ls' := [(2, .int (iI (N 0 n))), (0, .ref 530), (1, .int (iI n))]) (st' := [.ref 530]) rfl ?_
    refine T_get xr_196_14 hO530 rfl (v := .ref 576) rfl (pc' := 17) rfl ?_
    refine T_p xr_196_17 xn_196 (pc' := 18) (ls' := [(2, .int (iI (N 0 n))), (0, .ref 530), (1, .int (iI n))]) (st' := [.int (iI n), .ref 576]) rfl ?_
    refine T_p xr_196_18 xn_196 (pc' := 19) (ls' := [(2, .int (iI (N 0 n))), (0, .ref 530), (1, .int (iI n))]) (st' := [.ref 530, .int (iI n), .ref 576]) rfl ?_
    refine T_get xr_196_19 hO530 rfl (v := .ref 550) rfl (pc' := 22) rfl ?_
    refine T_p xr_196_22 xn_196 (pc' := 23) (ls' := [(2, .int (iI (N 0 n))), (0, .ref 530), (1, .int (iI n))]) (st' := [.ref 530, .ref 550, .int (iI n), .ref 576]) rfl ?_
    refine T_get xr_196_23 hO530 rfl (v := .ref 558) rfl (pc' := 26) rfl ?_
    refine T_p xr_196_26 xn_196 (pc' := 27) (ls' := [(2, .int (iI (N 0 n))), (0, .ref 530), (1, .int (iI n))]) (st' := [.int (iI n), .ref 558, .ref 550, .int (iI n), .ref 576]) rfl ?_
    refine T_ziald xr_196_27 hA558 (pc' := 28) rfl ?_
    refine T_ie (y := iI (N 1 n)) (by rw [hN1]) ?_
    refine T_ziald xr_196_28 hA550 (pc' := 29) rfl ?_
    refine T_ie (y := iI (X_nv (gt G (N 1 n)))) (by rw [hTU (N 1 n) (by omega) (by omega)]) ?_
    refine T_ziast xr_196_29 hA576 (pc' := 30) rfl (fun S2570 h2571 n2572 e2573 => ?_)
    refine T_p xr_196_30 xn_196 (pc' := 31) (ls' := [(2, .int (iI (N 0 n))), (0, .ref 530), (1, .int (iI n))]) (st' := [.int (iI 0)]) rfl ?_
    refine T_iret xr_196_31 xf_196.2.2 rfl ?_
    refine hQ _ _ ?_
    have h2574 := (n2572 577 (by decide)).trans (hA577)
    have h2575 := (n2572 578 (by decide)).trans (hA578)
    have hev2576 : (X_ev G (fun w => gD G w 6 0) (fun w => gD G w 7 0) N nc V n) = (0, X_nv (gt G (N 1 n))) := X_ev_n (by omega)
    exact ⟨(X_ug vs n (X_nv (gt G (N 1 n)))), pl, hv, (by rw [hev2576]), (fun _ => by rw [hev2576]; exact X_ug_s _ _ _), (fun m hm => X_ug_n _ _ hm), h2571, h2574, h2575, (X_Fr.rf).tr (X_Fr.of n2572 e2573 (by first | decide | exact ⟨Nat.le_add_right _ _, Nat.add_le_add_left (by decide) _⟩ | omega))⟩
end
section
theorem xr_193_0 : X_row 193 0 = some (0, (.aload_n 0, 1), (0, 0, 0)) := by decide +kernel
theorem xr_193_1 : X_row 193 1 = some (1, (.getfield 317, 3), (11, 49, 98)) := by decide +kernel
theorem xr_193_4 : X_row 193 4 = some (4, (.ifCond .ne 5, 3), (0, 0, 0)) := by decide +kernel
theorem xr_193_7 : X_row 193 7 = some (7, (.iconst (-1), 1), (0, 0, 0)) := by decide +kernel
theorem xr_193_8 : X_row 193 8 = some (8, (.ireturn, 1), (0, 0, 0)) := by decide +kernel
theorem xr_193_9 : X_row 193 9 = some (9, (.aload_n 0, 1), (0, 0, 0)) := by decide +kernel
theorem xr_193_10 : X_row 193 10 = some (10, (.iconst 1, 1), (0, 0, 0)) := by decide +kernel
theorem xr_193_11 : X_row 193 11 = some (11, (.putfield 320, 3), (11, 68, 136)) := by decide +kernel
theorem xr_193_14 : X_row 193 14 = some (14, (.aload_n 0, 1), (0, 0, 0)) := by decide +kernel
theorem xr_193_15 : X_row 193 15 = some (15, (.iconst 0, 1), (0, 0, 0)) := by decide +kernel
theorem xr_193_16 : X_row 193 16 = some (16, (.putfield 399, 3), (11, 70, 140)) := by decide +kernel
theorem xr_193_19 : X_row 193 19 = some (19, (.aload_n 0, 1), (0, 0, 0)) := by decide +kernel
theorem xr_193_20 : X_row 193 20 = some (20, (.iconst (-1), 1), (0, 0, 0)) := by decide +kernel
theorem xr_193_21 : X_row 193 21 = some (21, (.putfield 402, 3), (11, 69, 138)) := by decide +kernel
theorem xr_193_24 : X_row 193 24 = some (24, (.iconst 0, 1), (0, 0, 0)) := by decide +kernel
theorem xr_193_25 : X_row 193 25 = some (25, (.istore_n 1, 1), (0, 0, 0)) := by decide +kernel
theorem xr_193_26 : X_row 193 26 = some (26, (.iload_n 1, 1), (0, 0, 0)) := by decide +kernel
theorem xr_193_27 : X_row 193 27 = some (27, (.aload_n 0, 1), (0, 0, 0)) := by decide +kernel
theorem xr_193_28 : X_row 193 28 = some (28, (.getfield 317, 3), (11, 49, 98)) := by decide +kernel
theorem xr_193_31 : X_row 193 31 = some (31, (.if_icmp .ge 16, 3), (0, 0, 0)) := by decide +kernel
theorem xr_193_34 : X_row 193 34 = some (34, (.aload_n 0, 1), (0, 0, 0)) := by decide +kernel
theorem xr_193_35 : X_row 193 35 = some (35, (.getfield 288, 3), (11, 71, 142)) := by decide +kernel
theorem xr_193_38 : X_row 193 38 = some (38, (.iload_n 1, 1), (0, 0, 0)) := by decide +kernel
theorem xr_193_39 : X_row 193 39 = some (39, (.iconst 0, 1), (0, 0, 0)) := by decide +kernel
theorem xr_193_40 : X_row 193 40 = some (40, (.bastore, 1), (0, 0, 0)) := by decide +kernel
theorem xr_193_41 : X_row 193 41 = some (41, (.iinc 1 1, 3), (0, 0, 0)) := by decide +kernel
theorem xr_193_44 : X_row 193 44 = some (44, (.goto (-18), 3), (0, 0, 0)) := by decide +kernel
theorem xr_193_47 : X_row 193 47 = some (47, (.iconst 0, 1), (0, 0, 0)) := by decide +kernel
theorem xr_193_48 : X_row 193 48 = some (48, (.istore_n 1, 1), (0, 0, 0)) := by decide +kernel
theorem xr_193_49 : X_row 193 49 = some (49, (.iconst 0, 1), (0, 0, 0)) := by decide +kernel
theorem xr_193_50 : X_row 193 50 = some (50, (.istore_n 2, 1), (0, 0, 0)) := by decide +kernel
theorem xr_193_51 : X_row 193 51 = some (51, (.iload_n 2, 1), (0, 0, 0)) := by decide +kernel
theorem xr_193_52 : X_row 193 52 = some (52, (.aload_n 0, 1), (0, 0, 0)) := by decide +kernel
theorem xr_193_53 : X_row 193 53 = some (53, (.getfield 317, 3), (11, 49, 98)) := by decide +kernel
theorem xr_193_56 : X_row 193 56 = some (56, (.if_icmp .ge 80, 3), (0, 0, 0)) := by decide +kernel
theorem xr_193_59 : X_row 193 59 = some (59, (.aload_n 0, 1), (0, 0, 0)) := by decide +kernel
theorem xr_193_60 : X_row 193 60 = some (60, (.iload_n 1, 1), (0, 0, 0)) := by decide +kernel
theorem xr_193_61 : X_row 193 61 = some (61, (.invokevirtual 405, 3), (192, 86, 0)) := by decide +kernel
theorem xr_193_64 : X_row 193 64 = some (64, (.istore_n 3, 1), (0, 0, 0)) := by decide +kernel
theorem xr_193_65 : X_row 193 65 = some (65, (.iload_n 3, 1), (0, 0, 0)) := by decide +kernel
theorem xr_193_66 : X_row 193 66 = some (66, (.iload_n 1, 1), (0, 0, 0)) := by decide +kernel
theorem xr_193_67 : X_row 193 67 = some (67, (.iconst 1, 1), (0, 0, 0)) := by decide +kernel
theorem xr_193_68 : X_row 193 68 = some (68, (.iadd, 1), (0, 0, 0)) := by decide +kernel
theorem xr_193_69 : X_row 193 69 = some (69, (.if_icmp .le 20, 3), (0, 0, 0)) := by decide +kernel
theorem xr_193_72 : X_row 193 72 = some (72, (.aload_n 0, 1), (0, 0, 0)) := by decide +kernel
theorem xr_193_73 : X_row 193 73 = some (73, (.iload_n 1, 1), (0, 0, 0)) := by decide +kernel
theorem xr_193_74 : X_row 193 74 = some (74, (.invokevirtual 408, 3), (195, 88, 0)) := by decide +kernel
theorem xr_193_77 : X_row 193 77 = some (77, (.ifCond .ne 12, 3), (0, 0, 0)) := by decide +kernel
theorem xr_193_80 : X_row 193 80 = some (80, (.aload_n 0, 1), (0, 0, 0)) := by decide +kernel
theorem xr_193_81 : X_row 193 81 = some (81, (.iload_n 1, 1), (0, 0, 0)) := by decide +kernel
theorem xr_193_82 : X_row 193 82 = some (82, (.invokevirtual 411, 3), (194, 90, 0)) := by decide +kernel
theorem xr_193_85 : X_row 193 85 = some (85, (.istore_n 1, 1), (0, 0, 0)) := by decide +kernel
theorem xr_193_86 : X_row 193 86 = some (86, (.goto (-35), 3), (0, 0, 0)) := by decide +kernel
theorem xr_193_89 : X_row 193 89 = some (89, (.aload_n 0, 1), (0, 0, 0)) := by decide +kernel
theorem xr_193_90 : X_row 193 90 = some (90, (.iload_n 1, 1), (0, 0, 0)) := by decide +kernel
theorem xr_193_91 : X_row 193 91 = some (91, (.invokevirtual 414, 3), (196, 92, 0)) := by decide +kernel
theorem xr_193_94 : X_row 193 94 = some (94, (.istore 4, 2), (0, 0, 0)) := by decide +kernel
theorem xr_193_96 : X_row 193 96 = some (96, (.iload 4, 2), (0, 0, 0)) := by decide +kernel
theorem xr_193_98 : X_row 193 98 = some (98, (.ifCond .le 11, 3), (0, 0, 0)) := by decide +kernel
theorem xr_193_101 : X_row 193 101 = some (101, (.aload_n 0, 1), (0, 0, 0)) := by decide +kernel
theorem xr_193_102 : X_row 193 102 = some (102, (.iload_n 1, 1), (0, 0, 0)) := by decide +kernel
theorem xr_193_103 : X_row 193 103 = some (103, (.putfield 402, 3), (11, 69, 138)) := by decide +kernel
theorem xr_193_106 : X_row 193 106 = some (106, (.iload 4, 2), (0, 0, 0)) := by decide +kernel
theorem xr_193_108 : X_row 193 108 = some (108, (.ireturn, 1), (0, 0, 0)) := by decide +kernel
theorem xr_193_109 : X_row 193 109 = some (109, (.aload_n 0, 1), (0, 0, 0)) := by decide +kernel
theorem xr_193_110 : X_row 193 110 = some (110, (.getfield 288, 3), (11, 71, 142)) := by decide +kernel
theorem xr_193_113 : X_row 193 113 = some (113, (.iload_n 1, 1), (0, 0, 0)) := by decide +kernel
theorem xr_193_114 : X_row 193 114 = some (114, (.iconst 1, 1), (0, 0, 0)) := by decide +kernel
theorem xr_193_115 : X_row 193 115 = some (115, (.bastore, 1), (0, 0, 0)) := by decide +kernel
theorem xr_193_116 : X_row 193 116 = some (116, (.iinc 2 1, 3), (0, 0, 0)) := by decide +kernel
theorem xr_193_119 : X_row 193 119 = some (119, (.aload_n 0, 1), (0, 0, 0)) := by decide +kernel
theorem xr_193_120 : X_row 193 120 = some (120, (.getfield 231, 3), (11, 47, 94)) := by decide +kernel
theorem xr_193_123 : X_row 193 123 = some (123, (.iload_n 1, 1), (0, 0, 0)) := by decide +kernel
theorem xr_193_124 : X_row 193 124 = some (124, (.iaload, 1), (0, 0, 0)) := by decide +kernel
theorem xr_193_125 : X_row 193 125 = some (125, (.istore_n 1, 1), (0, 0, 0)) := by decide +kernel
theorem xr_193_126 : X_row 193 126 = some (126, (.iload_n 1, 1), (0, 0, 0)) := by decide +kernel
theorem xr_193_127 : X_row 193 127 = some (127, (.ifCond .ge 6, 3), (0, 0, 0)) := by decide +kernel
theorem xr_193_130 : X_row 193 130 = some (130, (.goto 6, 3), (0, 0, 0)) := by decide +kernel
theorem xr_193_133 : X_row 193 133 = some (133, (.goto (-82), 3), (0, 0, 0)) := by decide +kernel
theorem xr_193_136 : X_row 193 136 = some (136, (.aload_n 0, 1), (0, 0, 0)) := by decide +kernel
theorem xr_193_137 : X_row 193 137 = some (137, (.aload_n 0, 1), (0, 0, 0)) := by decide +kernel
theorem xr_193_138 : X_row 193 138 = some (138, (.getfield 279, 3), (11, 65, 130)) := by decide +kernel
theorem xr_193_141 : X_row 193 141 = some (141, (.iconst 0, 1), (0, 0, 0)) := by decide +kernel
theorem xr_193_142 : X_row 193 142 = some (142, (.iaload, 1), (0, 0, 0)) := by decide +kernel
theorem xr_193_143 : X_row 193 143 = some (143, (.putfield 399, 3), (11, 70, 140)) := by decide +kernel
theorem xr_193_146 : X_row 193 146 = some (146, (.iconst 0, 1), (0, 0, 0)) := by decide +kernel
theorem xr_193_147 : X_row 193 147 = some (147, (.ireturn, 1), (0, 0, 0)) := by decide +kernel
theorem xr_195_0 : X_row 195 0 = some (0, (.aload_n 0, 1), (0, 0, 0)) := by decide +kernel
theorem xr_195_1 : X_row 195 1 = some (1, (.iload_n 1, 1), (0, 0, 0)) := by decide +kernel
theorem xr_195_2 : X_row 195 2 = some (2, (.invokevirtual 411, 3), (194, 90, 0)) := by decide +kernel
theorem xr_195_5 : X_row 195 5 = some (5, (.ifCond .ge 7, 3), (0, 0, 0)) := by decide +kernel
theorem xr_195_8 : X_row 195 8 = some (8, (.iconst 1, 1), (0, 0, 0)) := by decide +kernel
theorem xr_195_9 : X_row 195 9 = some (9, (.goto 4, 3), (0, 0, 0)) := by decide +kernel
theorem xr_195_12 : X_row 195 12 = some (12, (.iconst 0, 1), (0, 0, 0)) := by decide +kernel
theorem xr_195_13 : X_row 195 13 = some (13, (.ireturn, 1), (0, 0, 0)) := by decide +kernel
theorem xn_193 : X_nL 193 = 5 := by decide +kernel
theorem xf_193 : X_na 193 = 0 ∧ X_ci 193 = 11 ∧ X_rt 193 = (some .int) := by decide +kernel
theorem xn_195 : X_nL 195 = 2 := by decide +kernel
theorem xf_195 : X_na 195 = 1 ∧ X_ci 195 = 11 ∧ X_rt 195 = (some .boolean) := by decide +kernel
set_option maxHeartbeats 1600000 in
theorem r_work (sc : X_Sc) (S : X_S) (wS : Int → Int) (sO : Int → Int) (sN : Int → Int) (tU : Int → Int) (nW : Int → Int) (nF : Int → Int) (nL : Int → Int) (nP : Int → Int) (nH : Int → Int) (bo : Int → Int) (va : Int → Int) (vs : Int → Int) (pl : Int → Int) (hv : Int → Int) (dn : Int → Int) (o : Nat → Int) (nm : Int64) (b : Int) (rc : Int) (G : X_G) (tn : Int) (nc : Int) (N : Int → Int → Int) (hO530 : S.1 530 = .inr (11, [.ref 531, .int (iI (o 1)), .ref 532, .int (iI (o 3)), .int (iI b), .int (iI (o 5)), .int (iI (o 6)), .int (iI (o 7)), .int (iI (o 8)), .int (iI (o 9)), .int (iI (o 10)), .int (iI (o 11)), .long nm, .ref 533, .ref 534, .ref 535, .ref 536, .ref 537, .ref 538, .ref 539, .ref 540, .ref 541, .ref 542, .ref 543, .ref 544, .ref 545, .ref 546, .ref 547, .int (iI rc), .int (iI (gk G)), .int (iI (gw G)), .int (iI (o 31)), .int (iI (o 32)), .int (iI (o 33)), .ref 548, .ref 549, .ref 550, .ref 551, .int (iI tn), .ref 552, .ref 553, .ref 554, .ref 555, .ref 556, .ref 557, .ref 558, .ref 559, .ref 560, .ref 561, .int (iI nc), .ref 562, .ref 563, .ref 564, .ref 565, .ref 566, .ref 567, .ref 568, .ref 569, .int (iI (o 58)), .ref 570, .ref 571, .ref 572, .ref 573, .ref 574, .ref 575, .ref 576, .ref 577, .ref 578, .int (iI (o 68)), .int (iI (o 69)), .int (iI (o 70)), .ref 579])) (hA542 : S.1 542 = .inl (.int, 60, .inl fun k : Nat => iI (wS (k : Int)))) (hA543 : S.1 543 = .inl (.int, 1800, .inl fun k : Nat => iI (sO (k : Int)))) (hA544 : S.1 544 = .inl (.int, 1800, .inl fun k : Nat => iI (sN (k : Int)))) (hA550 : S.1 550 = .inl (.int, 30, .inl fun k : Nat => iI (tU (k : Int)))) (hA557 : S.1 557 = .inl (.int, 40, .inl fun k : Nat => iI (nW (k : Int)))) (hA558 : S.1 558 = .inl (.int, 40, .inl fun k : Nat => iI (nF (k : Int)))) (hA559 : S.1 559 = .inl (.int, 40, .inl fun k : Nat => iI (nL (k : Int)))) (hA560 : S.1 560 = .inl (.int, 40, .inl fun k : Nat => iI (nP (k : Int)))) (hA561 : S.1 561 = .inl (.int, 40, .inl fun k : Nat => iI (nH (k : Int)))) (hA574 : S.1 574 = .inl (.boolean, 30, .inl fun k : Nat => iI (bo (k : Int)))) (hA575 : S.1 575 = .inl (.int, 30, .inl fun k : Nat => iI (va (k : Int)))) (hA576 : S.1 576 = .inl (.int, 40, .inl fun k : Nat => iI (vs (k : Int)))) (hA577 : S.1 577 = .inl (.int, 18, .inl fun k : Nat => iI (pl (k : Int)))) (hA578 : S.1 578 = .inl (.int, 4, .inl fun k : Nat => iI (hv (k : Int)))) (hA579 : S.1 579 = .inl (.boolean, 40, .inl fun k : Nat => iI (dn (k : Int)))) (hbr : 0 ≤ b ∧ b ≤ 1) (hG : X_Gok G) (hGs : X_Gst G) (hTU : ∀ t, 0 ≤ t → t < tn → tU t = X_nv (gt G t)) (hWS : ∀ w, 0 ≤ w → w < gw G → wS (30 * b + w) = gD G w 5 0) (hST : ∀ w, 0 ≤ w → w < gw G → ∀ k, 0 ≤ k → k < gD G w 5 0 → sO (30 * (30 * b + w) + k) = X_op (gD G w 12 k) ∧ (gD G w 12 k = 4 → sN (30 * (30 * b + w) + k) = gD G w 13 k) ∧ (gD G w 12 k = 64 → sN (30 * (30 * b + w) + k) = gD G w 13 k - 1)) (hbo : ∀ w, 0 ≤ w → w < gw G → (bo w = gD G w 6 0 ∧ (gD G w 6 0 = 1 → va w = gD G w 7 0)) ∧ 0 ≤ gD G w 6 0 ∧ gD G w 6 0 ≤ 1) (hR : X_Rok G tn nc N) (hnd : R_nd nc N nW nF nL nP nH) : X_T sc 193 (0, [(0, .ref 530)], [], S) (fun v S' => (v = some (.int (iI (-1))) ∧ nc = 0 ∧ S' = S) ∨ (∃ (vs1 : Int → Int) (pl1 : Int → Int) (hv1 : Int → Int) (dn1 : Int → Int), v = some (.int (iI ((X_wk G (fun w => gD G w 6 0) (fun w => gD G w 7 0) N nc).1))) ∧ ¬ nc = 0 ∧ S'.1 530 = .inr (11, [.ref 531, .int (iI (o 1)), .ref 532, .int (iI (o 3)), .int (iI b), .int (iI (o 5)), .int (iI (o 6)), .int (iI (o 7)), .int (iI (o 8)), .int (iI (o 9)), .int (iI (o 10)), .int (iI (o 11)), .long nm, .ref 533, .ref 534, .ref 535, .ref 536, .ref 537, .ref 538, .ref 539, .ref 540, .ref 541, .ref 542, .ref 543, .ref 544, .ref 545, .ref 546, .ref 547, .int (iI rc), .int (iI (gk G)), .int (iI (gw G)), .int (iI (o 31)), .int (iI (o 32)), .int (iI (o 33)), .ref 548, .ref 549, .ref 550, .ref 551, .int (iI tn), .ref 552, .ref 553, .ref 554, .ref 555, .ref 556, .ref 557, .ref 558, .ref 559, .ref 560, .ref 561, .int (iI nc), .ref 562, .ref 563, .ref 564, .ref 565, .ref 566, .ref 567, .ref 568, .ref 569, .int (iI (o 58)), .ref 570, .ref 571, .ref 572, .ref 573, .ref 574, .ref 575, .ref 576, .ref 577, .ref 578, .int (iI 1), .int (iI ((X_wk G (fun w => gD G w 6 0) (fun w => gD G w 7 0) N nc).2.1)), .int (iI ((X_wk G (fun w => gD G w 6 0) (fun w => gD G w 7 0) N nc).2.2)), .ref 579]) ∧ S'.1 576 = .inl (.int, 40, .inl fun k : Nat => iI (vs1 (k : Int))) ∧ S'.1 577 = .inl (.int, 18, .inl fun k : Nat => iI (pl1 (k : Int))) ∧ S'.1 578 = .inl (.int, 4, .inl fun k : Nat => iI (hv1 (k : Int))) ∧ S'.1 579 = .inl (.boolean, 40, .inl fun k : Nat => iI (dn1 (k : Int))) ∧ (X_Fr (fun q => q = 530 ∨ (576 ≤ q ∧ q ≤ 579)) S S'))) := by
  have hRn := hR.1
  have t0 := hR.2.1
  have t1 := hR.2.2.1
  refine X_QI (fun Q hQ => ?_)
  refine T_p xr_193_0 xn_193 (pc' := 1) (ls' := [(0, .ref 530)]) (st' := [.ref 530]) rfl ?_
  refine T_get xr_193_1 hO530 rfl (v := .int (iI nc)) rfl (pc' := 4) rfl ?_
  refine T_zif_ne xr_193_4 (t := 9) (pc' := 7) rfl rfl (fun c2577 => ?_) (fun c2577 => ?_)
  · skip
    have c2577 : ¬ nc = 0 := c2577
    refine T_p xr_193_9 xn_193 (pc' := 10) (ls' := [(0, .ref 530)]) (st' := [.ref 530]) rfl ?_
    refine T_p xr_193_10 xn_193 (pc' := 11) (ls' := [(0, .ref 530)]) (st' := [.int (iI 1), .ref 530]) rfl ?_
    refine T_put xr_193_11 hO530 rfl (Nat.le_of_ble_eq_true rfl) rfl (fs' := [.ref 531, .int (iI (o 1)), .ref 532, .int (iI (o 3)), .int (iI b), .int (iI (o 5)), .int (iI (o 6)), .int (iI (o 7)), .int (iI (o 8)), .int (iI (o 9)), .int (iI (o 10)), .int (iI (o 11)), .long nm, .ref 533, .ref 534, .ref 535, .ref 536, .ref 537, .ref 538, .ref 539, .ref 540, .ref 541, .ref 542, .ref 543, .ref 544, .ref 545, .ref 546, .ref 547, .int (iI rc), .int (iI (gk G)), .int (iI (gw G)), .int (iI (o 31)), .int (iI (o 32)), .int (iI (o 33)), .ref 548, .ref 549, .ref 550, .ref 551, .int (iI tn), .ref 552, .ref 553, .ref 554, .ref 555, .ref 556, .ref 557, .ref 558, .ref 559, .ref 560, .ref 561, .int (iI nc), .ref 562, .ref 563, .ref 564, .ref 565, .ref 566, .ref 567, .ref 568, .ref 569, .int (iI (o 58)), .ref 570, .ref 571, .ref 572, .ref 573, .ref 574, .ref 575, .ref 576, .ref 577, .ref 578, .int (iI 1), .int (iI (o 69)), .int (iI (o 70)), .ref 579]) rfl (pc' := 14) rfl (fun S2578 h2579 n2580 e2581 => ?_)
    refine T_p xr_193_14 xn_193 (pc' := 15) (ls' := [(0, .ref 530)]) (st' := [.ref 530]) rfl ?_
    refine T_p xr_193_15 xn_193 (pc' := 16) (ls' := [(0, .ref 530)]) (st' := [.int (iI 0), .ref 530]) rfl ?_
    refine T_put xr_193_16 h2579 rfl (Nat.le_of_ble_eq_true rfl) rfl (fs' := [.ref 531, .int (iI (o 1)), .ref 532, .int (iI (o 3)), .int (iI b), .int (iI (o 5)), .int (iI (o 6)), .int (iI (o 7)), .int (iI (o 8)), .int (iI (o 9)), .int (iI (o 10)), .int (iI (o 11)), .long nm, .ref 533, .ref 534, .ref 535, .ref 536, .ref 537, .ref 538, .ref 539, .ref 540, .ref 541, .ref 542, .ref 543, .ref 544, .ref 545, .ref 546, .ref 547, .int (iI rc), .int (iI (gk G)), .int (iI (gw G)), .int (iI (o 31)), .int (iI (o 32)), .int (iI (o 33)), .ref 548, .ref 549, .ref 550, .ref 551, .int (iI tn), .ref 552, .ref 553, .ref 554, .ref 555, .ref 556, .ref 557, .ref 558, .ref 559, .ref 560, .ref 561, .int (iI nc), .ref 562, .ref 563, .ref 564, .ref 565, .ref 566, .ref 567, .ref 568, .ref 569, .int (iI (o 58)), .ref 570, .ref 571, .ref 572, .ref 573, .ref 574, .ref 575, .ref 576, .ref 577, .ref 578, .int (iI 1), .int (iI (o 69)), .int (iI 0), .ref 579]) rfl (pc' := 19) rfl (fun S2582 h2583 n2584 e2585 => ?_)
    refine T_p xr_193_19 xn_193 (pc' := 20) (ls' := [(0, .ref 530)]) (st' := [.ref 530]) rfl ?_
    refine T_p xr_193_20 xn_193 (pc' := 21) (ls' := [(0, .ref 530)]) (st' := [.int (iI (-1)), .ref 530]) rfl ?_
    refine T_put xr_193_21 h2583 rfl (Nat.le_of_ble_eq_true rfl) rfl (fs' := [.ref 531, .int (iI (o 1)), .ref 532, .int (iI (o 3)), .int (iI b), .int (iI (o 5)), .int (iI (o 6)), .int (iI (o 7)), .int (iI (o 8)), .int (iI (o 9)), .int (iI (o 10)), .int (iI (o 11)), .long nm, .ref 533, .ref 534, .ref 535, .ref 536, .ref 537, .ref 538, .ref 539, .ref 540, .ref 541, .ref 542, .ref 543, .ref 544, .ref 545, .ref 546, .ref 547, .int (iI rc), .int (iI (gk G)), .int (iI (gw G)), .int (iI (o 31)), .int (iI (o 32)), .int (iI (o 33)), .ref 548, .ref 549, .ref 550, .ref 551, .int (iI tn), .ref 552, .ref 553, .ref 554, .ref 555, .ref 556, .ref 557, .ref 558, .ref 559, .ref 560, .ref 561, .int (iI nc), .ref 562, .ref 563, .ref 564, .ref 565, .ref 566, .ref 567, .ref 568, .ref 569, .int (iI (o 58)), .ref 570, .ref 571, .ref 572, .ref 573, .ref 574, .ref 575, .ref 576, .ref 577, .ref 578, .int (iI 1), .int (iI (-1)), .int (iI 0), .ref 579]) rfl (pc' := 24) rfl (fun S2586 h2587 n2588 e2589 => ?_)
    refine T_p xr_193_24 xn_193 (pc' := 25) (ls' := [(0, .ref 530)]) (st' := [.int (iI 0)]) rfl ?_
    refine T_p xr_193_25 xn_193 (pc' := 26) (ls' := [(1, .int (iI 0)), (0, .ref 530)]) (st' := []) rfl ?_
    have h2595 := (n2588 579 (by decide)).trans ((n2584 579 (by decide)).trans ((n2580 579 (by decide)).trans (hA579)))
    have L2590 : ∀ (m2592 : Nat) (S2596 : X_S) (i : Int) (dn1 : Int → Int) (hdn1 : S2596.1 579 = .inl (.boolean, 40, .inl fun k : Nat => iI (dn1 (k : Int)))) (hF2594 : X_Fr (fun q => q = 579) S2586 S2596) (hi : 0 ≤ i ∧ i ≤ nc) (hz : ∀ m, 0 ≤ m → m < i → dn1 m = 0) (hm2593 : nc - i < m2592), X_T sc 193 (26, [(1, .int (iI i)), (0, .ref 530)], [], S2596) Q := by
      intro m2592
      induction m2592 with
      | zero =>
        intro S2596 i dn1 hdn1 hF2594 hi hz hm2593
        exact (show False by omega).elim
      | succ m2592 ih2591 =>
        intro S2596 i dn1 hdn1 hF2594 hi hz hm2593
        refine T_p xr_193_26 xn_193 (pc' := 27) (ls' := [(1, .int (iI i)), (0, .ref 530)]) (st' := [.int (iI i)]) rfl ?_
        refine T_p xr_193_27 xn_193 (pc' := 28) (ls' := [(1, .int (iI i)), (0, .ref 530)]) (st' := [.ref 530, .int (iI i)]) rfl ?_
        have h2597 := (hF2594.1 530 (by first | decide | omega)).trans (h2587)
        refine T_get xr_193_28 h2597 rfl (v := .int (iI nc)) rfl (pc' := 31) rfl ?_
        refine T_zicmp_ge xr_193_31 (t := 47) (pc' := 34) rfl rfl (fun c2598 => ?_) (fun c2598 => ?_)
        · skip
          have c2598 : nc ≤ i := c2598
          refine T_p xr_193_47 xn_193 (pc' := 48) (ls' := [(1, .int (iI i)), (0, .ref 530)]) (st' := [.int (iI 0)]) rfl ?_
          refine T_p xr_193_48 xn_193 (pc' := 49) (ls' := [(1, .int (iI 0)), (0, .ref 530)]) (st' := []) rfl ?_
          refine T_p xr_193_49 xn_193 (pc' := 50) (ls' := [(1, .int (iI 0)), (0, .ref 530)]) (st' := [.int (iI 0)]) rfl ?_
          refine T_p xr_193_50 xn_193 (pc' := 51) (ls' := [(2, .int (iI 0)), (1, .int (iI 0)), (0, .ref 530)]) (st' := []) rfl ?_
          have h2604 := (hF2594.1 576 (by first | decide | omega)).trans ((n2588 576 (by decide)).trans ((n2584 576 (by decide)).trans ((n2580 576 (by decide)).trans (hA576))))
          have h2605 := (hF2594.1 577 (by first | decide | omega)).trans ((n2588 577 (by decide)).trans ((n2584 577 (by decide)).trans ((n2580 577 (by decide)).trans (hA577))))
          have h2606 := (hF2594.1 578 (by first | decide | omega)).trans ((n2588 578 (by decide)).trans ((n2584 578 (by decide)).trans ((n2580 578 (by decide)).trans (hA578))))
          have L2599 : ∀ (m2601 : Nat) (S2607 : X_S) (n : Int) (c : Int) (nx : Int) (lv : Int) (V : Int → Int) (V1 : Int → Int) (vs1 : Int → Int) (pl1 : Int → Int) (hv1 : Int → Int) (dn1 : Int → Int) (hvs1 : S2607.1 576 = .inl (.int, 40, .inl fun k : Nat => iI (vs1 (k : Int)))) (hpl1 : S2607.1 577 = .inl (.int, 18, .inl fun k : Nat => iI (pl1 (k : Int)))) (hhv1 : S2607.1 578 = .inl (.int, 4, .inl fun k : Nat => iI (hv1 (k : Int)))) (hdn1 : S2607.1 579 = .inl (.boolean, 40, .inl fun k : Nat => iI (dn1 (k : Int)))) (hF2603 : X_Fr (fun q => 576 ≤ q ∧ q ≤ 579) S2596 S2607) (hnx : 1 ≤ nx ∧ nx ≤ nc) (hlv : (0 ≤ lv ∧ lv ≤ 30) ∧ 0 ≤ n ∧ n + lv ≤ nx - 1) (hA : X_An N (nx - 1) n) (hAo : X_An N n (X_wn N nc nx)) (hX2 : X_wi G (fun w => gD G w 6 0) (fun w => gD G w 7 0) N nc (X_wn N nc nx) (31 - lv).toNat n V1 = X_wi G (fun w => gD G w 6 0) (fun w => gD G w 7 0) N nc (X_wn N nc nx) 31 (nx - 1) V) (hXn : X_wo G (fun w => gD G w 6 0) (fun w => gD G w 7 0) N nc (nc + 1 - nx).toNat nx V = (X_wk G (fun w => gD G w 6 0) (fun w => gD G w 7 0) N nc)) (hW2 : X_Wr N nx n V1 vs1) (hdn : R_dn N nc nx n dn1) (hc : c = (X_Su (R_cn dn1) 0 nc : Int)) (hcc : 0 ≤ c ∧ c < nc) (hm2602 : (nc - c) + (nc - nx) < m2601), X_T sc 193 (51, [(2, .int (iI c)), (1, .int (iI n)), (0, .ref 530)], [], S2607) Q := by
            intro m2601
            induction m2601 with
            | zero =>
              intro S2607 n c nx lv V V1 vs1 pl1 hv1 dn1 hvs1 hpl1 hhv1 hdn1 hF2603 hnx hlv hA hAo hX2 hXn hW2 hdn hc hcc hm2602
              exact (show False by omega).elim
            | succ m2601 ih2600 =>
              intro S2607 n c nx lv V V1 vs1 pl1 hv1 dn1 hvs1 hpl1 hhv1 hdn1 hF2603 hnx hlv hA hAo hX2 hXn hW2 hdn hc hcc hm2602
              refine T_p xr_193_51 xn_193 (pc' := 52) (ls' := [(2, .int (iI c)), (1, .int (iI n)), (0, .ref 530)]) (st' := [.int (iI c)]) rfl ?_
              refine T_p xr_193_52 xn_193 (pc' := 53) (ls' := [(2, .int (iI c)), (1, .int (iI n)), (0, .ref 530)]) (st' := [.ref 530, .int (iI c)]) rfl ?_
              have h2608 := (hF2603.1 530 (by first | decide | omega)).trans (h2597)
              refine T_get xr_193_53 h2608 rfl (v := .int (iI nc)) rfl (pc' := 56) rfl ?_
              refine T_zicmp_ge xr_193_56 (t := 136) (pc' := 59) rfl rfl (fun c2609 => ?_) (fun c2609 => ?_)
              · skip
                have c2609 : nc ≤ c := c2609
                exact (show False by omega).elim
              · skip
                have c2609 : ¬ (nc ≤ c) := c2609
                have hns := hdn.self (show 0 ≤ n by omega) (show n < nc by omega)
                refine T_p xr_193_59 xn_193 (pc' := 60) (ls' := [(2, .int (iI c)), (1, .int (iI n)), (0, .ref 530)]) (st' := [.ref 530]) rfl ?_
                refine T_p xr_193_60 xn_193 (pc' := 61) (ls' := [(2, .int (iI c)), (1, .int (iI n)), (0, .ref 530)]) (st' := [.int (iI n), .ref 530]) rfl ?_
                refine T_cv (S := S2607) (q := 530) xr_193_61 xf_192.1 xf_192.2.1 xn_192 (as := [.int (iI n)]) (r := []) rfl h2608 (Nat.le_of_ble_eq_true rfl) (Nat.le_of_ble_eq_true rfl) (pc' := 64) rfl (ls' := [(0, .ref 530), (1, .int (iI n))]) rfl ?_
                have h2610 := (hF2603.1 557 (by first | decide | omega)).trans ((hF2594.1 557 (by first | decide | omega)).trans ((n2588 557 (by decide)).trans ((n2584 557 (by decide)).trans ((n2580 557 (by decide)).trans (hA557)))))
                have h2611 := (hF2603.1 558 (by first | decide | omega)).trans ((hF2594.1 558 (by first | decide | omega)).trans ((n2588 558 (by decide)).trans ((n2584 558 (by decide)).trans ((n2580 558 (by decide)).trans (hA558)))))
                have h2612 := (hF2603.1 559 (by first | decide | omega)).trans ((hF2594.1 559 (by first | decide | omega)).trans ((n2588 559 (by decide)).trans ((n2584 559 (by decide)).trans ((n2580 559 (by decide)).trans (hA559)))))
                have h2613 := (hF2603.1 560 (by first | decide | omega)).trans ((hF2594.1 560 (by first | decide | omega)).trans ((n2588 560 (by decide)).trans ((n2584 560 (by decide)).trans ((n2580 560 (by decide)).trans (hA560)))))
                have h2614 := (hF2603.1 561 (by first | decide | omega)).trans ((hF2594.1 561 (by first | decide | omega)).trans ((n2588 561 (by decide)).trans ((n2584 561 (by decide)).trans ((n2580 561 (by decide)).trans (hA561)))))
                refine T_mono (r_behind sc S2607 nW nF nL nP nH (X_ou (X_ou (X_ou (X_ou o 49 nc) 68 1) 69 (-1)) 70 0) nm b rc G tn nc N n h2608 h2610 h2611 h2612 h2613 h2614 (by omega) (by omega) hnd t0) (fun v2615 S2616 h2617 => ?_)
                rcases h2617 with ⟨r2618, hv2619, hp2620, hp2621, hf2622⟩
                rw [hv2619]
                rw [hf2622]
                show X_T sc 193 (64, [(2, .int (iI c)), (1, .int (iI n)), (0, .ref 530)], [.int (iI r2618)], S2607) _
                refine T_p xr_193_64 xn_193 (pc' := 65) (ls' := [(3, .int (iI r2618)), (2, .int (iI c)), (1, .int (iI n)), (0, .ref 530)]) (st' := []) rfl ?_
                refine T_p xr_193_65 xn_193 (pc' := 66) (ls' := [(3, .int (iI r2618)), (2, .int (iI c)), (1, .int (iI n)), (0, .ref 530)]) (st' := [.int (iI r2618)]) rfl ?_
                refine T_p xr_193_66 xn_193 (pc' := 67) (ls' := [(3, .int (iI r2618)), (2, .int (iI c)), (1, .int (iI n)), (0, .ref 530)]) (st' := [.int (iI n), .int (iI r2618)]) rfl ?_
                refine T_p xr_193_67 xn_193 (pc' := 68) (ls' := [(3, .int (iI r2618)), (2, .int (iI c)), (1, .int (iI n)), (0, .ref 530)]) (st' := [.int (iI 1), .int (iI n), .int (iI r2618)]) rfl ?_
                refine T_ziadd xr_193_68 (z := n + 1) rfl (pc' := 69) rfl ?_
                refine T_zicmp_le xr_193_69 (t := 89) (pc' := 72) rfl rfl (fun c2623 => ?_) (fun c2623 => ?_)
                · skip
                  have c2623 : r2618 ≤ (n + 1) := c2623
                  have hwe : X_wn N nc nx < n := R_wk_e hR hnx (show 0 ≤ n ∧ n < nx by omega) hAo hdn (Or.inr (by
                        have hb := hp2620
                        have hb2 := hp2621
                        by_cases hz : n + 1 = nc
                        · exact Or.inl hz
                        · refine Or.inr ⟨by omega, ?_⟩
                          have he : r2618 = n + 1 := by omega
                          rw [he] at hb2
                          exact hb2 (by omega)))
                  refine T_p xr_193_89 xn_193 (pc' := 90) (ls' := [(3, .int (iI r2618)), (2, .int (iI c)), (1, .int (iI n)), (0, .ref 530)]) (st' := [.ref 530]) rfl ?_
                  refine T_p xr_193_90 xn_193 (pc' := 91) (ls' := [(3, .int (iI r2618)), (2, .int (iI c)), (1, .int (iI n)), (0, .ref 530)]) (st' := [.int (iI n), .ref 530]) rfl ?_
                  refine T_cv (S := S2607) (q := 530) xr_193_91 xf_196.1 xf_196.2.1 xn_196 (as := [.int (iI n)]) (r := []) rfl h2608 (Nat.le_of_ble_eq_true rfl) (Nat.le_of_ble_eq_true rfl) (pc' := 94) rfl (ls' := [(0, .ref 530), (1, .int (iI n))]) rfl ?_
                  have h2624 := (hF2603.1 542 (by first | decide | omega)).trans ((hF2594.1 542 (by first | decide | omega)).trans ((n2588 542 (by decide)).trans ((n2584 542 (by decide)).trans ((n2580 542 (by decide)).trans (hA542)))))
                  have h2625 := (hF2603.1 543 (by first | decide | omega)).trans ((hF2594.1 543 (by first | decide | omega)).trans ((n2588 543 (by decide)).trans ((n2584 543 (by decide)).trans ((n2580 543 (by decide)).trans (hA543)))))
                  have h2626 := (hF2603.1 544 (by first | decide | omega)).trans ((hF2594.1 544 (by first | decide | omega)).trans ((n2588 544 (by decide)).trans ((n2584 544 (by decide)).trans ((n2580 544 (by decide)).trans (hA544)))))
                  have h2627 := (hF2603.1 550 (by first | decide | omega)).trans ((hF2594.1 550 (by first | decide | omega)).trans ((n2588 550 (by decide)).trans ((n2584 550 (by decide)).trans ((n2580 550 (by decide)).trans (hA550)))))
                  have h2628 := (hF2603.1 574 (by first | decide | omega)).trans ((hF2594.1 574 (by first | decide | omega)).trans ((n2588 574 (by decide)).trans ((n2584 574 (by decide)).trans ((n2580 574 (by decide)).trans (hA574)))))
                  have h2629 := (hF2603.1 575 (by first | decide | omega)).trans ((hF2594.1 575 (by first | decide | omega)).trans ((n2588 575 (by decide)).trans ((n2584 575 (by decide)).trans ((n2580 575 (by decide)).trans (hA575)))))
                  refine T_mono (r_value sc S2607 wS sO sN tU nW nF nL nP nH bo va vs1 pl1 hv1 (X_ou (X_ou (X_ou (X_ou o 49 nc) 68 1) 69 (-1)) 70 0) nm b rc G tn nc N n V1 h2608 h2624 h2625 h2626 h2627 h2610 h2611 h2612 h2613 h2614 h2628 h2629 hvs1 hpl1 hhv1 (by omega) hG hGs hTU hWS hST hbo hR (by omega) hnd (fun h g1 g2 g3 => by have hc := X_ch_ev hR (show 1 ≤ nx ∧ nx ≤ nc by omega) hA (by omega) (by omega) g3; have hc2 := X_lc_r (N := N) (p := n) (h := h) nc.toNat; exact hW2 _ (by omega) hc.2.1 hc.2.2)) (fun v2630 S2631 h2632 => ?_)
                  rcases h2632 with ⟨vs2633, pl2634, hv2635, hv2636, hp2637, hp2638, ha2639, ha2640, ha2641, hf2642⟩
                  rw [hv2636]
                  have hcr2643 := X_ev_r (G := G) (bo := (fun w => gD G w 6 0)) (va := (fun w => gD G w 7 0)) (V := V1) (N := N) (nc := nc) (n := n)
                  show X_T sc 193 (94, [(3, .int (iI r2618)), (2, .int (iI c)), (1, .int (iI n)), (0, .ref 530)], [.int (iI ((X_ev G (fun w => gD G w 6 0) (fun w => gD G w 7 0) N nc V1 n).1))], S2631) _
                  refine T_p xr_193_94 xn_193 (pc' := 96) (ls' := [(4, .int (iI ((X_ev G (fun w => gD G w 6 0) (fun w => gD G w 7 0) N nc V1 n).1))), (3, .int (iI r2618)), (2, .int (iI c)), (1, .int (iI n)), (0, .ref 530)]) (st' := []) rfl ?_
                  refine T_p xr_193_96 xn_193 (pc' := 98) (ls' := [(4, .int (iI ((X_ev G (fun w => gD G w 6 0) (fun w => gD G w 7 0) N nc V1 n).1))), (3, .int (iI r2618)), (2, .int (iI c)), (1, .int (iI n)), (0, .ref 530)]) (st' := [.int (iI ((X_ev G (fun w => gD G w 6 0) (fun w => gD G w 7 0) N nc V1 n).1))]) rfl ?_
                  refine T_zif_le xr_193_98 (t := 109) (pc' := 101) rfl rfl (fun c2644 => ?_) (fun c2644 => ?_)
                  · skip
                    have c2644 : ((X_ev G (fun w => gD G w 6 0) (fun w => gD G w 7 0) N nc V1 n).1) ≤ 0 := c2644
                    have hv0 : (X_ev G (fun w => gD G w 6 0) (fun w => gD G w 7 0) N nc V1 n).1 = 0 := by omega
                    have hwi : X_wi G (fun w => gD G w 6 0) (fun w => gD G w 7 0) N nc (X_wn N nc nx) (31 - lv).toNat n V1 = X_wi G (fun w => gD G w 6 0) (fun w => gD G w 7 0) N nc (X_wn N nc nx) (31 - (lv + 1)).toNat (N 3 n) (X_ug V1 n (X_ev G (fun w => gD G w 6 0) (fun w => gD G w 7 0) N nc V1 n).2) := by rw [show (31 - lv).toNat = (31 - (lv + 1)).toNat + 1 by omega, X_wi_s (by omega) hv0]
                    have hW3 := X_Wr.st hW2 (show 0 ≤ n by omega) (hp2637 hv0) hp2638
                    have hdn2 := hdn.upd hR (show 0 ≤ n ∧ n < nx by omega) hnx.2
                    have hcn2 := R_cn_u (dn := dn1) (m := nc) (show 0 ≤ n by omega) (by omega) hns
                    have h3n := t0 n (by omega) (by omega)
                    refine T_p xr_193_109 xn_193 (pc' := 110) (ls' := [(4, .int (iI ((X_ev G (fun w => gD G w 6 0) (fun w => gD G w 7 0) N nc V1 n).1))), (3, .int (iI r2618)), (2, .int (iI c)), (1, .int (iI n)), (0, .ref 530)]) (st' := [.ref 530]) rfl ?_
                    have h2645 := (hf2642.1 530 (by first | decide | omega)).trans (h2608)
                    refine T_get xr_193_110 h2645 rfl (v := .ref 579) rfl (pc' := 113) rfl ?_
                    refine T_p xr_193_113 xn_193 (pc' := 114) (ls' := [(4, .int (iI ((X_ev G (fun w => gD G w 6 0) (fun w => gD G w 7 0) N nc V1 n).1))), (3, .int (iI r2618)), (2, .int (iI c)), (1, .int (iI n)), (0, .ref 530)]) (st' := [.int (iI n), .ref 579]) rfl ?_
                    refine T_p xr_193_114 xn_193 (pc' := 115) (ls' := [(4, .int (iI ((X_ev G (fun w => gD G w 6 0) (fun w => gD G w 7 0) N nc V1 n).1))), (3, .int (iI r2618)), (2, .int (iI c)), (1, .int (iI n)), (0, .ref 530)]) (st' := [.int (iI 1), .int (iI n), .ref 579]) rfl ?_
                    have h2646 := (hf2642.1 579 (by first | decide | omega)).trans (hdn1)
                    refine T_zzast xr_193_115 h2646 (pc' := 116) rfl (fun S2647 h2648 n2649 e2650 => ?_)
                    refine T_ziinc xr_193_116 xn_193 (a := c) (z := c + 1) rfl (Nat.le_of_ble_eq_true rfl) (by omega) (ls' := [(2, .int (iI (c + 1))), (4, .int (iI ((X_ev G (fun w => gD G w 6 0) (fun w => gD G w 7 0) N nc V1 n).1))), (3, .int (iI r2618)), (1, .int (iI n)), (0, .ref 530)]) rfl (pc' := 119) rfl ?_
                    refine T_p xr_193_119 xn_193 (pc' := 120) (ls' := [(2, .int (iI (c + 1))), (4, .int (iI ((X_ev G (fun w => gD G w 6 0) (fun w => gD G w 7 0) N nc V1 n).1))), (3, .int (iI r2618)), (1, .int (iI n)), (0, .ref 530)]) (st' := [.ref 530]) rfl ?_
                    have h2651 := (n2649 530 (by decide)).trans (h2645)
                    refine T_get xr_193_120 h2651 rfl (v := .ref 560) rfl (pc' := 123) rfl ?_
                    refine T_p xr_193_123 xn_193 (pc' := 124) (ls' := [(2, .int (iI (c + 1))), (4, .int (iI ((X_ev G (fun w => gD G w 6 0) (fun w => gD G w 7 0) N nc V1 n).1))), (3, .int (iI r2618)), (1, .int (iI n)), (0, .ref 530)]) (st' := [.int (iI n), .ref 560]) rfl ?_
                    have h2652 := (n2649 560 (by decide)).trans ((hf2642.1 560 (by first | decide | omega)).trans (h2613))
                    refine T_ziald xr_193_124 h2652 (pc' := 125) rfl ?_
                    refine T_ie (y := iI (N 3 n)) (by rw [(hnd n (by omega) (by omega)).2.2.2.1]) ?_
                    refine T_p xr_193_125 xn_193 (pc' := 126) (ls' := [(1, .int (iI (N 3 n))), (2, .int (iI (c + 1))), (4, .int (iI ((X_ev G (fun w => gD G w 6 0) (fun w => gD G w 7 0) N nc V1 n).1))), (3, .int (iI r2618)), (0, .ref 530)]) (st' := []) rfl ?_
                    refine T_p xr_193_126 xn_193 (pc' := 127) (ls' := [(1, .int (iI (N 3 n))), (2, .int (iI (c + 1))), (4, .int (iI ((X_ev G (fun w => gD G w 6 0) (fun w => gD G w 7 0) N nc V1 n).1))), (3, .int (iI r2618)), (0, .ref 530)]) (st' := [.int (iI (N 3 n))]) rfl ?_
                    refine T_zif_ge xr_193_127 (t := 133) (pc' := 130) rfl rfl (fun c2653 => ?_) (fun c2653 => ?_)
                    · skip
                      have c2653 : 0 ≤ (N 3 n) := c2653
                      refine T_p xr_193_133 xn_193 (pc' := 51) (ls' := [(1, .int (iI (N 3 n))), (2, .int (iI (c + 1))), (4, .int (iI ((X_ev G (fun w => gD G w 6 0) (fun w => gD G w 7 0) N nc V1 n).1))), (3, .int (iI r2618)), (0, .ref 530)]) (st' := []) rfl ?_
                      have h2654 := (n2649 576 (by decide)).trans (ha2639)
                      have h2655 := (n2649 577 (by decide)).trans (ha2640)
                      have h2656 := (n2649 578 (by decide)).trans (ha2641)
                      refine T_sub (ls := [(2, .int (iI (c + 1))), (1, .int (iI (N 3 n))), (0, .ref 530)]) ⟨rfl, rfl, rfl, trivial⟩ rfl rfl ?_
                      exact ih2600 S2647 (N 3 n) (c + 1) nx (lv + 1) V (X_ug V1 n (X_ev G (fun w => gD G w 6 0) (fun w => gD G w 7 0) N nc V1 n).2) vs2633 pl2634 hv2635 (X_ug dn1 n (X_bo 1)) h2654 h2655 h2656 h2648 (hF2603.tr (((X_Fr.rf).tr (X_Fr.mono ⟨hf2642.1, hf2642.2⟩ (fun q hq => by first | exact hq | (rcases hq with rfl <;> decide) | (rcases hq with rfl | rfl <;> decide) | (rcases hq with rfl | rfl | rfl <;> decide) | (rcases hq with rfl | rfl | rfl | rfl <;> decide) | (rcases hq with rfl | rfl | rfl | rfl | rfl <;> decide) | (rcases hq with rfl | rfl | rfl | rfl | rfl | rfl <;> decide) | (rcases hq with rfl | rfl | rfl | rfl | rfl | rfl | rfl <;> decide) | omega))).tr (X_Fr.of n2649 e2650 (by first | decide | exact ⟨Nat.le_add_right _ _, Nat.add_le_add_left (by decide) _⟩ | omega)))) (by omega) (by omega) (X_An.tr hA (X_An.up (by omega) X_An.rf) t0 (by omega)) (hAo.dn (by omega)).2 (by rw [← hX2, hwi]) hXn hW3 (by have z := hdn2; first | exact z | (rw [show X_bo 1 = 1 by decide]; exact z)) (by first | (rw [show X_bo 1 = 1 by decide, hcn2]; omega) | (rw [hcn2]; omega)) (by first | (have z := R_cn_lt (dn := X_ug dn1 n 1) (m := nc) (n := N 3 n) (by omega) (by omega) (hdn2.self (by omega) (by omega)); rw [hcn2] at z; omega)) (by omega)
                    · skip
                      have c2653 : ¬ (0 ≤ (N 3 n)) := c2653
                      refine T_p xr_193_130 xn_193 (pc' := 136) (ls' := [(1, .int (iI (N 3 n))), (2, .int (iI (c + 1))), (4, .int (iI ((X_ev G (fun w => gD G w 6 0) (fun w => gD G w 7 0) N nc V1 n).1))), (3, .int (iI r2618)), (0, .ref 530)]) (st' := []) rfl ?_
                      have hn0 : n = 0 := Classical.byContradiction (fun z => by have := (t1 n (by omega) (by omega)).1; omega)
                      have hwl := hAo.le t0 (by omega) (by omega)
                      have hxe : nx = nc := Classical.byContradiction (fun z => by have h1 := (t1 nx (by omega) (by omega)).1; have h2 : X_wn N nc nx = N 3 nx := (by unfold X_wn; rw [if_pos (by omega)]); omega)
                      have hRI : X_wi G (fun w => gD G w 6 0) (fun w => gD G w 7 0) N nc (X_wn N nc nx) 31 (nx - 1) V = ((0, N 3 n), X_ug V1 n (X_ev G (fun w => gD G w 6 0) (fun w => gD G w 7 0) N nc V1 n).2) := hX2.symm.trans (hwi.trans (X_wi_e (by omega)))
                      have hXs := X_wo_s (show nx ≤ nc by omega) hRI
                      rw [hXn, hxe, show nc + 1 - (nc + 1) = 0 by omega] at hXs
                      have hRR : (X_wk G (fun w => gD G w 6 0) (fun w => gD G w 7 0) N nc) = (0, -1, (X_ev G (fun w => gD G w 6 0) (fun w => gD G w 7 0) N nc V1 n).2) := hXs.trans (by show (0, (-1 : Int), X_ug V1 n (X_ev G (fun w => gD G w 6 0) (fun w => gD G w 7 0) N nc V1 n).2 0) = _; rw [hn0, X_ug_s])
                      refine T_p xr_193_136 xn_193 (pc' := 137) (ls' := [(1, .int (iI (N 3 n))), (2, .int (iI (c + 1))), (4, .int (iI ((X_ev G (fun w => gD G w 6 0) (fun w => gD G w 7 0) N nc V1 n).1))), (3, .int (iI r2618)), (0, .ref 530)]) (st' := [.ref 530]) rfl ?_
                      refine T_p xr_193_137 xn_193 (pc' := 138) (ls' := [(1, .int (iI (N 3 n))), (2, .int (iI (c + 1))), (4, .int (iI ((X_ev G (fun w => gD G w 6 0) (fun w => gD G w 7 0) N nc V1 n).1))), (3, .int (iI r2618)), (0, .ref 530)]) (st' := [.ref 530, .ref 530]) rfl ?_
                      refine T_get xr_193_138 h2651 rfl (v := .ref 576) rfl (pc' := 141) rfl ?_
                      refine T_p xr_193_141 xn_193 (pc' := 142) (ls' := [(1, .int (iI (N 3 n))), (2, .int (iI (c + 1))), (4, .int (iI ((X_ev G (fun w => gD G w 6 0) (fun w => gD G w 7 0) N nc V1 n).1))), (3, .int (iI r2618)), (0, .ref 530)]) (st' := [.int (iI 0), .ref 576, .ref 530]) rfl ?_
                      have h2657 := (n2649 576 (by decide)).trans (ha2639)
                      refine T_ziald xr_193_142 h2657 (pc' := 143) rfl ?_
                      refine T_ie (y := iI ((X_ev G (fun w => gD G w 6 0) (fun w => gD G w 7 0) N nc V1 n).2)) (congrArg iI (by have z := hp2637 hv0; rw [← z, hn0])) ?_
                      refine T_put xr_193_143 h2651 rfl (Nat.le_of_ble_eq_true rfl) rfl (fs' := [.ref 531, .int (iI (o 1)), .ref 532, .int (iI (o 3)), .int (iI b), .int (iI (o 5)), .int (iI (o 6)), .int (iI (o 7)), .int (iI (o 8)), .int (iI (o 9)), .int (iI (o 10)), .int (iI (o 11)), .long nm, .ref 533, .ref 534, .ref 535, .ref 536, .ref 537, .ref 538, .ref 539, .ref 540, .ref 541, .ref 542, .ref 543, .ref 544, .ref 545, .ref 546, .ref 547, .int (iI rc), .int (iI (gk G)), .int (iI (gw G)), .int (iI (o 31)), .int (iI (o 32)), .int (iI (o 33)), .ref 548, .ref 549, .ref 550, .ref 551, .int (iI tn), .ref 552, .ref 553, .ref 554, .ref 555, .ref 556, .ref 557, .ref 558, .ref 559, .ref 560, .ref 561, .int (iI nc), .ref 562, .ref 563, .ref 564, .ref 565, .ref 566, .ref 567, .ref 568, .ref 569, .int (iI (o 58)), .ref 570, .ref 571, .ref 572, .ref 573, .ref 574, .ref 575, .ref 576, .ref 577, .ref 578, .int (iI 1), .int (iI (-1)), .int (iI ((X_ev G (fun w => gD G w 6 0) (fun w => gD G w 7 0) N nc V1 n).2)), .ref 579]) rfl (pc' := 146) rfl (fun S2658 h2659 n2660 e2661 => ?_)
                      refine T_p xr_193_146 xn_193 (pc' := 147) (ls' := [(1, .int (iI (N 3 n))), (2, .int (iI (c + 1))), (4, .int (iI ((X_ev G (fun w => gD G w 6 0) (fun w => gD G w 7 0) N nc V1 n).1))), (3, .int (iI r2618)), (0, .ref 530)]) (st' := [.int (iI 0)]) rfl ?_
                      refine T_iret xr_193_147 xf_193.2.2 rfl ?_
                      refine hQ _ _ ?_
                      have h2662 := (n2660 576 (by decide)).trans (h2657)
                      have h2663 := (n2660 577 (by decide)).trans ((n2649 577 (by decide)).trans (ha2640))
                      have h2664 := (n2660 578 (by decide)).trans ((n2649 578 (by decide)).trans (ha2641))
                      have h2665 := (n2660 579 (by decide)).trans (h2648)
                      exact Or.inr ⟨vs2633, pl2634, hv2635, (X_ug dn1 n (X_bo 1)), by rw [hRR], by omega, by rw [hRR]; exact h2659, h2662, h2663, h2664, h2665, ((((((((X_Fr.rf).tr (X_Fr.of n2580 e2581 (by first | decide | exact ⟨Nat.le_add_right _ _, Nat.add_le_add_left (by decide) _⟩ | omega))).tr (X_Fr.of n2584 e2585 (by first | decide | exact ⟨Nat.le_add_right _ _, Nat.add_le_add_left (by decide) _⟩ | omega))).tr (X_Fr.of n2588 e2589 (by first | decide | exact ⟨Nat.le_add_right _ _, Nat.add_le_add_left (by decide) _⟩ | omega))).tr (X_Fr.mono ⟨hF2594.1, hF2594.2⟩ (fun q hq => by first | exact hq | (rcases hq with rfl <;> decide) | (rcases hq with rfl | rfl <;> decide) | (rcases hq with rfl | rfl | rfl <;> decide) | (rcases hq with rfl | rfl | rfl | rfl <;> decide) | (rcases hq with rfl | rfl | rfl | rfl | rfl <;> decide) | (rcases hq with rfl | rfl | rfl | rfl | rfl | rfl <;> decide) | (rcases hq with rfl | rfl | rfl | rfl | rfl | rfl | rfl <;> decide) | omega))).tr (X_Fr.mono ⟨hF2603.1, hF2603.2⟩ (fun q hq => by first | exact hq | (rcases hq with rfl <;> decide) | (rcases hq with rfl | rfl <;> decide) | (rcases hq with rfl | rfl | rfl <;> decide) | (rcases hq with rfl | rfl | rfl | rfl <;> decide) | (rcases hq with rfl | rfl | rfl | rfl | rfl <;> decide) | (rcases hq with rfl | rfl | rfl | rfl | rfl | rfl <;> decide) | (rcases hq with rfl | rfl | rfl | rfl | rfl | rfl | rfl <;> decide) | omega))).tr (X_Fr.mono ⟨hf2642.1, hf2642.2⟩ (fun q hq => by first | exact hq | (rcases hq with rfl <;> decide) | (rcases hq with rfl | rfl <;> decide) | (rcases hq with rfl | rfl | rfl <;> decide) | (rcases hq with rfl | rfl | rfl | rfl <;> decide) | (rcases hq with rfl | rfl | rfl | rfl | rfl <;> decide) | (rcases hq with rfl | rfl | rfl | rfl | rfl | rfl <;> decide) | (rcases hq with rfl | rfl | rfl | rfl | rfl | rfl | rfl <;> decide) | omega))).tr (X_Fr.of n2649 e2650 (by first | decide | exact ⟨Nat.le_add_right _ _, Nat.add_le_add_left (by decide) _⟩ | omega))).tr (X_Fr.of n2660 e2661 (by first | decide | exact ⟨Nat.le_add_right _ _, Nat.add_le_add_left (by decide) _⟩ | omega))⟩
                  · skip
                    have c2644 : ¬ (((X_ev G (fun w => gD G w 6 0) (fun w => gD G w 7 0) N nc V1 n).1) ≤ 0) := c2644
                    have hRI : X_wi G (fun w => gD G w 6 0) (fun w => gD G w 7 0) N nc (X_wn N nc nx) 31 (nx - 1) V = (((X_ev G (fun w => gD G w 6 0) (fun w => gD G w 7 0) N nc V1 n).1, n), V1) := hX2.symm.trans (by rw [show (31 - lv).toNat = (31 - (lv + 1)).toNat + 1 by omega, X_wi_x (by omega) (by omega)])
                    have hRR : (X_wk G (fun w => gD G w 6 0) (fun w => gD G w 7 0) N nc) = ((X_ev G (fun w => gD G w 6 0) (fun w => gD G w 7 0) N nc V1 n).1, n, 0) := hXn.symm.trans (X_wo_x (show nx ≤ nc by omega) (by omega) hRI)
                    refine T_p xr_193_101 xn_193 (pc' := 102) (ls' := [(4, .int (iI ((X_ev G (fun w => gD G w 6 0) (fun w => gD G w 7 0) N nc V1 n).1))), (3, .int (iI r2618)), (2, .int (iI c)), (1, .int (iI n)), (0, .ref 530)]) (st' := [.ref 530]) rfl ?_
                    refine T_p xr_193_102 xn_193 (pc' := 103) (ls' := [(4, .int (iI ((X_ev G (fun w => gD G w 6 0) (fun w => gD G w 7 0) N nc V1 n).1))), (3, .int (iI r2618)), (2, .int (iI c)), (1, .int (iI n)), (0, .ref 530)]) (st' := [.int (iI n), .ref 530]) rfl ?_
                    have h2666 := (hf2642.1 530 (by first | decide | omega)).trans (h2608)
                    refine T_put xr_193_103 h2666 rfl (Nat.le_of_ble_eq_true rfl) rfl (fs' := [.ref 531, .int (iI (o 1)), .ref 532, .int (iI (o 3)), .int (iI b), .int (iI (o 5)), .int (iI (o 6)), .int (iI (o 7)), .int (iI (o 8)), .int (iI (o 9)), .int (iI (o 10)), .int (iI (o 11)), .long nm, .ref 533, .ref 534, .ref 535, .ref 536, .ref 537, .ref 538, .ref 539, .ref 540, .ref 541, .ref 542, .ref 543, .ref 544, .ref 545, .ref 546, .ref 547, .int (iI rc), .int (iI (gk G)), .int (iI (gw G)), .int (iI (o 31)), .int (iI (o 32)), .int (iI (o 33)), .ref 548, .ref 549, .ref 550, .ref 551, .int (iI tn), .ref 552, .ref 553, .ref 554, .ref 555, .ref 556, .ref 557, .ref 558, .ref 559, .ref 560, .ref 561, .int (iI nc), .ref 562, .ref 563, .ref 564, .ref 565, .ref 566, .ref 567, .ref 568, .ref 569, .int (iI (o 58)), .ref 570, .ref 571, .ref 572, .ref 573, .ref 574, .ref 575, .ref 576, .ref 577, .ref 578, .int (iI 1), .int (iI n), .int (iI 0), .ref 579]) rfl (pc' := 106) rfl (fun S2667 h2668 n2669 e2670 => ?_)
                    refine T_p xr_193_106 xn_193 (pc' := 108) (ls' := [(4, .int (iI ((X_ev G (fun w => gD G w 6 0) (fun w => gD G w 7 0) N nc V1 n).1))), (3, .int (iI r2618)), (2, .int (iI c)), (1, .int (iI n)), (0, .ref 530)]) (st' := [.int (iI ((X_ev G (fun w => gD G w 6 0) (fun w => gD G w 7 0) N nc V1 n).1))]) rfl ?_
                    refine T_iret xr_193_108 xf_193.2.2 rfl ?_
                    refine hQ _ _ ?_
                    have h2671 := (n2669 576 (by decide)).trans (ha2639)
                    have h2672 := (n2669 577 (by decide)).trans (ha2640)
                    have h2673 := (n2669 578 (by decide)).trans (ha2641)
                    have h2674 := (n2669 579 (by decide)).trans ((hf2642.1 579 (by first | decide | omega)).trans (hdn1))
                    exact Or.inr ⟨vs2633, pl2634, hv2635, dn1, by rw [hRR], by omega, by rw [hRR]; exact h2668, h2671, h2672, h2673, h2674, (((((((X_Fr.rf).tr (X_Fr.of n2580 e2581 (by first | decide | exact ⟨Nat.le_add_right _ _, Nat.add_le_add_left (by decide) _⟩ | omega))).tr (X_Fr.of n2584 e2585 (by first | decide | exact ⟨Nat.le_add_right _ _, Nat.add_le_add_left (by decide) _⟩ | omega))).tr (X_Fr.of n2588 e2589 (by first | decide | exact ⟨Nat.le_add_right _ _, Nat.add_le_add_left (by decide) _⟩ | omega))).tr (X_Fr.mono ⟨hF2594.1, hF2594.2⟩ (fun q hq => by first | exact hq | (rcases hq with rfl <;> decide) | (rcases hq with rfl | rfl <;> decide) | (rcases hq with rfl | rfl | rfl <;> decide) | (rcases hq with rfl | rfl | rfl | rfl <;> decide) | (rcases hq with rfl | rfl | rfl | rfl | rfl <;> decide) | (rcases hq with rfl | rfl | rfl | rfl | rfl | rfl <;> decide) | (rcases hq with rfl | rfl | rfl | rfl | rfl | rfl | rfl <;> decide) | omega))).tr (X_Fr.mono ⟨hF2603.1, hF2603.2⟩ (fun q hq => by first | exact hq | (rcases hq with rfl <;> decide) | (rcases hq with rfl | rfl <;> decide) | (rcases hq with rfl | rfl | rfl <;> decide) | (rcases hq with rfl | rfl | rfl | rfl <;> decide) | (rcases hq with rfl | rfl | rfl | rfl | rfl <;> decide) | (rcases hq with rfl | rfl | rfl | rfl | rfl | rfl <;> decide) | (rcases hq with rfl | rfl | rfl | rfl | rfl | rfl | rfl <;> decide) | omega))).tr (X_Fr.mono ⟨hf2642.1, hf2642.2⟩ (fun q hq => by first | exact hq | (rcases hq with rfl <;> decide) | (rcases hq with rfl | rfl <;> decide) | (rcases hq with rfl | rfl | rfl <;> decide) | (rcases hq with rfl | rfl | rfl | rfl <;> decide) | (rcases hq with rfl | rfl | rfl | rfl | rfl <;> decide) | (rcases hq with rfl | rfl | rfl | rfl | rfl | rfl <;> decide) | (rcases hq with rfl | rfl | rfl | rfl | rfl | rfl | rfl <;> decide) | omega))).tr (X_Fr.of n2669 e2670 (by first | decide | exact ⟨Nat.le_add_right _ _, Nat.add_le_add_left (by decide) _⟩ | omega))⟩
                · skip
                  have c2623 : ¬ (r2618 ≤ (n + 1)) := c2623
                  refine T_p xr_193_72 xn_193 (pc' := 73) (ls' := [(3, .int (iI r2618)), (2, .int (iI c)), (1, .int (iI n)), (0, .ref 530)]) (st' := [.ref 530]) rfl ?_
                  refine T_p xr_193_73 xn_193 (pc' := 74) (ls' := [(3, .int (iI r2618)), (2, .int (iI c)), (1, .int (iI n)), (0, .ref 530)]) (st' := [.int (iI n), .ref 530]) rfl ?_
                  refine T_cv (S := S2607) (q := 530) xr_193_74 xf_195.1 xf_195.2.1 xn_195 (as := [.int (iI n)]) (r := []) rfl h2608 (Nat.le_of_ble_eq_true rfl) (Nat.le_of_ble_eq_true rfl) (pc' := 77) rfl (ls' := [(0, .ref 530), (1, .int (iI n))]) rfl ?_
                  refine T_p xr_195_0 xn_195 (pc' := 1) (ls' := [(0, .ref 530), (1, .int (iI n))]) (st' := [.ref 530]) rfl ?_
                  refine T_p xr_195_1 xn_195 (pc' := 2) (ls' := [(0, .ref 530), (1, .int (iI n))]) (st' := [.int (iI n), .ref 530]) rfl ?_
                  refine T_cv (S := S2607) (q := 530) xr_195_2 xf_194.1 xf_194.2.1 xn_194 (as := [.int (iI n)]) (r := []) rfl h2608 (Nat.le_of_ble_eq_true rfl) (Nat.le_of_ble_eq_true rfl) (pc' := 5) rfl (ls' := [(0, .ref 530), (1, .int (iI n))]) rfl ?_
                  refine T_mono (r_nextWithin sc S2607 nW nF nL nP nH dn1 (X_ou (X_ou (X_ou (X_ou o 49 nc) 68 1) 69 (-1)) 70 0) nm b rc G tn nc N n h2608 h2610 h2611 h2612 h2613 h2614 hdn1 (by omega) (by omega) hnd t0 (fun m h1 h2 => (hdn m h1 h2).2)) (fun v2675 S2676 h2677 => ?_)
                  rcases h2677 with ⟨hv2678, hp2679, hf2680⟩ | ⟨r2681, hv2682, hp2683, hp2684, hp2685, hp2686, hf2687⟩
                  · skip
                    rw [hv2678]
                    rw [hf2680]
                    show X_T sc 195 (5, [(0, .ref 530), (1, .int (iI n))], [.int (iI (-1))], S2607) _
                    refine T_zif_gef xr_195_5 (t := 12) (pc' := 8) rfl rfl (by decide) ?_
                    refine T_p xr_195_8 xn_195 (pc' := 9) (ls' := [(0, .ref 530), (1, .int (iI n))]) (st' := [.int (iI 1)]) rfl ?_
                    refine T_p xr_195_9 xn_195 (pc' := 13) (ls' := [(0, .ref 530), (1, .int (iI n))]) (st' := [.int (iI 1)]) rfl ?_
                    refine T_iret xr_195_13 xf_195.2.2 (by decide) ?_
                    show X_T sc 193 (77, [(3, .int (iI r2618)), (2, .int (iI c)), (1, .int (iI n)), (0, .ref 530)], [.int (iI 1)], S2607) _
                    refine T_zif_net xr_193_77 (t := 89) rfl (by decide) ?_
                    have hwe : X_wn N nc nx < n := R_wk_e hR hnx (show 0 ≤ n ∧ n < nx by omega) hAo hdn (Or.inl hp2679)
                    refine T_p xr_193_89 xn_193 (pc' := 90) (ls' := [(3, .int (iI r2618)), (2, .int (iI c)), (1, .int (iI n)), (0, .ref 530)]) (st' := [.ref 530]) rfl ?_
                    refine T_p xr_193_90 xn_193 (pc' := 91) (ls' := [(3, .int (iI r2618)), (2, .int (iI c)), (1, .int (iI n)), (0, .ref 530)]) (st' := [.int (iI n), .ref 530]) rfl ?_
                    refine T_cv (S := S2607) (q := 530) xr_193_91 xf_196.1 xf_196.2.1 xn_196 (as := [.int (iI n)]) (r := []) rfl h2608 (Nat.le_of_ble_eq_true rfl) (Nat.le_of_ble_eq_true rfl) (pc' := 94) rfl (ls' := [(0, .ref 530), (1, .int (iI n))]) rfl ?_
                    have h2688 := (hF2603.1 542 (by first | decide | omega)).trans ((hF2594.1 542 (by first | decide | omega)).trans ((n2588 542 (by decide)).trans ((n2584 542 (by decide)).trans ((n2580 542 (by decide)).trans (hA542)))))
                    have h2689 := (hF2603.1 543 (by first | decide | omega)).trans ((hF2594.1 543 (by first | decide | omega)).trans ((n2588 543 (by decide)).trans ((n2584 543 (by decide)).trans ((n2580 543 (by decide)).trans (hA543)))))
                    have h2690 := (hF2603.1 544 (by first | decide | omega)).trans ((hF2594.1 544 (by first | decide | omega)).trans ((n2588 544 (by decide)).trans ((n2584 544 (by decide)).trans ((n2580 544 (by decide)).trans (hA544)))))
                    have h2691 := (hF2603.1 550 (by first | decide | omega)).trans ((hF2594.1 550 (by first | decide | omega)).trans ((n2588 550 (by decide)).trans ((n2584 550 (by decide)).trans ((n2580 550 (by decide)).trans (hA550)))))
                    have h2692 := (hF2603.1 574 (by first | decide | omega)).trans ((hF2594.1 574 (by first | decide | omega)).trans ((n2588 574 (by decide)).trans ((n2584 574 (by decide)).trans ((n2580 574 (by decide)).trans (hA574)))))
                    have h2693 := (hF2603.1 575 (by first | decide | omega)).trans ((hF2594.1 575 (by first | decide | omega)).trans ((n2588 575 (by decide)).trans ((n2584 575 (by decide)).trans ((n2580 575 (by decide)).trans (hA575)))))
                    refine T_mono (r_value sc S2607 wS sO sN tU nW nF nL nP nH bo va vs1 pl1 hv1 (X_ou (X_ou (X_ou (X_ou o 49 nc) 68 1) 69 (-1)) 70 0) nm b rc G tn nc N n V1 h2608 h2688 h2689 h2690 h2691 h2610 h2611 h2612 h2613 h2614 h2692 h2693 hvs1 hpl1 hhv1 (by omega) hG hGs hTU hWS hST hbo hR (by omega) hnd (fun h g1 g2 g3 => by have hc := X_ch_ev hR (show 1 ≤ nx ∧ nx ≤ nc by omega) hA (by omega) (by omega) g3; have hc2 := X_lc_r (N := N) (p := n) (h := h) nc.toNat; exact hW2 _ (by omega) hc.2.1 hc.2.2)) (fun v2694 S2695 h2696 => ?_)
                    rcases h2696 with ⟨vs2697, pl2698, hv2699, hv2700, hp2701, hp2702, ha2703, ha2704, ha2705, hf2706⟩
                    rw [hv2700]
                    have hcr2707 := X_ev_r (G := G) (bo := (fun w => gD G w 6 0)) (va := (fun w => gD G w 7 0)) (V := V1) (N := N) (nc := nc) (n := n)
                    show X_T sc 193 (94, [(3, .int (iI r2618)), (2, .int (iI c)), (1, .int (iI n)), (0, .ref 530)], [.int (iI ((X_ev G (fun w => gD G w 6 0) (fun w => gD G w 7 0) N nc V1 n).1))], S2695) _
                    refine T_p xr_193_94 xn_193 (pc' := 96) (ls' := [(4, .int (iI ((X_ev G (fun w => gD G w 6 0) (fun w => gD G w 7 0) N nc V1 n).1))), (3, .int (iI r2618)), (2, .int (iI c)), (1, .int (iI n)), (0, .ref 530)]) (st' := []) rfl ?_
                    refine T_p xr_193_96 xn_193 (pc' := 98) (ls' := [(4, .int (iI ((X_ev G (fun w => gD G w 6 0) (fun w => gD G w 7 0) N nc V1 n).1))), (3, .int (iI r2618)), (2, .int (iI c)), (1, .int (iI n)), (0, .ref 530)]) (st' := [.int (iI ((X_ev G (fun w => gD G w 6 0) (fun w => gD G w 7 0) N nc V1 n).1))]) rfl ?_
                    refine T_zif_le xr_193_98 (t := 109) (pc' := 101) rfl rfl (fun c2708 => ?_) (fun c2708 => ?_)
                    · skip
                      have c2708 : ((X_ev G (fun w => gD G w 6 0) (fun w => gD G w 7 0) N nc V1 n).1) ≤ 0 := c2708
                      have hv0 : (X_ev G (fun w => gD G w 6 0) (fun w => gD G w 7 0) N nc V1 n).1 = 0 := by omega
                      have hwi : X_wi G (fun w => gD G w 6 0) (fun w => gD G w 7 0) N nc (X_wn N nc nx) (31 - lv).toNat n V1 = X_wi G (fun w => gD G w 6 0) (fun w => gD G w 7 0) N nc (X_wn N nc nx) (31 - (lv + 1)).toNat (N 3 n) (X_ug V1 n (X_ev G (fun w => gD G w 6 0) (fun w => gD G w 7 0) N nc V1 n).2) := by rw [show (31 - lv).toNat = (31 - (lv + 1)).toNat + 1 by omega, X_wi_s (by omega) hv0]
                      have hW3 := X_Wr.st hW2 (show 0 ≤ n by omega) (hp2701 hv0) hp2702
                      have hdn2 := hdn.upd hR (show 0 ≤ n ∧ n < nx by omega) hnx.2
                      have hcn2 := R_cn_u (dn := dn1) (m := nc) (show 0 ≤ n by omega) (by omega) hns
                      have h3n := t0 n (by omega) (by omega)
                      refine T_p xr_193_109 xn_193 (pc' := 110) (ls' := [(4, .int (iI ((X_ev G (fun w => gD G w 6 0) (fun w => gD G w 7 0) N nc V1 n).1))), (3, .int (iI r2618)), (2, .int (iI c)), (1, .int (iI n)), (0, .ref 530)]) (st' := [.ref 530]) rfl ?_
                      have h2709 := (hf2706.1 530 (by first | decide | omega)).trans (h2608)
                      refine T_get xr_193_110 h2709 rfl (v := .ref 579) rfl (pc' := 113) rfl ?_
                      refine T_p xr_193_113 xn_193 (pc' := 114) (ls' := [(4, .int (iI ((X_ev G (fun w => gD G w 6 0) (fun w => gD G w 7 0) N nc V1 n).1))), (3, .int (iI r2618)), (2, .int (iI c)), (1, .int (iI n)), (0, .ref 530)]) (st' := [.int (iI n), .ref 579]) rfl ?_
                      refine T_p xr_193_114 xn_193 (pc' := 115) (ls' := [(4, .int (iI ((X_ev G (fun w => gD G w 6 0) (fun w => gD G w 7 0) N nc V1 n).1))), (3, .int (iI r2618)), (2, .int (iI c)), (1, .int (iI n)), (0, .ref 530)]) (st' := [.int (iI 1), .int (iI n), .ref 579]) rfl ?_
                      have h2710 := (hf2706.1 579 (by first | decide | omega)).trans (hdn1)
                      refine T_zzast xr_193_115 h2710 (pc' := 116) rfl (fun S2711 h2712 n2713 e2714 => ?_)
                      refine T_ziinc xr_193_116 xn_193 (a := c) (z := c + 1) rfl (Nat.le_of_ble_eq_true rfl) (by omega) (ls' := [(2, .int (iI (c + 1))), (4, .int (iI ((X_ev G (fun w => gD G w 6 0) (fun w => gD G w 7 0) N nc V1 n).1))), (3, .int (iI r2618)), (1, .int (iI n)), (0, .ref 530)]) rfl (pc' := 119) rfl ?_
                      refine T_p xr_193_119 xn_193 (pc' := 120) (ls' := [(2, .int (iI (c + 1))), (4, .int (iI ((X_ev G (fun w => gD G w 6 0) (fun w => gD G w 7 0) N nc V1 n).1))), (3, .int (iI r2618)), (1, .int (iI n)), (0, .ref 530)]) (st' := [.ref 530]) rfl ?_
                      have h2715 := (n2713 530 (by decide)).trans (h2709)
                      refine T_get xr_193_120 h2715 rfl (v := .ref 560) rfl (pc' := 123) rfl ?_
                      refine T_p xr_193_123 xn_193 (pc' := 124) (ls' := [(2, .int (iI (c + 1))), (4, .int (iI ((X_ev G (fun w => gD G w 6 0) (fun w => gD G w 7 0) N nc V1 n).1))), (3, .int (iI r2618)), (1, .int (iI n)), (0, .ref 530)]) (st' := [.int (iI n), .ref 560]) rfl ?_
                      have h2716 := (n2713 560 (by decide)).trans ((hf2706.1 560 (by first | decide | omega)).trans (h2613))
                      refine T_ziald xr_193_124 h2716 (pc' := 125) rfl ?_
                      refine T_ie (y := iI (N 3 n)) (by rw [(hnd n (by omega) (by omega)).2.2.2.1]) ?_
                      refine T_p xr_193_125 xn_193 (pc' := 126) (ls' := [(1, .int (iI (N 3 n))), (2, .int (iI (c + 1))), (4, .int (iI ((X_ev G (fun w => gD G w 6 0) (fun w => gD G w 7 0) N nc V1 n).1))), (3, .int (iI r2618)), (0, .ref 530)]) (st' := []) rfl ?_
                      refine T_p xr_193_126 xn_193 (pc' := 127) (ls' := [(1, .int (iI (N 3 n))), (2, .int (iI (c + 1))), (4, .int (iI ((X_ev G (fun w => gD G w 6 0) (fun w => gD G w 7 0) N nc V1 n).1))), (3, .int (iI r2618)), (0, .ref 530)]) (st' := [.int (iI (N 3 n))]) rfl ?_
                      refine T_zif_ge xr_193_127 (t := 133) (pc' := 130) rfl rfl (fun c2717 => ?_) (fun c2717 => ?_)
                      · skip
                        have c2717 : 0 ≤ (N 3 n) := c2717
                        refine T_p xr_193_133 xn_193 (pc' := 51) (ls' := [(1, .int (iI (N 3 n))), (2, .int (iI (c + 1))), (4, .int (iI ((X_ev G (fun w => gD G w 6 0) (fun w => gD G w 7 0) N nc V1 n).1))), (3, .int (iI r2618)), (0, .ref 530)]) (st' := []) rfl ?_
                        have h2718 := (n2713 576 (by decide)).trans (ha2703)
                        have h2719 := (n2713 577 (by decide)).trans (ha2704)
                        have h2720 := (n2713 578 (by decide)).trans (ha2705)
                        refine T_sub (ls := [(2, .int (iI (c + 1))), (1, .int (iI (N 3 n))), (0, .ref 530)]) ⟨rfl, rfl, rfl, trivial⟩ rfl rfl ?_
                        exact ih2600 S2711 (N 3 n) (c + 1) nx (lv + 1) V (X_ug V1 n (X_ev G (fun w => gD G w 6 0) (fun w => gD G w 7 0) N nc V1 n).2) vs2697 pl2698 hv2699 (X_ug dn1 n (X_bo 1)) h2718 h2719 h2720 h2712 (hF2603.tr (((X_Fr.rf).tr (X_Fr.mono ⟨hf2706.1, hf2706.2⟩ (fun q hq => by first | exact hq | (rcases hq with rfl <;> decide) | (rcases hq with rfl | rfl <;> decide) | (rcases hq with rfl | rfl | rfl <;> decide) | (rcases hq with rfl | rfl | rfl | rfl <;> decide) | (rcases hq with rfl | rfl | rfl | rfl | rfl <;> decide) | (rcases hq with rfl | rfl | rfl | rfl | rfl | rfl <;> decide) | (rcases hq with rfl | rfl | rfl | rfl | rfl | rfl | rfl <;> decide) | omega))).tr (X_Fr.of n2713 e2714 (by first | decide | exact ⟨Nat.le_add_right _ _, Nat.add_le_add_left (by decide) _⟩ | omega)))) (by omega) (by omega) (X_An.tr hA (X_An.up (by omega) X_An.rf) t0 (by omega)) (hAo.dn (by omega)).2 (by rw [← hX2, hwi]) hXn hW3 (by have z := hdn2; first | exact z | (rw [show X_bo 1 = 1 by decide]; exact z)) (by first | (rw [show X_bo 1 = 1 by decide, hcn2]; omega) | (rw [hcn2]; omega)) (by first | (have z := R_cn_lt (dn := X_ug dn1 n 1) (m := nc) (n := N 3 n) (by omega) (by omega) (hdn2.self (by omega) (by omega)); rw [hcn2] at z; omega)) (by omega)
                      · skip
                        have c2717 : ¬ (0 ≤ (N 3 n)) := c2717
                        refine T_p xr_193_130 xn_193 (pc' := 136) (ls' := [(1, .int (iI (N 3 n))), (2, .int (iI (c + 1))), (4, .int (iI ((X_ev G (fun w => gD G w 6 0) (fun w => gD G w 7 0) N nc V1 n).1))), (3, .int (iI r2618)), (0, .ref 530)]) (st' := []) rfl ?_
                        have hn0 : n = 0 := Classical.byContradiction (fun z => by have := (t1 n (by omega) (by omega)).1; omega)
                        have hwl := hAo.le t0 (by omega) (by omega)
                        have hxe : nx = nc := Classical.byContradiction (fun z => by have h1 := (t1 nx (by omega) (by omega)).1; have h2 : X_wn N nc nx = N 3 nx := (by unfold X_wn; rw [if_pos (by omega)]); omega)
                        have hRI : X_wi G (fun w => gD G w 6 0) (fun w => gD G w 7 0) N nc (X_wn N nc nx) 31 (nx - 1) V = ((0, N 3 n), X_ug V1 n (X_ev G (fun w => gD G w 6 0) (fun w => gD G w 7 0) N nc V1 n).2) := hX2.symm.trans (hwi.trans (X_wi_e (by omega)))
                        have hXs := X_wo_s (show nx ≤ nc by omega) hRI
                        rw [hXn, hxe, show nc + 1 - (nc + 1) = 0 by omega] at hXs
                        have hRR : (X_wk G (fun w => gD G w 6 0) (fun w => gD G w 7 0) N nc) = (0, -1, (X_ev G (fun w => gD G w 6 0) (fun w => gD G w 7 0) N nc V1 n).2) := hXs.trans (by show (0, (-1 : Int), X_ug V1 n (X_ev G (fun w => gD G w 6 0) (fun w => gD G w 7 0) N nc V1 n).2 0) = _; rw [hn0, X_ug_s])
                        refine T_p xr_193_136 xn_193 (pc' := 137) (ls' := [(1, .int (iI (N 3 n))), (2, .int (iI (c + 1))), (4, .int (iI ((X_ev G (fun w => gD G w 6 0) (fun w => gD G w 7 0) N nc V1 n).1))), (3, .int (iI r2618)), (0, .ref 530)]) (st' := [.ref 530]) rfl ?_
                        refine T_p xr_193_137 xn_193 (pc' := 138) (ls' := [(1, .int (iI (N 3 n))), (2, .int (iI (c + 1))), (4, .int (iI ((X_ev G (fun w => gD G w 6 0) (fun w => gD G w 7 0) N nc V1 n).1))), (3, .int (iI r2618)), (0, .ref 530)]) (st' := [.ref 530, .ref 530]) rfl ?_
                        refine T_get xr_193_138 h2715 rfl (v := .ref 576) rfl (pc' := 141) rfl ?_
                        refine T_p xr_193_141 xn_193 (pc' := 142) (ls' := [(1, .int (iI (N 3 n))), (2, .int (iI (c + 1))), (4, .int (iI ((X_ev G (fun w => gD G w 6 0) (fun w => gD G w 7 0) N nc V1 n).1))), (3, .int (iI r2618)), (0, .ref 530)]) (st' := [.int (iI 0), .ref 576, .ref 530]) rfl ?_
                        have h2721 := (n2713 576 (by decide)).trans (ha2703)
                        refine T_ziald xr_193_142 h2721 (pc' := 143) rfl ?_
                        refine T_ie (y := iI ((X_ev G (fun w => gD G w 6 0) (fun w => gD G w 7 0) N nc V1 n).2)) (congrArg iI (by have z := hp2701 hv0; rw [← z, hn0])) ?_
                        refine T_put xr_193_143 h2715 rfl (Nat.le_of_ble_eq_true rfl) rfl (fs' := [.ref 531, .int (iI (o 1)), .ref 532, .int (iI (o 3)), .int (iI b), .int (iI (o 5)), .int (iI (o 6)), .int (iI (o 7)), .int (iI (o 8)), .int (iI (o 9)), .int (iI (o 10)), .int (iI (o 11)), .long nm, .ref 533, .ref 534, .ref 535, .ref 536, .ref 537, .ref 538, .ref 539, .ref 540, .ref 541, .ref 542, .ref 543, .ref 544, .ref 545, .ref 546, .ref 547, .int (iI rc), .int (iI (gk G)), .int (iI (gw G)), .int (iI (o 31)), .int (iI (o 32)), .int (iI (o 33)), .ref 548, .ref 549, .ref 550, .ref 551, .int (iI tn), .ref 552, .ref 553, .ref 554, .ref 555, .ref 556, .ref 557, .ref 558, .ref 559, .ref 560, .ref 561, .int (iI nc), .ref 562, .ref 563, .ref 564, .ref 565, .ref 566, .ref 567, .ref 568, .ref 569, .int (iI (o 58)), .ref 570, .ref 571, .ref 572, .ref 573, .ref 574, .ref 575, .ref 576, .ref 577, .ref 578, .int (iI 1), .int (iI (-1)), .int (iI ((X_ev G (fun w => gD G w 6 0) (fun w => gD G w 7 0) N nc V1 n).2)), .ref 579]) rfl (pc' := 146) rfl (fun S2722 h2723 n2724 e2725 => ?_)
                        refine T_p xr_193_146 xn_193 (pc' := 147) (ls' := [(1, .int (iI (N 3 n))), (2, .int (iI (c + 1))), (4, .int (iI ((X_ev G (fun w => gD G w 6 0) (fun w => gD G w 7 0) N nc V1 n).1))), (3, .int (iI r2618)), (0, .ref 530)]) (st' := [.int (iI 0)]) rfl ?_
                        refine T_iret xr_193_147 xf_193.2.2 rfl ?_
                        refine hQ _ _ ?_
                        have h2726 := (n2724 576 (by decide)).trans (h2721)
                        have h2727 := (n2724 577 (by decide)).trans ((n2713 577 (by decide)).trans (ha2704))
                        have h2728 := (n2724 578 (by decide)).trans ((n2713 578 (by decide)).trans (ha2705))
                        have h2729 := (n2724 579 (by decide)).trans (h2712)
                        exact Or.inr ⟨vs2697, pl2698, hv2699, (X_ug dn1 n (X_bo 1)), by rw [hRR], by omega, by rw [hRR]; exact h2723, h2726, h2727, h2728, h2729, ((((((((X_Fr.rf).tr (X_Fr.of n2580 e2581 (by first | decide | exact ⟨Nat.le_add_right _ _, Nat.add_le_add_left (by decide) _⟩ | omega))).tr (X_Fr.of n2584 e2585 (by first | decide | exact ⟨Nat.le_add_right _ _, Nat.add_le_add_left (by decide) _⟩ | omega))).tr (X_Fr.of n2588 e2589 (by first | decide | exact ⟨Nat.le_add_right _ _, Nat.add_le_add_left (by decide) _⟩ | omega))).tr (X_Fr.mono ⟨hF2594.1, hF2594.2⟩ (fun q hq => by first | exact hq | (rcases hq with rfl <;> decide) | (rcases hq with rfl | rfl <;> decide) | (rcases hq with rfl | rfl | rfl <;> decide) | (rcases hq with rfl | rfl | rfl | rfl <;> decide) | (rcases hq with rfl | rfl | rfl | rfl | rfl <;> decide) | (rcases hq with rfl | rfl | rfl | rfl | rfl | rfl <;> decide) | (rcases hq with rfl | rfl | rfl | rfl | rfl | rfl | rfl <;> decide) | omega))).tr (X_Fr.mono ⟨hF2603.1, hF2603.2⟩ (fun q hq => by first | exact hq | (rcases hq with rfl <;> decide) | (rcases hq with rfl | rfl <;> decide) | (rcases hq with rfl | rfl | rfl <;> decide) | (rcases hq with rfl | rfl | rfl | rfl <;> decide) | (rcases hq with rfl | rfl | rfl | rfl | rfl <;> decide) | (rcases hq with rfl | rfl | rfl | rfl | rfl | rfl <;> decide) | (rcases hq with rfl | rfl | rfl | rfl | rfl | rfl | rfl <;> decide) | omega))).tr (X_Fr.mono ⟨hf2706.1, hf2706.2⟩ (fun q hq => by first | exact hq | (rcases hq with rfl <;> decide) | (rcases hq with rfl | rfl <;> decide) | (rcases hq with rfl | rfl | rfl <;> decide) | (rcases hq with rfl | rfl | rfl | rfl <;> decide) | (rcases hq with rfl | rfl | rfl | rfl | rfl <;> decide) | (rcases hq with rfl | rfl | rfl | rfl | rfl | rfl <;> decide) | (rcases hq with rfl | rfl | rfl | rfl | rfl | rfl | rfl <;> decide) | omega))).tr (X_Fr.of n2713 e2714 (by first | decide | exact ⟨Nat.le_add_right _ _, Nat.add_le_add_left (by decide) _⟩ | omega))).tr (X_Fr.of n2724 e2725 (by first | decide | exact ⟨Nat.le_add_right _ _, Nat.add_le_add_left (by decide) _⟩ | omega))⟩
                    · skip
                      have c2708 : ¬ (((X_ev G (fun w => gD G w 6 0) (fun w => gD G w 7 0) N nc V1 n).1) ≤ 0) := c2708
                      have hRI : X_wi G (fun w => gD G w 6 0) (fun w => gD G w 7 0) N nc (X_wn N nc nx) 31 (nx - 1) V = (((X_ev G (fun w => gD G w 6 0) (fun w => gD G w 7 0) N nc V1 n).1, n), V1) := hX2.symm.trans (by rw [show (31 - lv).toNat = (31 - (lv + 1)).toNat + 1 by omega, X_wi_x (by omega) (by omega)])
                      have hRR : (X_wk G (fun w => gD G w 6 0) (fun w => gD G w 7 0) N nc) = ((X_ev G (fun w => gD G w 6 0) (fun w => gD G w 7 0) N nc V1 n).1, n, 0) := hXn.symm.trans (X_wo_x (show nx ≤ nc by omega) (by omega) hRI)
                      refine T_p xr_193_101 xn_193 (pc' := 102) (ls' := [(4, .int (iI ((X_ev G (fun w => gD G w 6 0) (fun w => gD G w 7 0) N nc V1 n).1))), (3, .int (iI r2618)), (2, .int (iI c)), (1, .int (iI n)), (0, .ref 530)]) (st' := [.ref 530]) rfl ?_
                      refine T_p xr_193_102 xn_193 (pc' := 103) (ls' := [(4, .int (iI ((X_ev G (fun w => gD G w 6 0) (fun w => gD G w 7 0) N nc V1 n).1))), (3, .int (iI r2618)), (2, .int (iI c)), (1, .int (iI n)), (0, .ref 530)]) (st' := [.int (iI n), .ref 530]) rfl ?_
                      have h2730 := (hf2706.1 530 (by first | decide | omega)).trans (h2608)
                      refine T_put xr_193_103 h2730 rfl (Nat.le_of_ble_eq_true rfl) rfl (fs' := [.ref 531, .int (iI (o 1)), .ref 532, .int (iI (o 3)), .int (iI b), .int (iI (o 5)), .int (iI (o 6)), .int (iI (o 7)), .int (iI (o 8)), .int (iI (o 9)), .int (iI (o 10)), .int (iI (o 11)), .long nm, .ref 533, .ref 534, .ref 535, .ref 536, .ref 537, .ref 538, .ref 539, .ref 540, .ref 541, .ref 542, .ref 543, .ref 544, .ref 545, .ref 546, .ref 547, .int (iI rc), .int (iI (gk G)), .int (iI (gw G)), .int (iI (o 31)), .int (iI (o 32)), .int (iI (o 33)), .ref 548, .ref 549, .ref 550, .ref 551, .int (iI tn), .ref 552, .ref 553, .ref 554, .ref 555, .ref 556, .ref 557, .ref 558, .ref 559, .ref 560, .ref 561, .int (iI nc), .ref 562, .ref 563, .ref 564, .ref 565, .ref 566, .ref 567, .ref 568, .ref 569, .int (iI (o 58)), .ref 570, .ref 571, .ref 572, .ref 573, .ref 574, .ref 575, .ref 576, .ref 577, .ref 578, .int (iI 1), .int (iI n), .int (iI 0), .ref 579]) rfl (pc' := 106) rfl (fun S2731 h2732 n2733 e2734 => ?_)
                      refine T_p xr_193_106 xn_193 (pc' := 108) (ls' := [(4, .int (iI ((X_ev G (fun w => gD G w 6 0) (fun w => gD G w 7 0) N nc V1 n).1))), (3, .int (iI r2618)), (2, .int (iI c)), (1, .int (iI n)), (0, .ref 530)]) (st' := [.int (iI ((X_ev G (fun w => gD G w 6 0) (fun w => gD G w 7 0) N nc V1 n).1))]) rfl ?_
                      refine T_iret xr_193_108 xf_193.2.2 rfl ?_
                      refine hQ _ _ ?_
                      have h2735 := (n2733 576 (by decide)).trans (ha2703)
                      have h2736 := (n2733 577 (by decide)).trans (ha2704)
                      have h2737 := (n2733 578 (by decide)).trans (ha2705)
                      have h2738 := (n2733 579 (by decide)).trans ((hf2706.1 579 (by first | decide | omega)).trans (hdn1))
                      exact Or.inr ⟨vs2697, pl2698, hv2699, dn1, by rw [hRR], by omega, by rw [hRR]; exact h2732, h2735, h2736, h2737, h2738, (((((((X_Fr.rf).tr (X_Fr.of n2580 e2581 (by first | decide | exact ⟨Nat.le_add_right _ _, Nat.add_le_add_left (by decide) _⟩ | omega))).tr (X_Fr.of n2584 e2585 (by first | decide | exact ⟨Nat.le_add_right _ _, Nat.add_le_add_left (by decide) _⟩ | omega))).tr (X_Fr.of n2588 e2589 (by first | decide | exact ⟨Nat.le_add_right _ _, Nat.add_le_add_left (by decide) _⟩ | omega))).tr (X_Fr.mono ⟨hF2594.1, hF2594.2⟩ (fun q hq => by first | exact hq | (rcases hq with rfl <;> decide) | (rcases hq with rfl | rfl <;> decide) | (rcases hq with rfl | rfl | rfl <;> decide) | (rcases hq with rfl | rfl | rfl | rfl <;> decide) | (rcases hq with rfl | rfl | rfl | rfl | rfl <;> decide) | (rcases hq with rfl | rfl | rfl | rfl | rfl | rfl <;> decide) | (rcases hq with rfl | rfl | rfl | rfl | rfl | rfl | rfl <;> decide) | omega))).tr (X_Fr.mono ⟨hF2603.1, hF2603.2⟩ (fun q hq => by first | exact hq | (rcases hq with rfl <;> decide) | (rcases hq with rfl | rfl <;> decide) | (rcases hq with rfl | rfl | rfl <;> decide) | (rcases hq with rfl | rfl | rfl | rfl <;> decide) | (rcases hq with rfl | rfl | rfl | rfl | rfl <;> decide) | (rcases hq with rfl | rfl | rfl | rfl | rfl | rfl <;> decide) | (rcases hq with rfl | rfl | rfl | rfl | rfl | rfl | rfl <;> decide) | omega))).tr (X_Fr.mono ⟨hf2706.1, hf2706.2⟩ (fun q hq => by first | exact hq | (rcases hq with rfl <;> decide) | (rcases hq with rfl | rfl <;> decide) | (rcases hq with rfl | rfl | rfl <;> decide) | (rcases hq with rfl | rfl | rfl | rfl <;> decide) | (rcases hq with rfl | rfl | rfl | rfl | rfl <;> decide) | (rcases hq with rfl | rfl | rfl | rfl | rfl | rfl <;> decide) | (rcases hq with rfl | rfl | rfl | rfl | rfl | rfl | rfl <;> decide) | omega))).tr (X_Fr.of n2733 e2734 (by first | decide | exact ⟨Nat.le_add_right _ _, Nat.add_le_add_left (by decide) _⟩ | omega))⟩
                  · skip
                    rw [hv2682]
                    rw [hf2687]
                    show X_T sc 195 (5, [(0, .ref 530), (1, .int (iI n))], [.int (iI r2681)], S2607) _
                    refine T_zif_ge xr_195_5 (t := 12) (pc' := 8) rfl rfl (fun c2739 => ?_) (fun c2739 => ?_)
                    · skip
                      have c2739 : 0 ≤ r2681 := c2739
                      refine T_p xr_195_12 xn_195 (pc' := 13) (ls' := [(0, .ref 530), (1, .int (iI n))]) (st' := [.int (iI 0)]) rfl ?_
                      refine T_iret xr_195_13 xf_195.2.2 (by decide) ?_
                      show X_T sc 193 (77, [(3, .int (iI r2618)), (2, .int (iI c)), (1, .int (iI n)), (0, .ref 530)], [.int (iI 0)], S2607) _
                      refine T_zif_nef xr_193_77 (t := 89) (pc' := 80) rfl rfl (by decide) ?_
                      refine T_p xr_193_80 xn_193 (pc' := 81) (ls' := [(3, .int (iI r2618)), (2, .int (iI c)), (1, .int (iI n)), (0, .ref 530)]) (st' := [.ref 530]) rfl ?_
                      refine T_p xr_193_81 xn_193 (pc' := 82) (ls' := [(3, .int (iI r2618)), (2, .int (iI c)), (1, .int (iI n)), (0, .ref 530)]) (st' := [.int (iI n), .ref 530]) rfl ?_
                      refine T_cv (S := S2607) (q := 530) xr_193_82 xf_194.1 xf_194.2.1 xn_194 (as := [.int (iI n)]) (r := []) rfl h2608 (Nat.le_of_ble_eq_true rfl) (Nat.le_of_ble_eq_true rfl) (pc' := 85) rfl (ls' := [(0, .ref 530), (1, .int (iI n))]) rfl ?_
                      refine T_mono (r_nextWithin sc S2607 nW nF nL nP nH dn1 (X_ou (X_ou (X_ou (X_ou o 49 nc) 68 1) 69 (-1)) 70 0) nm b rc G tn nc N n h2608 h2610 h2611 h2612 h2613 h2614 hdn1 (by omega) (by omega) hnd t0 (fun m h1 h2 => (hdn m h1 h2).2)) (fun v2740 S2741 h2742 => ?_)
                      rcases h2742 with ⟨hv2743, hp2744, hf2745⟩ | ⟨r2746, hv2747, hp2748, hp2749, hp2750, hp2751, hf2752⟩
                      · skip
                        rw [hv2743]
                        rw [hf2745]
                        show X_T sc 193 (85, [(3, .int (iI r2618)), (2, .int (iI c)), (1, .int (iI n)), (0, .ref 530)], [.int (iI (-1))], S2607) _
                        exact absurd hp2685 (hp2744 r2681 (by omega) (by omega) hp2684)
                      · skip
                        rw [hv2747]
                        rw [hf2752]
                        show X_T sc 193 (85, [(3, .int (iI r2618)), (2, .int (iI c)), (1, .int (iI n)), (0, .ref 530)], [.int (iI r2746)], S2607) _
                        obtain ⟨hrx, hwx, hxc, hx3⟩ := R_wk_d hR hnx (show 0 ≤ n ∧ n < nx by omega) hAo hdn hp2748 hp2749 hp2750 hp2751
                        have hRI : X_wi G (fun w => gD G w 6 0) (fun w => gD G w 7 0) N nc (X_wn N nc nx) 31 (nx - 1) V = ((0, n), V1) := hX2.symm.trans (X_wi_e (by omega))
                        have hXs := X_wo_s (show nx ≤ nc by omega) hRI
                        rw [hXn] at hXs
                        have hwA := X_wn_A hR (show 1 ≤ nx + 1 ∧ nx + 1 ≤ nc by omega)
                        refine T_ie (y := iI nx) (by rw [hrx]) ?_
                        refine T_p xr_193_85 xn_193 (pc' := 86) (ls' := [(1, .int (iI nx)), (3, .int (iI r2618)), (2, .int (iI c)), (0, .ref 530)]) (st' := []) rfl ?_
                        refine T_p xr_193_86 xn_193 (pc' := 51) (ls' := [(1, .int (iI nx)), (3, .int (iI r2618)), (2, .int (iI c)), (0, .ref 530)]) (st' := []) rfl ?_
                        refine T_sub (ls := [(2, .int (iI c)), (1, .int (iI nx)), (0, .ref 530)]) ⟨rfl, rfl, rfl, trivial⟩ rfl rfl ?_
                        exact ih2600 S2607 nx c (nx + 1) 0 V1 V1 vs1 pl1 hv1 dn1 hvs1 hpl1 hhv1 hdn1 (hF2603.tr (X_Fr.rf)) (by omega) (by omega) (by rw [show nx + 1 - 1 = nx by omega]; exact X_An.rf) (by have z := hwA.1; rw [show nx + 1 - 1 = nx by omega] at z; exact z) (by rw [show nx + 1 - 1 = nx by omega]; rfl) hXs.symm (X_Wr.nx hW2 (by omega) hx3) (hdn.down hR (show 0 ≤ n ∧ n < nx by omega) hxc hx3) hc (by have z := R_cn_lt (dn := dn1) (m := nc) (n := nx) (by omega) hxc (fun y => by have := ((hdn nx (by omega) hxc).1.mp y).1; omega); omega) (by omega)
                    · skip
                      have c2739 : ¬ (0 ≤ r2681) := c2739
                      refine T_p xr_195_8 xn_195 (pc' := 9) (ls' := [(0, .ref 530), (1, .int (iI n))]) (st' := [.int (iI 1)]) rfl ?_
                      refine T_p xr_195_9 xn_195 (pc' := 13) (ls' := [(0, .ref 530), (1, .int (iI n))]) (st' := [.int (iI 1)]) rfl ?_
                      refine T_iret xr_195_13 xf_195.2.2 (by decide) ?_
                      show X_T sc 193 (77, [(3, .int (iI r2618)), (2, .int (iI c)), (1, .int (iI n)), (0, .ref 530)], [.int (iI 1)], S2607) _
                      refine T_zif_net xr_193_77 (t := 89) rfl (by decide) ?_
                      exact (show False by omega).elim
          exact L2599 ((nc + nc) + 1).toNat S2596 0 0 1 0 (fun _ => 0) (fun _ => 0) vs pl hv dn1 h2604 h2605 h2606 hdn1 ((X_Fr.rf)) (by omega) (by omega) X_An.rf (by have z := (X_wn_A hR (show (1 : Int) ≤ 1 ∧ 1 ≤ nc by omega)).1; exact z) rfl (by rw [show nc + 1 - 1 = nc by omega]; rfl) (fun m h1 h2 h3 => absurd (by rw [show m = 0 by omega]; exact X_An.rf) h3) (R_dn_0 (fun m h1 h2 => hz m h1 (by omega))) (by rw [R_cn_0 (fun m h1 h2 => hz m h1 (by omega))]; rfl) (by omega) (by omega)
        · skip
          have c2598 : ¬ (nc ≤ i) := c2598
          refine T_p xr_193_34 xn_193 (pc' := 35) (ls' := [(1, .int (iI i)), (0, .ref 530)]) (st' := [.ref 530]) rfl ?_
          refine T_get xr_193_35 h2597 rfl (v := .ref 579) rfl (pc' := 38) rfl ?_
          refine T_p xr_193_38 xn_193 (pc' := 39) (ls' := [(1, .int (iI i)), (0, .ref 530)]) (st' := [.int (iI i), .ref 579]) rfl ?_
          refine T_p xr_193_39 xn_193 (pc' := 40) (ls' := [(1, .int (iI i)), (0, .ref 530)]) (st' := [.int (iI 0), .int (iI i), .ref 579]) rfl ?_
          refine T_zzast xr_193_40 hdn1 (pc' := 41) rfl (fun S2753 h2754 n2755 e2756 => ?_)
          refine T_ziinc xr_193_41 xn_193 (a := i) (z := i + 1) rfl (Nat.le_of_ble_eq_true rfl) (by omega) (ls' := [(1, .int (iI (i + 1))), (0, .ref 530)]) rfl (pc' := 44) rfl ?_
          refine T_p xr_193_44 xn_193 (pc' := 26) (ls' := [(1, .int (iI (i + 1))), (0, .ref 530)]) (st' := []) rfl ?_
          exact ih2591 S2753 (i + 1) (X_ug dn1 i (X_bo 0)) h2754 (hF2594.tr ((X_Fr.rf).tr (X_Fr.of n2755 e2756 (by first | decide | exact ⟨Nat.le_add_right _ _, Nat.add_le_add_left (by decide) _⟩ | omega)))) (by omega) (fun m h1 h2 => by
                by_cases hm : m = i
                · rw [hm, X_ug_s]; first | rfl | decide
                · rw [X_ug_n _ _ hm]; exact hz m h1 (by omega)) (by omega)
    exact L2590 (nc + 1).toNat S2586 0 dn h2595 ((X_Fr.rf)) (by omega) (fun m h1 h2 => absurd h2 (by omega)) (by omega)
  · skip
    have c2577 : ¬ (¬ nc = 0) := c2577
    refine T_p xr_193_7 xn_193 (pc' := 8) (ls' := [(0, .ref 530)]) (st' := [.int (iI (-1))]) rfl ?_
    refine T_iret xr_193_8 xf_193.2.2 rfl ?_
    refine hQ _ _ ?_
    exact Or.inl ⟨rfl, (by omega), rfl⟩
end
section
/-! WHAT THE LAW KEEPS -/
/-- a parsed book and the book as it is now (bound words, holes told) -/
def X_KG (rc : Int) (G : X_G) (K : X_Kp) : Prop := K.2.1 = rc ∧ K.2.2.1 = gk G ∧ K.2.2.2.1 = gw G ∧ K.2.2.2.2.2.1 = gl G ∧ K.2.2.2.2.2.2.2.1 = ga G ∧ K.2.2.2.2.2.2.2.2.2 = gW G ∧ ∀ w f, ¬ (f = 6 ∨ f = 7) → f ≠ 10 → f ≠ 11 → gD G w f = K.2.2.2.2.2.2.2.2.1 w f
theorem X_KG.bind {rc : Int} {G : X_G} {K : X_Kp} (h : X_KG rc G K) {w vl : Int} : X_KG rc (X_Gb G w vl) K := ⟨h.1, h.2.1, h.2.2.1, h.2.2.2.1, h.2.2.2.2.1, h.2.2.2.2.2.1, fun v f g1 g2 g3 => (X_Gb_D g1).trans (h.2.2.2.2.2.2 v f g1 g2 g3)⟩
theorem X_KG.text {rc : Int} {G : X_G} {K : X_Kp} (h : X_KG rc G K) {t : Int → Int64} : X_KG rc (X_Gt G t) K := h
def X_Ao (len : Int) (tb : Int → Int) (G : X_G) (tn nc : Int) (N : Int → Int → Int) : Prop := (0 ≤ len ∧ len ≤ 2000) ∧ (∀ k, 0 ≤ k → k < len → -128 ≤ tb k ∧ tb k ≤ 127) ∧ X_Gok G ∧ X_Gst G ∧ (0 ≤ tn ∧ tn ≤ 30) ∧ X_Rok G tn nc N ∧ (0 < nc → N 4 0 = -1)
theorem X_Ao.len {len len' : Int} {tb : Int → Int} {G : X_G} {tn nc : Int} {N : Int → Int → Int} (h : X_Ao len tb G tn nc N) (h1 : 0 ≤ len' ∧ len' ≤ len) : X_Ao len' tb G tn nc N := ⟨by have := h.1; omega, fun k g1 g2 => h.2.1 k g1 (by omega), h.2.2⟩
theorem X_Ao.feed {len : Int} {tb : Int → Int} {G : X_G} {tn nc : Int} {N : Int → Int → Int} (h : X_Ao len tb G tn nc N) (h1 : len + 20 ≤ 2000) {a b c d e : Int} : X_Ao (len + 20) (X_fd5 tb len a b c d e) G tn nc N := by
  refine ⟨by have := h.1; omega, fun k g1 g2 => ?_, h.2.2⟩
  by_cases hk : k < len
  · rw [X_fd5_o hk]; exact h.2.1 k g1 hk
  · have e1 := X_fd5_i (tb := tb) (len := len) (a := a) (b := b) (c := c) (d := d) (e := e) (k := k - len) (by omega)
    rw [show len + (k - len) = k by omega] at e1
    rw [e1]
    exact X_by_r _
theorem X_Ao.bind {len : Int} {tb : Int → Int} {G : X_G} {tn nc : Int} {N : Int → Int → Int} (h : X_Ao len tb G tn nc N) {w vl : Int} : X_Ao len tb (X_Gb G w vl) tn nc N := by
  obtain ⟨h1, h2, h3, h4, h5, h6, h7⟩ := h
  refine ⟨h1, h2, ?_, ?_, h5, ?_, h7⟩
  · have e : X_Gok (X_Dr (X_Gb G w vl)) := by rw [X_Gb_dr]; exact X_Gok_dr.mpr h3
    exact X_Gok_dr.mp e
  · have e : X_Gst (X_Dr (X_Gb G w vl)) := by rw [X_Gb_dr]; exact X_Gst_dr.mpr h4
    exact X_Gst_dr.mp e
  · have e : X_Rok (X_Dr (X_Gb G w vl)) tn nc N := by rw [X_Gb_dr]; exact X_Rok_dr.mpr h6
    exact X_Rok_dr.mp e
theorem X_Ao.text {len : Int} {tb : Int → Int} {G : X_G} {tn nc : Int} {N : Int → Int → Int} (h : X_Ao len tb G tn nc N) {t : Int → Int64} {n1 : Int} (h1 : 0 ≤ n1 ∧ n1 ≤ 30) : X_Ao 0 tb (X_Gt G t) n1 0 N :=
  ⟨by omega, fun k g1 g2 => absurd g2 (by omega), X_Gt_ok.mpr h.2.2.1, X_Gt_st.mpr h.2.2.2.1, h1, X_Rok_0 h1, fun z => absurd z (by omega)⟩
theorem X_Ao.read {len : Int} {tb : Int → Int} {G : X_G} {tn nc nc1 kk : Int} {N N1 : Int → Int → Int} {r1 : Int} {St1 : Int → X_It} (h : X_Ao len tb G tn nc N) (hkr : kk ≤ 9223372036854775807) (hk : X_qRk G tn kk) (hr : X_rd G tn kk.toNat = (r1, St1, nc1, N1)) : X_Ao len tb G tn nc1 N1 := by
  obtain ⟨h1, h2, h3, h4, h5, h6, h7⟩ := h
  have h8 := X_rd_ok (tn := tn) (k := kk.toNat) h3 ⟨hk.2.1, h5.2⟩ (by have := hk.1; have := hk.2.2; omega) (by omega)
  have h9 := X_rd_4 (G := G) (tn := tn) (k := kk.toNat)
  rw [hr] at h8 h9
  exact ⟨h1, h2, h3, h4, h5, h8.2, fun _ => h9⟩
/-- a told book -/
theorem X_bk_ok {tb : Int → Int} {len n : Int} {so pl : Int → Int} {ct : Int → Int64} {rn : Int → Int64} {lo : Int → Int} {kn : Int → Int64} {ab : Int → Int} {D : Int → Nat → Int → Int} {W : Int → Int → Int64} {K : X_Kp} (hT : X_Txt tb len n so pl ct) (h : sp_lines n so ct 2001 (0, 0, 1, 0, rn, lo, X_ug kn 0 (Int64.ofNat 6384748), X_ug ab 0 1, D, W) = some K) : X_Kok K ∧ X_K4 K ∧ X_Kp2 K := by
  obtain ⟨h1, ⟨E, hE⟩, h3, h4⟩ := hT
  refine sp_lines_p2 (fun i a b c => X_Tok_pt (hE.2 i a b).2 c) (X_Tks_part hE) 2001 _ K ⟨Int.le_refl (0 : Int), show (0 : Int) < n by omega⟩ ⟨(show (0 : Int) ≤ 0 ∧ (0 : Int) ≤ 12 by omega), (show (1 : Int) ≤ 1 ∧ (1 : Int) ≤ 11 by omega), (show (0 : Int) ≤ 0 ∧ (0 : Int) ≤ 30 by omega), fun w g1 g2 => absurd (show w < 0 from g2) (by omega)⟩ (fun w g1 g2 => absurd (show w < 0 from g2) (by omega)) ⟨⟨fun k g1 g2 => ?_, fun k u g1 g2 g3 g4 g5 => ?_⟩, fun w g1 g2 => absurd (show w < 0 from g2) (by omega)⟩ h
  · have g2 : k < 1 := g2
    obtain rfl : k = 0 := by omega
    show X_bt (X_ug ab 0 1 0) 0 ∧ X_bt (X_ug ab 0 1 0) 0
    rw [X_ug_s]
    exact ⟨(X_bt_1 0 (by omega)).mpr rfl, (X_bt_1 0 (by omega)).mpr rfl⟩
  · have g2 : k < 1 := g2
    obtain rfl : k = 0 := by omega
    have g5 : X_bt (X_ug ab 0 1 0) u := g5
    rw [X_ug_s, X_bt_1 u ⟨g3, g4⟩] at g5
    show u < 1
    omega
theorem X_Txt.E {tb : Int → Int} {len n : Int} {so pl : Int → Int} {ct : Int → Int64} (hT : X_Txt tb len n so pl ct) (hl : 0 ≤ len ∧ len ≤ 2000) : ∃ E, X_TxE tb len n so pl ct E ∧ ∀ i, 0 ≤ i → i < n → so i = 6 → ¬ ct i = 0 := by
  obtain ⟨h1, ⟨E, hE⟩, h3, h4⟩ := hT
  exact ⟨E, ⟨hl, h1, hE, h3, h4⟩, X_Tks_part hE⟩
theorem X_Ao.book {len : Int} {tb : Int → Int} {G : X_G} {tn nc : Int} {N : Int → Int → Int} (h : X_Ao len tb G tn nc N) {n : Int} {so pl : Int → Int} {ct : Int → Int64} {c1 rc1 kc1 wc1 : Int} {rn1 rn : Int → Int64} {lo1 lo : Int → Int} {kn1 kn : Int → Int64} {ab1 ab : Int → Int} {D1 D3 D : Int → Nat → Int → Int} {W1 W : Int → Int → Int64} (hT : X_Txt tb len n so pl ct) (hs : sp_lines n so ct 2001 (0, 0, 1, 0, rn, lo, X_ug kn 0 (Int64.ofNat 6384748), X_ug ab 0 1, D, W) = some (c1, rc1, kc1, wc1, rn1, lo1, kn1, ab1, D1, W1)) (hD : X_sD D1 D3) (ht : ∀ w, 0 ≤ w → w < wc1 → ∀ e, X_hl (D1 w) (W1 w) e → X_tkn lo1 ab1 kc1 wc1 D1 W1 w e (D3 w 11 (D1 w 8 e)) (D3 w 10 (D1 w 8 e))) :
    X_Ao 0 tb (kc1, wc1, lo1, ab1, D3, W1, gt G) 0 0 N ∧ X_KG rc1 (kc1, wc1, lo1, ab1, D3, W1, gt G) (c1, rc1, kc1, wc1, rn1, lo1, kn1, ab1, D1, W1) ∧ ∀ w, 0 ≤ w → w < wc1 → gD (kc1, wc1, lo1, ab1, D3, W1, gt G) w 6 0 = 0 := by
  obtain ⟨b1, b2, b3⟩ := X_bk_ok hT hs
  have hg := X_Gok_of (tt := gt G) b1 b2 b3 hD ht
  refine ⟨⟨by omega, fun k g1 g2 => absurd g2 (by omega), hg.1, hg.2, by omega, X_Rok_0 (by omega), fun z => absurd z (by omega)⟩, ⟨rfl, rfl, rfl, rfl, rfl, rfl, fun w f g1 g2 g3 => hD w f g2 g3⟩, fun w g1 g2 => ?_⟩
  have h6 := (b1.2.2.2 w g1 g2).2.2.2.2.2.1
  have e : D3 w 6 = D1 w 6 := hD w 6 (by decide) (by decide)
  show D3 w 6 0 = 0
  rw [e]
  exact h6
theorem R_bk.hyps {b rc : Int} {G : X_G} {K : X_Kp} {rN : Int → Int64} {kN : Int → Int64} {tg : Int → Int} {kU : Int → Int} {wR : Int → Int} {wL : Int → Int} {wK : Int → Int} {wM : Int → Int} {wH : Int → Int} {wS : Int → Int} {sO : Int → Int} {sN : Int → Int} {eP : Int → Int64} {eH : Int → Int} {hK : Int → Int} (h : R_bk b K rN kN tg kU wR wL wK wM wH wS sO sN eP eH hK) (hKk : X_Kok K) (hg : X_KG rc G K) : (0 ≤ rc ∧ rc ≤ 12) ∧ ((∀ u, 0 ≤ u → u < 32 → (X_bt (ga G 0) u ↔ u = 0)) ∧ kU (11 * b) = -1 ∧ ∀ k, 1 ≤ k → k < gk G → (0 ≤ kU (11 * b + k) ∧ kU (11 * b + k) < k) ∧ ∀ u, 0 ≤ u → u < 32 → (X_bt (ga G k) u ↔ u = k ∨ X_bt (ga G (kU (11 * b + k))) u)) ∧ ((∀ i j, 0 ≤ i → i < rc → 0 ≤ j → j < rc → tg (144 * b + 12 * i + j) = bI (X_bt (gl G i) j)) ∧ ∀ w, 0 ≤ w → w < gw G → gD G w 0 0 < rc) ∧ (∀ w, 0 ≤ w → w < gw G → wR (30 * b + w) = gD G w 0 0) ∧ (∀ w, 0 ≤ w → w < gw G → wL (30 * b + w) = gD G w 1 0) ∧ (∀ w, 0 ≤ w → w < gw G → wK (30 * b + w) = gD G w 2 0) ∧ (∀ w, 0 ≤ w → w < gw G → wM (30 * b + w) = gD G w 3 0) ∧ (∀ w, 0 ≤ w → w < gw G → wH (30 * b + w) = gD G w 4 0) ∧ (∀ w, 0 ≤ w → w < gw G → wS (30 * b + w) = gD G w 5 0) ∧ (∀ w, 0 ≤ w → w < gw G → ∀ e, 0 ≤ e → e < gD G w 3 0 → eP (8 * (30 * b + w) + e) = gW G w e) ∧ (∀ w, 0 ≤ w → w < gw G → ∀ e, 0 ≤ e → e < gD G w 3 0 → gW G w e = 0 → eH (8 * (30 * b + w) + e) = gD G w 8 e) ∧ (∀ w, 0 ≤ w → w < gw G → ∀ h, 0 ≤ h → h < gD G w 4 0 → hK (4 * (30 * b + w) + h) = gD G w 9 h) ∧ (∀ w, 0 ≤ w → w < gw G → ∀ k, 0 ≤ k → k < gD G w 5 0 → sO (30 * (30 * b + w) + k) = X_op (gD G w 12 k) ∧ (gD G w 12 k = 4 → sN (30 * (30 * b + w) + k) = gD G w 13 k) ∧ (gD G w 12 k = 64 → sN (30 * (30 * b + w) + k) = gD G w 13 k - 1)) := by
  obtain ⟨c, rc', kc, wc, rn, lo, kn, ab, D, W⟩ := K
  obtain ⟨e1, e2, e3, e4, e5, e6, e7⟩ := hg
  obtain ⟨k1, -, -, k4⟩ := hKk
  obtain ⟨⟨-, a2, -⟩, ⟨-, c2, c3, c4⟩, h3⟩ := h
  simp only at e1 e2 e3 e4 e5 e6 e7 k1 k4 a2 c2 c3 c4 h3
  subst e1; subst e2; subst e3; subst e4; subst e5; subst e6
  refine ⟨k1, ⟨c2, c3, c4⟩, ⟨a2, fun w h1 h2 => by rw [(e7 w 0 (by decide) (by decide) (by decide))]; exact (k4 w h1 h2).2.2.1.2⟩, fun w h1 h2 => by rw [(e7 w 0 (by decide) (by decide) (by decide))]; exact (h3 w h1 h2).1, fun w h1 h2 => by rw [(e7 w 1 (by decide) (by decide) (by decide))]; exact (h3 w h1 h2).2.1, fun w h1 h2 => by rw [(e7 w 2 (by decide) (by decide) (by decide))]; exact (h3 w h1 h2).2.2.1, fun w h1 h2 => by rw [(e7 w 3 (by decide) (by decide) (by decide))]; exact (h3 w h1 h2).2.2.2.1.1, fun w h1 h2 => by rw [(e7 w 4 (by decide) (by decide) (by decide))]; exact (h3 w h1 h2).2.2.2.1.2.1, fun w h1 h2 => by rw [(e7 w 5 (by decide) (by decide) (by decide))]; exact (h3 w h1 h2).2.2.2.2.1, ?_, ?_, ?_, ?_⟩
  · intro w h1 h2 e g1 g2
    rw [(e7 w 3 (by decide) (by decide) (by decide))] at g2
    exact ((h3 w h1 h2).2.2.2.1.2.2.1 e g1 g2).1
  · intro w h1 h2 e g1 g2 g3
    rw [(e7 w 3 (by decide) (by decide) (by decide))] at g2
    rw [(e7 w 8 (by decide) (by decide) (by decide))]
    exact ((h3 w h1 h2).2.2.2.1.2.2.1 e g1 g2).2 g3
  · intro w h1 h2 x g1 g2
    rw [(e7 w 4 (by decide) (by decide) (by decide))] at g2
    rw [(e7 w 9 (by decide) (by decide) (by decide))]
    exact (h3 w h1 h2).2.2.2.1.2.2.2 x g1 g2
  · intro w h1 h2 k g1 g2
    rw [(e7 w 5 (by decide) (by decide) (by decide))] at g2
    rw [(e7 w 12 (by decide) (by decide) (by decide)), (e7 w 13 (by decide) (by decide) (by decide))]
    exact (h3 w h1 h2).2.2.2.2.2 k g1 g2
theorem X_Mo_ob {S : X_S} {o : Nat → Int} {nm : Int64} {len b x28 x29 x30 x31 x32 x33 tn nc wk f69 f70 : Int} (h : M_o S o nm) (h1 : o 1 = len) (h4 : o 4 = b) (h28 : o 28 = x28) (h29 : o 29 = x29) (h30 : o 30 = x30) (h31 : o 31 = x31) (h32 : o 32 = x32) (h33 : o 33 = x33) (h38 : o 38 = tn) (h49 : o 49 = nc) (h68 : o 68 = wk) (h69 : o 69 = f69) (h70 : o 70 = f70) : S.1 530 = .inr (11, [.ref 531, .int (iI len), .ref 532, .int (iI (o 3)), .int (iI b), .int (iI (o 5)), .int (iI (o 6)), .int (iI (o 7)), .int (iI (o 8)), .int (iI (o 9)), .int (iI (o 10)), .int (iI (o 11)), .long nm, .ref 533, .ref 534, .ref 535, .ref 536, .ref 537, .ref 538, .ref 539, .ref 540, .ref 541, .ref 542, .ref 543, .ref 544, .ref 545, .ref 546, .ref 547, .int (iI x28), .int (iI x29), .int (iI x30), .int (iI x31), .int (iI x32), .int (iI x33), .ref 548, .ref 549, .ref 550, .ref 551, .int (iI tn), .ref 552, .ref 553, .ref 554, .ref 555, .ref 556, .ref 557, .ref 558, .ref 559, .ref 560, .ref 561, .int (iI nc), .ref 562, .ref 563, .ref 564, .ref 565, .ref 566, .ref 567, .ref 568, .ref 569, .int (iI (o 58)), .ref 570, .ref 571, .ref 572, .ref 573, .ref 574, .ref 575, .ref 576, .ref 577, .ref 578, .int (iI wk), .int (iI f69), .int (iI f70), .ref 579]) := by
  subst h1; subst h4; subst h28; subst h29; subst h30; subst h31; subst h32; subst h33; subst h38; subst h49; subst h68; subst h69; subst h70
  exact h
theorem X_ob_Mo {S : X_S} {o : Nat → Int} {nm : Int64} {len b x28 x29 x30 x31 x32 x33 tn nc wk f69 f70 : Int} (h : S.1 530 = .inr (11, [.ref 531, .int (iI len), .ref 532, .int (iI (o 3)), .int (iI b), .int (iI (o 5)), .int (iI (o 6)), .int (iI (o 7)), .int (iI (o 8)), .int (iI (o 9)), .int (iI (o 10)), .int (iI (o 11)), .long nm, .ref 533, .ref 534, .ref 535, .ref 536, .ref 537, .ref 538, .ref 539, .ref 540, .ref 541, .ref 542, .ref 543, .ref 544, .ref 545, .ref 546, .ref 547, .int (iI x28), .int (iI x29), .int (iI x30), .int (iI x31), .int (iI x32), .int (iI x33), .ref 548, .ref 549, .ref 550, .ref 551, .int (iI tn), .ref 552, .ref 553, .ref 554, .ref 555, .ref 556, .ref 557, .ref 558, .ref 559, .ref 560, .ref 561, .int (iI nc), .ref 562, .ref 563, .ref 564, .ref 565, .ref 566, .ref 567, .ref 568, .ref 569, .int (iI (o 58)), .ref 570, .ref 571, .ref 572, .ref 573, .ref 574, .ref 575, .ref 576, .ref 577, .ref 578, .int (iI wk), .int (iI f69), .int (iI f70), .ref 579])) : ∃ o2 : Nat → Int, M_o S o2 nm ∧ o2 1 = len ∧ o2 4 = b ∧ o2 28 = x28 ∧ o2 29 = x29 ∧ o2 30 = x30 ∧ o2 31 = x31 ∧ o2 32 = x32 ∧ o2 33 = x33 ∧ o2 38 = tn ∧ o2 49 = nc ∧ o2 68 = wk ∧ o2 69 = f69 ∧ o2 70 = f70 := by
  refine ⟨fun k => if k = 1 then len else if k = 4 then b else if k = 28 then x28 else if k = 29 then x29 else if k = 30 then x30 else if k = 31 then x31 else if k = 32 then x32 else if k = 33 then x33 else if k = 38 then tn else if k = 49 then nc else if k = 68 then wk else if k = 69 then f69 else if k = 70 then f70 else o k, ?_, rfl, rfl, rfl, rfl, rfl, rfl, rfl, rfl, rfl, rfl, rfl, rfl, rfl⟩
  unfold M_o
  simp only [Nat.reduceEqDiff, reduceIte]
  exact h
end
section
def X_ICa (S : X_S) (B : Nat) (B2 : Nat) (len : Int) (tb : Int → Int) : Prop := S.1 1 = .inr (10, [.ref 2, .ref B, .ref B2, .ref 496, .ref 501, .ref 504, .ref 511, .ref 517, .ref 527]) ∧ S.1 2 = .inr (7, [.ref 3, .int (iI len)]) ∧ S.1 3 = .inl (.byte, 2000, .inl fun k : Nat => iI (tb (k : Int)))
theorem X_ICa.fr {S S' : X_S} {B : Nat} {B2 : Nat} {len : Int} {tb : Int → Int} {P : Nat → Prop} (h : X_ICa S B B2 len tb) (hf : X_Fr P S S') (hp : ∀ q, 1 ≤ q → q ≤ 3 → ¬ P q) : X_ICa S' B B2 len tb := by
  obtain ⟨hc1, hc2, hc3⟩ := h
  exact ⟨(hf.1 1 (hp 1 (by omega) (by omega))).trans hc1, (hf.1 2 (hp 2 (by omega) (by omega))).trans hc2, (hf.1 3 (hp 3 (by omega) (by omega))).trans hc3⟩
def X_ICp (S : X_S)  : Prop := ∃ (B0 : Nat) (fl0 : Int) (fp0 : Int) (at0 : Int) (n0 : Int) (cur0 : Int) (so0 : Int → Int) (pl0 : Int → Int) (ct0 : Int → Int64), C_pa S B0 fl0 fp0 ∧ C_lx S at0 n0 cur0 so0 pl0 ct0
theorem X_ICp.fr {S S' : X_S}  {P : Nat → Prop} (h : X_ICp S ) (hf : X_Fr P S S') (hp : ∀ q, 496 ≤ q → q ≤ 500 → ¬ P q) : X_ICp S'  := by
  obtain ⟨B0, fl0, fp0, at0, n0, cur0, so0, pl0, ct0, hp0, hx0⟩ := h
  exact ⟨B0, fl0, fp0, at0, n0, cur0, so0, pl0, ct0, (hf.1 496 (hp 496 (by omega) (by omega))).trans hp0, ⟨(hf.1 497 (hp 497 (by omega) (by omega))).trans hx0.1, (hf.1 498 (hp 498 (by omega) (by omega))).trans hx0.2.1, (hf.1 499 (hp 499 (by omega) (by omega))).trans hx0.2.2.1, (hf.1 500 (hp 500 (by omega) (by omega))).trans hx0.2.2.2⟩⟩
def X_ICb (S : X_S) (B : Nat) (rc : Int) (G : X_G) : Prop := ∃ (rn : Int → Int64) (kn : Int → Int64), C_bk S B rc (gk G) (gw G) rn (gl G) kn (ga G) ∧ C_ws S B (gD G) (gW G)
theorem X_ICb.fr {S S' : X_S} {B : Nat} {rc : Int} {G : X_G} {P : Nat → Prop} (h : X_ICb S B rc G) (hf : X_Fr P S S') (hp : ∀ q, B ≤ q → q ≤ B + 245 → ¬ P q) : X_ICb S' B rc G := by
  obtain ⟨rn, kn, hb, hs⟩ := h
  exact ⟨rn, kn, hb.fr hf (fun k hk => hp _ (by omega) (by omega)), hs.fr hf (fun k h1 h2 => hp _ (by omega) (by omega))⟩
def X_ICd (S : X_S) (B2 : Nat) : Prop := ∃ (rc2 : Int) (kc2 : Int) (wc2 : Int) (rn2 : Int → Int64) (lo2 : Int → Int) (kn2 : Int → Int64) (ab2 : Int → Int) (D2 : Int → Nat → Int → Int) (W2 : Int → Int → Int64), C_bk S B2 rc2 kc2 wc2 rn2 lo2 kn2 ab2 ∧ C_ws S B2 D2 W2
theorem X_ICd.fr {S S' : X_S} {B2 : Nat} {P : Nat → Prop} (h : X_ICd S B2) (hf : X_Fr P S S') (hp : ∀ q, B2 ≤ q → q ≤ B2 + 245 → ¬ P q) : X_ICd S' B2 := by
  obtain ⟨rc2, kc2, wc2, rn2, lo2, kn2, ab2, D2, W2, hb2, hs2⟩ := h
  exact ⟨rc2, kc2, wc2, rn2, lo2, kn2, ab2, D2, W2, hb2.fr hf (fun k hk => hp _ (by omega) (by omega)), hs2.fr hf (fun k h1 h2 => hp _ (by omega) (by omega))⟩
def X_ICs (S : X_S) (G : X_G) (tn : Int) : Prop := ∃ (dr : Int → Int64), S.1 501 = .inr (6, [.int (iI tn), .ref 502, .ref 503]) ∧ S.1 502 = .inl (.long, 30, .inr (.inl fun k : Nat => (gt G) (k : Int))) ∧ S.1 503 = .inl (.long, 30, .inr (.inl fun k : Nat => dr (k : Int)))
theorem X_ICs.fr {S S' : X_S} {G : X_G} {tn : Int} {P : Nat → Prop} (h : X_ICs S G tn) (hf : X_Fr P S S') (hp : ∀ q, 501 ≤ q → q ≤ 503 → ¬ P q) : X_ICs S' G tn := by
  obtain ⟨dr, hc501, hc502, hc503⟩ := h
  exact ⟨dr, (hf.1 501 (hp 501 (by omega) (by omega))).trans hc501, (hf.1 502 (hp 502 (by omega) (by omega))).trans hc502, (hf.1 503 (hp 503 (by omega) (by omega))).trans hc503⟩
def X_ICr (S : X_S) (nc : Int) (N : Int → Int → Int) : Prop := ∃ (nW : Int → Int) (nF : Int → Int) (nL : Int → Int) (nP : Int → Int) (nH : Int → Int) (nC : Int → Int), S.1 504 = .inr (5, [.int (iI nc), .ref 505, .ref 506, .ref 507, .ref 508, .ref 509, .ref 510]) ∧ S.1 505 = .inl (.int, 30, .inl fun k : Nat => iI (nW (k : Int))) ∧ S.1 506 = .inl (.int, 30, .inl fun k : Nat => iI (nF (k : Int))) ∧ S.1 507 = .inl (.int, 30, .inl fun k : Nat => iI (nL (k : Int))) ∧ S.1 508 = .inl (.int, 30, .inl fun k : Nat => iI (nP (k : Int))) ∧ S.1 509 = .inl (.int, 30, .inl fun k : Nat => iI (nH (k : Int))) ∧ S.1 510 = .inl (.int, 120, .inl fun k : Nat => iI (nC (k : Int))) ∧ F_nd nc N nW nF nL nP nH ∧ F_ch nc N nC
theorem X_ICr.fr {S S' : X_S} {nc : Int} {N : Int → Int → Int} {P : Nat → Prop} (h : X_ICr S nc N) (hf : X_Fr P S S') (hp : ∀ q, 504 ≤ q → q ≤ 510 → ¬ P q) : X_ICr S' nc N := by
  obtain ⟨nW, nF, nL, nP, nH, nC, hc504, hc505, hc506, hc507, hc508, hc509, hc510, hnd, hch⟩ := h
  exact ⟨nW, nF, nL, nP, nH, nC, (hf.1 504 (hp 504 (by omega) (by omega))).trans hc504, (hf.1 505 (hp 505 (by omega) (by omega))).trans hc505, (hf.1 506 (hp 506 (by omega) (by omega))).trans hc506, (hf.1 507 (hp 507 (by omega) (by omega))).trans hc507, (hf.1 508 (hp 508 (by omega) (by omega))).trans hc508, (hf.1 509 (hp 509 (by omega) (by omega))).trans hc509, (hf.1 510 (hp 510 (by omega) (by omega))).trans hc510, hnd, hch⟩
def X_ICc (S : X_S) (B : Nat) (G : X_G) (tn : Int) : Prop := ∃ (fl : Int) (oK : Int → Int64) (oW : Int → Int64) (oA : Int → Int64) (oH : Int → Int64) (tl : Int → Int64), S.1 511 = .inr (1, [.ref B, .ref 501, .int (iI fl), .ref 512, .ref 513, .ref 514, .ref 515, .ref 516]) ∧ S.1 512 = .inl (.long, 5115, .inr (.inl fun k : Nat => oK (k : Int))) ∧ S.1 513 = .inl (.long, 13950, .inr (.inl fun k : Nat => oW (k : Int))) ∧ S.1 514 = .inl (.long, 465, .inr (.inl fun k : Nat => oA (k : Int))) ∧ S.1 515 = .inl (.long, 55800, .inr (.inl fun k : Nat => oH (k : Int))) ∧ S.1 516 = .inl (.long, 7200, .inr (.inl fun k : Nat => tl (k : Int))) ∧ (0 ≤ fl ∧ fl ≤ 1) ∧ (fl = 1 → X_cht G (-2) tn oK oW oA oH)
theorem X_ICc.fr {S S' : X_S} {B : Nat} {G : X_G} {tn : Int} {P : Nat → Prop} (h : X_ICc S B G tn) (hf : X_Fr P S S') (hp : ∀ q, 511 ≤ q → q ≤ 516 → ¬ P q) : X_ICc S' B G tn := by
  obtain ⟨fl, oK, oW, oA, oH, tl, hc511, hc512, hc513, hc514, hc515, hc516, hfl, hC⟩ := h
  exact ⟨fl, oK, oW, oA, oH, tl, (hf.1 511 (hp 511 (by omega) (by omega))).trans hc511, (hf.1 512 (hp 512 (by omega) (by omega))).trans hc512, (hf.1 513 (hp 513 (by omega) (by omega))).trans hc513, (hf.1 514 (hp 514 (by omega) (by omega))).trans hc514, (hf.1 515 (hp 515 (by omega) (by omega))).trans hc515, (hf.1 516 (hp 516 (by omega) (by omega))).trans hc516, hfl, hC⟩
def X_ICf (S : X_S)  : Prop := ∃ (wt : Int) (fF : Int → Int) (fE : Int → Int) (fP : Int → Int) (fH : Int → Int) (fW : Int → Int) (fK : Int → Int) (fN : Int → Int64) (hF : Int → Int) (hE : Int → Int), S.1 517 = .inr (2, [.ref 511, .ref 501, .ref 504, .int (iI wt), .ref 518, .ref 519, .ref 520, .ref 521, .ref 522, .ref 523, .ref 524, .ref 525, .ref 526]) ∧ S.1 518 = .inl (.int, 30, .inl fun k : Nat => iI (fF (k : Int))) ∧ S.1 519 = .inl (.int, 30, .inl fun k : Nat => iI (fE (k : Int))) ∧ S.1 520 = .inl (.int, 30, .inl fun k : Nat => iI (fP (k : Int))) ∧ S.1 521 = .inl (.int, 30, .inl fun k : Nat => iI (fH (k : Int))) ∧ S.1 522 = .inl (.int, 30, .inl fun k : Nat => iI (fW (k : Int))) ∧ S.1 523 = .inl (.int, 30, .inl fun k : Nat => iI (fK (k : Int))) ∧ S.1 524 = .inl (.long, 30, .inr (.inl fun k : Nat => fN (k : Int))) ∧ S.1 525 = .inl (.int, 4, .inl fun k : Nat => iI (hF (k : Int))) ∧ S.1 526 = .inl (.int, 4, .inl fun k : Nat => iI (hE (k : Int)))
theorem X_ICf.fr {S S' : X_S}  {P : Nat → Prop} (h : X_ICf S ) (hf : X_Fr P S S') (hp : ∀ q, 517 ≤ q → q ≤ 526 → ¬ P q) : X_ICf S'  := by
  obtain ⟨wt, fF, fE, fP, fH, fW, fK, fN, hF, hE, hc517, hc518, hc519, hc520, hc521, hc522, hc523, hc524, hc525, hc526⟩ := h
  exact ⟨wt, fF, fE, fP, fH, fW, fK, fN, hF, hE, (hf.1 517 (hp 517 (by omega) (by omega))).trans hc517, (hf.1 518 (hp 518 (by omega) (by omega))).trans hc518, (hf.1 519 (hp 519 (by omega) (by omega))).trans hc519, (hf.1 520 (hp 520 (by omega) (by omega))).trans hc520, (hf.1 521 (hp 521 (by omega) (by omega))).trans hc521, (hf.1 522 (hp 522 (by omega) (by omega))).trans hc522, (hf.1 523 (hp 523 (by omega) (by omega))).trans hc523, (hf.1 524 (hp 524 (by omega) (by omega))).trans hc524, (hf.1 525 (hp 525 (by omega) (by omega))).trans hc525, (hf.1 526 (hp 526 (by omega) (by omega))).trans hc526⟩
def X_ICw (S : X_S) (rs : Int) (re : Int) : Prop := ∃ (hgt : Int) (vs : Int → Int) (pl : Int → Int), S.1 527 = .inr (9, [.ref 501, .ref 504, .int (iI rs), .int (iI re), .ref 528, .ref 529, .int (iI hgt)]) ∧ S.1 528 = .inl (.int, 30, .inl fun k : Nat => iI (vs (k : Int))) ∧ S.1 529 = .inl (.int, 16, .inl fun k : Nat => iI (pl (k : Int)))
theorem X_ICw.fr {S S' : X_S} {rs : Int} {re : Int} {P : Nat → Prop} (h : X_ICw S rs re) (hf : X_Fr P S S') (hp : ∀ q, 527 ≤ q → q ≤ 529 → ¬ P q) : X_ICw S' rs re := by
  obtain ⟨hgt, vs, pl, hc527, hc528, hc529⟩ := h
  exact ⟨hgt, vs, pl, (hf.1 527 (hp 527 (by omega) (by omega))).trans hc527, (hf.1 528 (hp 528 (by omega) (by omega))).trans hc528, (hf.1 529 (hp 529 (by omega) (by omega))).trans hc529⟩
def X_IC (S : X_S) (len : Int) (tb : Int → Int) (rc : Int) (G : X_G) (tn : Int) (nc : Int) (N : Int → Int → Int) (rs : Int) (re : Int) : Prop :=
  ∃ (B : Nat) (B2 : Nat), ((B = 4 ∧ B2 = 250) ∨ (B = 250 ∧ B2 = 4)) ∧ X_ICa S B B2 len tb ∧ X_ICp S  ∧ X_ICb S B rc G ∧ X_ICd S B2 ∧ X_ICs S G tn ∧ X_ICr S nc N ∧ X_ICc S B G tn ∧ X_ICf S  ∧ X_ICw S rs re
theorem X_IC.fr {S S' : X_S} {len : Int} {tb : Int → Int} {rc : Int} {G : X_G} {tn : Int} {nc : Int} {N : Int → Int → Int} {rs : Int} {re : Int} {P : Nat → Prop} (hI : X_IC S len tb rc G tn nc N rs re) (hf : X_Fr P S S') (hp : ∀ q, 1 ≤ q → q < 530 → ¬ P q) : X_IC S' len tb rc G tn nc N rs re := by
  obtain ⟨B, B2, hB_, hg_a, hg_p, hg_b, hg_d, hg_s, hg_r, hg_c, hg_f, hg_w⟩ := hI
  exact ⟨B, B2, hB_, hg_a.fr hf (fun q h1 h2 => hp q (by omega) (by omega)), hg_p.fr hf (fun q h1 h2 => hp q (by omega) (by omega)), hg_b.fr hf (fun q h1 h2 => hp q (by omega) (by omega)), hg_d.fr hf (fun q h1 h2 => hp q (by omega) (by omega)), hg_s.fr hf (fun q h1 h2 => hp q (by omega) (by omega)), hg_r.fr hf (fun q h1 h2 => hp q (by omega) (by omega)), hg_c.fr hf (fun q h1 h2 => hp q (by omega) (by omega)), hg_f.fr hf (fun q h1 h2 => hp q (by omega) (by omega)), hg_w.fr hf (fun q h1 h2 => hp q (by omega) (by omega))⟩
theorem X_ICc.bind {S : X_S} {B : Nat} {G : X_G} {tn w vl : Int} (h : X_ICc S B G tn) : X_ICc S B (X_Gb G w vl) tn := by
  obtain ⟨fl, oK, oW, oA, oH, tl, h1, h2, h3, h4, h5, h6, h7, hC⟩ := h
  exact ⟨fl, oK, oW, oA, oH, tl, h1, h2, h3, h4, h5, h6, h7, fun z => X_cht_dr.mp (by rw [X_Gb_dr]; exact X_cht_dr.mpr (hC z))⟩
theorem k_feed (sc : X_Sc) (S : X_S) (len : Int) (tb : Int → Int) (rc : Int) (G : X_G) (tn : Int) (nc : Int) (N : Int → Int → Int) (rs : Int) (re : Int) (a : Int) (b : Int) (c : Int) (d : Int) (e : Int) (hI : X_IC S len tb rc G tn nc N rs re) (hA : X_Ao len tb G tn nc N) : X_T sc 113 (0, [(0, .ref 1), (1, .int (iI a)), (2, .int (iI b)), (3, .int (iI c)), (4, .int (iI d)), (5, .int (iI e))], [], S) (fun v S' => (v = some (.int (iI (-1))) ∧ 2000 < len + 20 ∧ X_IC S' len tb rc G tn nc N rs re ∧ (X_Fr (fun q => 1 ≤ q ∧ q < 530) S S')) ∨ (v = some (.int (iI (len + 20))) ∧ len + 20 ≤ 2000 ∧ X_IC S' (len + 20) (X_fd5 tb len a b c d e) rc G tn nc N rs re ∧ (X_Fr (fun q => 1 ≤ q ∧ q < 530) S S'))) := by
  obtain ⟨B, B2, hB_, hg_a, hg_p, hg_b, hg_d, hg_s, hg_r, hg_c, hg_f, hg_w⟩ := hI
  obtain ⟨hl, htb, hG, hGs, htn, hR, h40⟩ := hA
  have hRn := hR.1
  have hh_a := hg_a
  obtain ⟨hc1, hc2, hc3⟩ := hh_a
  refine X_QI (fun Q hQ => ?_)
  refine T_mono (c_feed sc S tb len B2 B a b c d e hc1 hc2 hc3 (by omega)) (fun v2820 S2821 h2822 => hQ _ _ ?_)
  rcases h2822 with ⟨hv2823, hp2824, hf2825⟩ | ⟨hv2826, hp2827, ho2828, ha2829, hf2830⟩
  · skip
    rw [hv2823]
    rw [hf2825]
    exact Or.inl ⟨rfl, hp2824, ⟨B, B2, hB_, hg_a, hg_p, hg_b, hg_d, hg_s, hg_r, hg_c, hg_f, hg_w⟩, X_Fr.rf⟩
  · skip
    rw [hv2826]
    have hF : X_Fr (fun q => q = 3 ∨ q = 2) S S2821 := (X_Fr.rf).tr (X_Fr.mono ⟨hf2830.1, hf2830.2⟩ (fun q hq => (by omega)))
    have h2831 := (hf2830.1 1 (by first | decide | omega)).trans (hc1)
    exact Or.inr ⟨rfl, hp2827, ⟨B, B2, hB_, ⟨h2831, ho2828, ha2829⟩, hg_p.fr hF (fun q h1 h2 => by omega), hg_b.fr hF (fun q h1 h2 => by omega), hg_d.fr hF (fun q h1 h2 => by omega), hg_s.fr hF (fun q h1 h2 => by omega), hg_r.fr hF (fun q h1 h2 => by omega), hg_c.fr hF (fun q h1 h2 => by omega), hg_f.fr hF (fun q h1 h2 => by omega), hg_w.fr hF (fun q h1 h2 => by omega)⟩, (X_Fr.rf).tr (X_Fr.mono ⟨hf2830.1, hf2830.2⟩ (fun q hq => (by omega)))⟩
theorem k_end (sc : X_Sc) (S : X_S) (len : Int) (tb : Int → Int) (rc : Int) (G : X_G) (tn : Int) (nc : Int) (N : Int → Int → Int) (rs : Int) (re : Int) (n : Int) (hI : X_IC S len tb rc G tn nc N rs re) (hA : X_Ao len tb G tn nc N) (hr_n : -2147483648 ≤ n ∧ n ≤ 2147483647) : X_T sc 114 (0, [(0, .ref 1), (1, .int (iI n))], [], S) (fun v S' => (v = some (.int (iI (-1))) ∧ (n < 0 ∨ len < n) ∧ X_IC S' len tb rc G tn nc N rs re ∧ (X_Fr (fun q => 1 ≤ q ∧ q < 530) S S')) ∨ (v = some (.int (iI n)) ∧ (0 ≤ n ∧ n ≤ len) ∧ X_IC S' n tb rc G tn nc N rs re ∧ (X_Fr (fun q => 1 ≤ q ∧ q < 530) S S'))) := by
  obtain ⟨B, B2, hB_, hg_a, hg_p, hg_b, hg_d, hg_s, hg_r, hg_c, hg_f, hg_w⟩ := hI
  obtain ⟨hl, htb, hG, hGs, htn, hR, h40⟩ := hA
  have hRn := hR.1
  have hh_a := hg_a
  obtain ⟨hc1, hc2, hc3⟩ := hh_a
  refine X_QI (fun Q hQ => ?_)
  refine T_mono (c_end sc S len B2 B n hc1 hc2 (by omega) (by omega)) (fun v2832 S2833 h2834 => hQ _ _ ?_)
  rcases h2834 with ⟨hv2835, hp2836, hf2837⟩ | ⟨hv2838, hp2839, ho2840, hf2841⟩
  · skip
    rw [hv2835]
    rw [hf2837]
    exact Or.inl ⟨rfl, hp2836, ⟨B, B2, hB_, hg_a, hg_p, hg_b, hg_d, hg_s, hg_r, hg_c, hg_f, hg_w⟩, X_Fr.rf⟩
  · skip
    rw [hv2838]
    have hF : X_Fr (fun q => q = 2) S S2833 := (X_Fr.rf).tr (X_Fr.mono ⟨hf2841.1, hf2841.2⟩ (fun q hq => (by omega)))
    have h2842 := (hf2841.1 1 (by first | decide | omega)).trans (hc1)
    have h2843 := (hf2841.1 3 (by first | decide | omega)).trans (hc3)
    exact Or.inr ⟨rfl, hp2839, ⟨B, B2, hB_, ⟨h2842, ho2840, h2843⟩, hg_p.fr hF (fun q h1 h2 => by omega), hg_b.fr hF (fun q h1 h2 => by omega), hg_d.fr hF (fun q h1 h2 => by omega), hg_s.fr hF (fun q h1 h2 => by omega), hg_r.fr hF (fun q h1 h2 => by omega), hg_c.fr hF (fun q h1 h2 => by omega), hg_f.fr hF (fun q h1 h2 => by omega), hg_w.fr hF (fun q h1 h2 => by omega)⟩, (X_Fr.rf).tr (X_Fr.mono ⟨hf2841.1, hf2841.2⟩ (fun q hq => (by omega)))⟩
theorem k_fault (sc : X_Sc) (S : X_S) (len : Int) (tb : Int → Int) (rc : Int) (G : X_G) (tn : Int) (nc : Int) (N : Int → Int → Int) (rs : Int) (re : Int) (w : Int) (hI : X_IC S len tb rc G tn nc N rs re) (hA : X_Ao len tb G tn nc N) (hr_w : -2147483648 ≤ w ∧ w ≤ 2147483647) : X_T sc 116 (0, [(0, .ref 1), (1, .int (iI w))], [], S) (fun v S' => ∃ (r : Int), v = some (.int (iI r)) ∧ X_IC S' len tb rc G tn nc N rs re ∧ (X_Fr (fun q => 1 ≤ q ∧ q < 530) S S')) := by
  obtain ⟨B, B2, hB_, hg_a, hg_p, hg_b, hg_d, hg_s, hg_r, hg_c, hg_f, hg_w⟩ := hI
  obtain ⟨hl, htb, hG, hGs, htn, hR, h40⟩ := hA
  have hRn := hR.1
  have hh_a := hg_a
  obtain ⟨hc1, hc2, hc3⟩ := hh_a
  have hh_p := hg_p
  obtain ⟨B0, fl0, fp0, at0, n0, cur0, so0, pl0, ct0, hp0, hx0⟩ := hh_p
  refine X_QI (fun Q hQ => ?_)
  refine T_mono (c_fault sc S B2 B B0 fl0 fp0 w hc1 hp0 (by omega)) (fun v2844 S2845 h2846 => hQ _ _ ?_)
  rcases h2846 with ⟨r2847, hv2848, hf2849⟩
  skip
  rw [hv2848]
  rw [hf2849]
  exact ⟨r2847, rfl, ⟨B, B2, hB_, hg_a, hg_p, hg_b, hg_d, hg_s, hg_r, hg_c, hg_f, hg_w⟩, X_Fr.rf⟩
theorem k_about (sc : X_Sc) (S : X_S) (len : Int) (tb : Int → Int) (rc : Int) (G : X_G) (tn : Int) (nc : Int) (N : Int → Int → Int) (rs : Int) (re : Int) (w : Int) (hI : X_IC S len tb rc G tn nc N rs re) (hA : X_Ao len tb G tn nc N) (hr_w : -2147483648 ≤ w ∧ w ≤ 2147483647) : X_T sc 117 (0, [(0, .ref 1), (1, .int (iI w))], [], S) (fun v S' => v = some (.int (iI (X_qAb rc (gk G) (gw G) tn nc len w))) ∧ X_IC S' len tb rc G tn nc N rs re ∧ (X_Fr (fun q => 1 ≤ q ∧ q < 530) S S')) := by
  obtain ⟨B, B2, hB_, hg_a, hg_p, hg_b, hg_d, hg_s, hg_r, hg_c, hg_f, hg_w⟩ := hI
  obtain ⟨hl, htb, hG, hGs, htn, hR, h40⟩ := hA
  have hRn := hR.1
  have hh_a := hg_a
  obtain ⟨hc1, hc2, hc3⟩ := hh_a
  have hh_b := hg_b
  obtain ⟨rn, kn, hb, hs⟩ := hh_b
  have hh_s := hg_s
  obtain ⟨dr, hc501, hc502, hc503⟩ := hh_s
  have hh_r := hg_r
  obtain ⟨nW, nF, nL, nP, nH, nC, hc504, hc505, hc506, hc507, hc508, hc509, hc510, hnd, hch⟩ := hh_r
  refine X_QI (fun Q hQ => ?_)
  refine T_mono (c_about sc S B rc rn kn G B2 tn nc len w hc1 hc2 hc501 hc504 (by omega) hb hs (by omega)) (fun v2850 S2851 h2852 => hQ _ _ ?_)
  rcases h2852 with ⟨hv2853, hf2854⟩
  skip
  rw [hv2853]
  rw [hf2854]
  exact ⟨rfl, ⟨B, B2, hB_, hg_a, hg_p, hg_b, hg_d, hg_s, hg_r, hg_c, hg_f, hg_w⟩, X_Fr.rf⟩
theorem k_word (sc : X_Sc) (S : X_S) (len : Int) (tb : Int → Int) (rc : Int) (G : X_G) (tn : Int) (nc : Int) (N : Int → Int → Int) (rs : Int) (re : Int) (w : Int) (wh : Int) (hI : X_IC S len tb rc G tn nc N rs re) (hA : X_Ao len tb G tn nc N) (hr_w : -2147483648 ≤ w ∧ w ≤ 2147483647) (hr_wh : -2147483648 ≤ wh ∧ wh ≤ 2147483647) : X_T sc 118 (0, [(0, .ref 1), (1, .int (iI w)), (2, .int (iI wh))], [], S) (fun v S' => v = some (.int (iI (X_qWd G w wh))) ∧ X_IC S' len tb rc G tn nc N rs re ∧ (X_Fr (fun q => 1 ≤ q ∧ q < 530) S S')) := by
  obtain ⟨B, B2, hB_, hg_a, hg_p, hg_b, hg_d, hg_s, hg_r, hg_c, hg_f, hg_w⟩ := hI
  obtain ⟨hl, htb, hG, hGs, htn, hR, h40⟩ := hA
  have hRn := hR.1
  have hh_a := hg_a
  obtain ⟨hc1, hc2, hc3⟩ := hh_a
  have hh_b := hg_b
  obtain ⟨rn, kn, hb, hs⟩ := hh_b
  refine X_QI (fun Q hQ => ?_)
  refine T_mono (c_word sc S B rc rn kn G B2 w wh hc1 (by omega) hb hs (by omega) (by omega)) (fun v2855 S2856 h2857 => hQ _ _ ?_)
  rcases h2857 with ⟨hv2858, hf2859⟩
  skip
  rw [hv2858]
  rw [hf2859]
  exact ⟨rfl, ⟨B, B2, hB_, hg_a, hg_p, hg_b, hg_d, hg_s, hg_r, hg_c, hg_f, hg_w⟩, X_Fr.rf⟩
theorem k_tighter (sc : X_Sc) (S : X_S) (len : Int) (tb : Int → Int) (rc : Int) (G : X_G) (tn : Int) (nc : Int) (N : Int → Int → Int) (rs : Int) (re : Int) (a : Int) (b : Int) (hI : X_IC S len tb rc G tn nc N rs re) (hA : X_Ao len tb G tn nc N) (hr_a : -2147483648 ≤ a ∧ a ≤ 2147483647) (hr_b : -2147483648 ≤ b ∧ b ≤ 2147483647) : X_T sc 119 (0, [(0, .ref 1), (1, .int (iI a)), (2, .int (iI b))], [], S) (fun v S' => v = some (.int (iI (X_qTi G rc a b))) ∧ X_IC S' len tb rc G tn nc N rs re ∧ (X_Fr (fun q => 1 ≤ q ∧ q < 530) S S')) := by
  obtain ⟨B, B2, hB_, hg_a, hg_p, hg_b, hg_d, hg_s, hg_r, hg_c, hg_f, hg_w⟩ := hI
  obtain ⟨hl, htb, hG, hGs, htn, hR, h40⟩ := hA
  have hRn := hR.1
  have hh_a := hg_a
  obtain ⟨hc1, hc2, hc3⟩ := hh_a
  have hh_b := hg_b
  obtain ⟨rn, kn, hb, hs⟩ := hh_b
  refine X_QI (fun Q hQ => ?_)
  refine T_mono (c_tighter sc S B rc rn kn G B2 a b hc1 (by omega) hb hs (by omega) (by omega)) (fun v2860 S2861 h2862 => hQ _ _ ?_)
  rcases h2862 with ⟨hv2863, hf2864⟩
  skip
  rw [hv2863]
  rw [hf2864]
  exact ⟨rfl, ⟨B, B2, hB_, hg_a, hg_p, hg_b, hg_d, hg_s, hg_r, hg_c, hg_f, hg_w⟩, X_Fr.rf⟩
theorem k_under (sc : X_Sc) (S : X_S) (len : Int) (tb : Int → Int) (rc : Int) (G : X_G) (tn : Int) (nc : Int) (N : Int → Int → Int) (rs : Int) (re : Int) (a : Int) (b : Int) (hI : X_IC S len tb rc G tn nc N rs re) (hA : X_Ao len tb G tn nc N) (hr_a : -2147483648 ≤ a ∧ a ≤ 2147483647) (hr_b : -2147483648 ≤ b ∧ b ≤ 2147483647) : X_T sc 120 (0, [(0, .ref 1), (1, .int (iI a)), (2, .int (iI b))], [], S) (fun v S' => v = some (.int (iI (X_qUn G a b))) ∧ X_IC S' len tb rc G tn nc N rs re ∧ (X_Fr (fun q => 1 ≤ q ∧ q < 530) S S')) := by
  obtain ⟨B, B2, hB_, hg_a, hg_p, hg_b, hg_d, hg_s, hg_r, hg_c, hg_f, hg_w⟩ := hI
  obtain ⟨hl, htb, hG, hGs, htn, hR, h40⟩ := hA
  have hRn := hR.1
  have hh_a := hg_a
  obtain ⟨hc1, hc2, hc3⟩ := hh_a
  have hh_b := hg_b
  obtain ⟨rn, kn, hb, hs⟩ := hh_b
  refine X_QI (fun Q hQ => ?_)
  refine T_mono (c_under sc S B rc rn kn G B2 a b hc1 (by omega) hb hs (by omega) (by omega)) (fun v2865 S2866 h2867 => hQ _ _ ?_)
  rcases h2867 with ⟨hv2868, hf2869⟩
  skip
  rw [hv2868]
  rw [hf2869]
  exact ⟨rfl, ⟨B, B2, hB_, hg_a, hg_p, hg_b, hg_d, hg_s, hg_r, hg_c, hg_f, hg_w⟩, X_Fr.rf⟩
theorem k_node (sc : X_Sc) (S : X_S) (len : Int) (tb : Int → Int) (rc : Int) (G : X_G) (tn : Int) (nc : Int) (N : Int → Int → Int) (rs : Int) (re : Int) (n : Int) (wh : Int) (hI : X_IC S len tb rc G tn nc N rs re) (hA : X_Ao len tb G tn nc N) (hr_n : -2147483648 ≤ n ∧ n ≤ 2147483647) (hr_wh : -2147483648 ≤ wh ∧ wh ≤ 2147483647) : X_T sc 125 (0, [(0, .ref 1), (1, .int (iI n)), (2, .int (iI wh))], [], S) (fun v S' => v = some (.int (iI (X_qNd nc N n wh))) ∧ X_IC S' len tb rc G tn nc N rs re ∧ (X_Fr (fun q => 1 ≤ q ∧ q < 530) S S')) := by
  obtain ⟨B, B2, hB_, hg_a, hg_p, hg_b, hg_d, hg_s, hg_r, hg_c, hg_f, hg_w⟩ := hI
  obtain ⟨hl, htb, hG, hGs, htn, hR, h40⟩ := hA
  have hRn := hR.1
  have hh_a := hg_a
  obtain ⟨hc1, hc2, hc3⟩ := hh_a
  have hh_r := hg_r
  obtain ⟨nW, nF, nL, nP, nH, nC, hc504, hc505, hc506, hc507, hc508, hc509, hc510, hnd, hch⟩ := hh_r
  refine X_QI (fun Q hQ => ?_)
  refine T_mono (c_node sc S nW nF nL nP nH B2 B nc N n wh hc1 hc504 hc505 hc506 hc507 hc508 hc509 (by omega) (by omega) (by omega) hnd) (fun v2870 S2871 h2872 => hQ _ _ ?_)
  rcases h2872 with ⟨hv2873, hf2874⟩
  skip
  rw [hv2873]
  rw [hf2874]
  exact ⟨rfl, ⟨B, B2, hB_, hg_a, hg_p, hg_b, hg_d, hg_s, hg_r, hg_c, hg_f, hg_w⟩, X_Fr.rf⟩
theorem k_worked (sc : X_Sc) (S : X_S) (len : Int) (tb : Int → Int) (rc : Int) (G : X_G) (tn : Int) (nc : Int) (N : Int → Int → Int) (rs : Int) (re : Int) (w : Int) (hI : X_IC S len tb rc G tn nc N rs re) (hA : X_Ao len tb G tn nc N) (hr_w : -2147483648 ≤ w ∧ w ≤ 2147483647) : X_T sc 128 (0, [(0, .ref 1), (1, .int (iI w))], [], S) (fun v S' => v = some (.int (iI (if w = 0 then rs else if w = 1 then re else -1))) ∧ X_IC S' len tb rc G tn nc N rs re ∧ (X_Fr (fun q => 1 ≤ q ∧ q < 530) S S')) := by
  obtain ⟨B, B2, hB_, hg_a, hg_p, hg_b, hg_d, hg_s, hg_r, hg_c, hg_f, hg_w⟩ := hI
  obtain ⟨hl, htb, hG, hGs, htn, hR, h40⟩ := hA
  have hRn := hR.1
  have hh_a := hg_a
  obtain ⟨hc1, hc2, hc3⟩ := hh_a
  have hh_w := hg_w
  obtain ⟨hgt, vs, pl, hc527, hc528, hc529⟩ := hh_w
  refine X_QI (fun Q hQ => ?_)
  refine T_mono (c_worked sc S B2 B rs re hgt w hc1 hc527 (by omega)) (fun v2875 S2876 h2877 => hQ _ _ ?_)
  rcases h2877 with ⟨hv2878, hf2879⟩
  skip
  rw [hv2878]
  rw [hf2879]
  exact ⟨rfl, ⟨B, B2, hB_, hg_a, hg_p, hg_b, hg_d, hg_s, hg_r, hg_c, hg_f, hg_w⟩, X_Fr.rf⟩
theorem k_sure (sc : X_Sc) (S : X_S) (len : Int) (tb : Int → Int) (rc : Int) (G : X_G) (tn : Int) (nc : Int) (N : Int → Int → Int) (rs : Int) (re : Int) (hI : X_IC S len tb rc G tn nc N rs re) (hA : X_Ao len tb G tn nc N) : X_T sc 129 (0, [(0, .ref 1)], [], S) (fun v S' => ∃ (r : Int), v = some (.int (iI r)) ∧ X_qSu G r ∧ X_IC S' len tb rc G tn nc N rs re ∧ (X_Fr (fun q => 1 ≤ q ∧ q < 530) S S')) := by
  obtain ⟨B, B2, hB_, hg_a, hg_p, hg_b, hg_d, hg_s, hg_r, hg_c, hg_f, hg_w⟩ := hI
  obtain ⟨hl, htb, hG, hGs, htn, hR, h40⟩ := hA
  have hRn := hR.1
  have hh_a := hg_a
  obtain ⟨hc1, hc2, hc3⟩ := hh_a
  have hh_b := hg_b
  obtain ⟨rn, kn, hb, hs⟩ := hh_b
  refine X_QI (fun Q hQ => ?_)
  refine T_mono (c_sure sc S B rc rn kn G B2 hc1 (by omega) hb hs) (fun v2880 S2881 h2882 => hQ _ _ ?_)
  rcases h2882 with ⟨r2883, hv2884, hp2885, hf2886⟩
  skip
  rw [hv2884]
  rw [hf2886]
  exact ⟨r2883, rfl, hp2885, ⟨B, B2, hB_, hg_a, hg_p, hg_b, hg_d, hg_s, hg_r, hg_c, hg_f, hg_w⟩, X_Fr.rf⟩
theorem k_count (sc : X_Sc) (S : X_S) (len : Int) (tb : Int → Int) (rc : Int) (G : X_G) (tn : Int) (nc : Int) (N : Int → Int → Int) (rs : Int) (re : Int) (i : Int) (j : Int) (hI : X_IC S len tb rc G tn nc N rs re) (hA : X_Ao len tb G tn nc N) (hr_i : -2147483648 ≤ i ∧ i ≤ 2147483647) (hr_j : -2147483648 ≤ j ∧ j ≤ 2147483647) : X_T sc 122 (0, [(0, .ref 1), (1, .int (iI i)), (2, .int (iI j))], [], S) (fun v S' => v = some (.long (X_qCt G tn i j)) ∧ X_IC S' len tb rc G tn nc N rs re ∧ (X_Fr (fun q => 1 ≤ q ∧ q < 530) S S')) := by
  obtain ⟨B, B2, hB_, hg_a, hg_p, hg_b, hg_d, hg_s, hg_r, hg_c, hg_f, hg_w⟩ := hI
  obtain ⟨hl, htb, hG, hGs, htn, hR, h40⟩ := hA
  have hRn := hR.1
  have hh_a := hg_a
  obtain ⟨hc1, hc2, hc3⟩ := hh_a
  have hh_b := hg_b
  obtain ⟨rn, kn, hb, hs⟩ := hh_b
  have hh_s := hg_s
  obtain ⟨dr, hc501, hc502, hc503⟩ := hh_s
  have hh_c := hg_c
  obtain ⟨fl, oK, oW, oA, oH, tl, hc511, hc512, hc513, hc514, hc515, hc516, hfl, hC⟩ := hh_c
  refine X_QI (fun Q hQ => ?_)
  refine T_mono (c_count sc S oK oW oA oH tl B rc rn kn G B2 tn fl i j hc1 hc501 hc511 hc512 hc513 hc514 hc515 hc516 (by omega) hb hs hG hc502 (by omega) hfl hC (by omega) (by omega)) (fun v2887 S2888 h2889 => hQ _ _ ?_)
  rcases h2889 with ⟨oK2890, oW2891, oA2892, oH2893, tl2894, fl2895, hv2896, hp2897, hp2898, ho2899, ha2900, ha2901, ha2902, ha2903, ha2904, hf2905⟩
  skip
  rw [hv2896]
  have hF : X_Fr (fun q => 511 ≤ q ∧ q ≤ 516) S S2888 := (X_Fr.rf).tr (X_Fr.mono ⟨hf2905.1, hf2905.2⟩ (fun q hq => (by omega)))
  exact ⟨rfl, ⟨B, B2, hB_, hg_a.fr hF (fun q h1 h2 => by omega), hg_p.fr hF (fun q h1 h2 => by omega), hg_b.fr hF (fun q h1 h2 => by omega), hg_d.fr hF (fun q h1 h2 => by omega), hg_s.fr hF (fun q h1 h2 => by omega), hg_r.fr hF (fun q h1 h2 => by omega), ⟨fl2895, oK2890, oW2891, oA2892, oH2893, tl2894, ho2899, ha2900, ha2901, ha2902, ha2903, ha2904, hp2897, hp2898⟩, hg_f.fr hF (fun q h1 h2 => by omega), hg_w.fr hF (fun q h1 h2 => by omega)⟩, (X_Fr.rf).tr (X_Fr.mono ⟨hf2905.1, hf2905.2⟩ (fun q hq => (by omega)))⟩
theorem k_quarrel (sc : X_Sc) (S : X_S) (len : Int) (tb : Int → Int) (rc : Int) (G : X_G) (tn : Int) (nc : Int) (N : Int → Int → Int) (rs : Int) (re : Int) (hI : X_IC S len tb rc G tn nc N rs re) (hA : X_Ao len tb G tn nc N) : X_T sc 123 (0, [(0, .ref 1)], [], S) (fun v S' => ∃ (r : Int), v = some (.int (iI r)) ∧ X_qQu G tn r ∧ X_IC S' len tb rc G tn nc N rs re ∧ (X_Fr (fun q => 1 ≤ q ∧ q < 530) S S')) := by
  obtain ⟨B, B2, hB_, hg_a, hg_p, hg_b, hg_d, hg_s, hg_r, hg_c, hg_f, hg_w⟩ := hI
  obtain ⟨hl, htb, hG, hGs, htn, hR, h40⟩ := hA
  have hRn := hR.1
  have hh_a := hg_a
  obtain ⟨hc1, hc2, hc3⟩ := hh_a
  have hh_b := hg_b
  obtain ⟨rn, kn, hb, hs⟩ := hh_b
  have hh_s := hg_s
  obtain ⟨dr, hc501, hc502, hc503⟩ := hh_s
  have hh_c := hg_c
  obtain ⟨fl, oK, oW, oA, oH, tl, hc511, hc512, hc513, hc514, hc515, hc516, hfl, hC⟩ := hh_c
  refine X_QI (fun Q hQ => ?_)
  refine T_mono (c_quarrel sc S oK oW oA oH tl B rc rn kn G B2 tn fl hc1 hc501 hc511 hc512 hc513 hc514 hc515 hc516 (by omega) hb hs hG hc502 (by omega) hfl hC) (fun v2906 S2907 h2908 => hQ _ _ ?_)
  rcases h2908 with ⟨oK2909, oW2910, oA2911, oH2912, tl2913, fl2914, r2915, hv2916, hp2917, hp2918, hp2919, ho2920, ha2921, ha2922, ha2923, ha2924, ha2925, hf2926⟩
  skip
  rw [hv2916]
  have hF : X_Fr (fun q => 511 ≤ q ∧ q ≤ 516) S S2907 := (X_Fr.rf).tr (X_Fr.mono ⟨hf2926.1, hf2926.2⟩ (fun q hq => (by omega)))
  exact ⟨r2915, rfl, hp2919, ⟨B, B2, hB_, hg_a.fr hF (fun q h1 h2 => by omega), hg_p.fr hF (fun q h1 h2 => by omega), hg_b.fr hF (fun q h1 h2 => by omega), hg_d.fr hF (fun q h1 h2 => by omega), hg_s.fr hF (fun q h1 h2 => by omega), hg_r.fr hF (fun q h1 h2 => by omega), ⟨fl2914, oK2909, oW2910, oA2911, oH2912, tl2913, ho2920, ha2921, ha2922, ha2923, ha2924, ha2925, hp2917, hp2918⟩, hg_f.fr hF (fun q h1 h2 => by omega), hg_w.fr hF (fun q h1 h2 => by omega)⟩, (X_Fr.rf).tr (X_Fr.mono ⟨hf2926.1, hf2926.2⟩ (fun q hq => (by omega)))⟩
theorem k_bind (sc : X_Sc) (S : X_S) (len : Int) (tb : Int → Int) (rc : Int) (G : X_G) (tn : Int) (nc : Int) (N : Int → Int → Int) (rs : Int) (re : Int) (w : Int) (vl : Int) (hI : X_IC S len tb rc G tn nc N rs re) (hA : X_Ao len tb G tn nc N) (hr_w : -2147483648 ≤ w ∧ w ≤ 2147483647) (hr_vl : -2147483648 ≤ vl ∧ vl ≤ 2147483647) : X_T sc 126 (0, [(0, .ref 1), (1, .int (iI w)), (2, .int (iI vl))], [], S) (fun v S' => (v = some (.int (iI 0)) ∧ (¬ ((0 ≤ w ∧ w < gw G) ∧ gD G w 5 0 = -1 ∧ gD G w 4 0 ≤ 0)) ∧ X_IC S' len tb rc G tn nc N rs re ∧ (X_Fr (fun q => 1 ≤ q ∧ q < 530) S S')) ∨ (v = some (.int (iI 1)) ∧ ((0 ≤ w ∧ w < gw G) ∧ gD G w 5 0 = -1 ∧ gD G w 4 0 ≤ 0) ∧ X_IC S' len tb rc (X_Gb G w vl) tn nc N rs re ∧ (X_Fr (fun q => 1 ≤ q ∧ q < 530) S S'))) := by
  obtain ⟨B, B2, hB_, hg_a, hg_p, hg_b, hg_d, hg_s, hg_r, hg_c, hg_f, hg_w⟩ := hI
  obtain ⟨hl, htb, hG, hGs, htn, hR, h40⟩ := hA
  have hRn := hR.1
  have hh_a := hg_a
  obtain ⟨hc1, hc2, hc3⟩ := hh_a
  have hh_b := hg_b
  obtain ⟨rn, kn, hb, hs⟩ := hh_b
  refine X_QI (fun Q hQ => ?_)
  refine T_mono (c_bind sc S B rc rn kn G B2 w vl hc1 (by omega) hb hs (by omega) (by omega)) (fun v2927 S2928 h2929 => hQ _ _ ?_)
  rcases h2929 with ⟨hv2930, hp2931, hf2932⟩ | ⟨hv2933, hp2934, hp2935, hf2936⟩
  · skip
    rw [hv2930]
    rw [hf2932]
    exact Or.inl ⟨rfl, hp2931, ⟨B, B2, hB_, hg_a, hg_p, hg_b, hg_d, hg_s, hg_r, hg_c, hg_f, hg_w⟩, X_Fr.rf⟩
  · skip
    rw [hv2933]
    have hF : X_Fr (fun q => B + 6 ≤ q ∧ q < B + 246) S S2928 := (X_Fr.rf).tr (X_Fr.mono ⟨hf2936.1, hf2936.2⟩ (fun q hq => (by omega)))
    exact Or.inr ⟨rfl, hp2934, ⟨B, B2, hB_, hg_a.fr hF (fun q h1 h2 => by omega), hg_p.fr hF (fun q h1 h2 => by omega), ⟨rn, kn, hb.fr hF (fun k hk => by omega), hp2935⟩, hg_d.fr hF (fun q h1 h2 => by omega), hg_s.fr hF (fun q h1 h2 => by omega), hg_r.fr hF (fun q h1 h2 => by omega), (X_ICc.bind (hg_c.fr hF (fun q h1 h2 => by omega))), hg_f.fr hF (fun q h1 h2 => by omega), hg_w.fr hF (fun q h1 h2 => by omega)⟩, (X_Fr.rf).tr (X_Fr.mono ⟨hf2936.1, hf2936.2⟩ (fun q hq => (by omega)))⟩
theorem k_work (sc : X_Sc) (S : X_S) (len : Int) (tb : Int → Int) (rc : Int) (G : X_G) (tn : Int) (nc : Int) (N : Int → Int → Int) (rs : Int) (re : Int) (hI : X_IC S len tb rc G tn nc N rs re) (hA : X_Ao len tb G tn nc N) : X_T sc 127 (0, [(0, .ref 1)], [], S) (fun v S' => (v = some (.int (iI (-1))) ∧ nc = 0 ∧ X_IC S' len tb rc G tn nc N rs re ∧ (X_Fr (fun q => 1 ≤ q ∧ q < 530) S S')) ∨ (v = some (.int (iI ((X_wk G (fun w => gD G w 6 0) (fun w => gD G w 7 0) N nc).1))) ∧ ¬ nc = 0 ∧ X_IC S' len tb rc G tn nc N ((X_wk G (fun w => gD G w 6 0) (fun w => gD G w 7 0) N nc).2.2) ((X_wk G (fun w => gD G w 6 0) (fun w => gD G w 7 0) N nc).2.1) ∧ (X_Fr (fun q => 1 ≤ q ∧ q < 530) S S'))) := by
  obtain ⟨B, B2, hB_, hg_a, hg_p, hg_b, hg_d, hg_s, hg_r, hg_c, hg_f, hg_w⟩ := hI
  obtain ⟨hl, htb, hG, hGs, htn, hR, h40⟩ := hA
  have hRn := hR.1
  have hh_a := hg_a
  obtain ⟨hc1, hc2, hc3⟩ := hh_a
  have hh_b := hg_b
  obtain ⟨rn, kn, hb, hs⟩ := hh_b
  have hh_s := hg_s
  obtain ⟨dr, hc501, hc502, hc503⟩ := hh_s
  have hh_r := hg_r
  obtain ⟨nW, nF, nL, nP, nH, nC, hc504, hc505, hc506, hc507, hc508, hc509, hc510, hnd, hch⟩ := hh_r
  have hh_w := hg_w
  obtain ⟨hgt, vs, pl, hc527, hc528, hc529⟩ := hh_w
  refine X_QI (fun Q hQ => ?_)
  refine T_mono (c_work sc S nW nF nL nP nH nC vs pl B rc rn kn G B2 tn nc N rs re hgt hc1 hc501 hc504 hc527 hc505 hc506 hc507 hc508 hc509 hc510 hc528 hc529 (by omega) hb hs hG hGs hc502 hR hnd hch) (fun v2937 S2938 h2939 => hQ _ _ ?_)
  rcases h2939 with ⟨hv2940, hp2941, hf2942⟩ | ⟨vs2943, pl2944, h2945, hv2946, hp2947, ho2948, ha2949, ha2950, hf2951⟩
  · skip
    rw [hv2940]
    rw [hf2942]
    exact Or.inl ⟨rfl, hp2941, ⟨B, B2, hB_, hg_a, hg_p, hg_b, hg_d, hg_s, hg_r, hg_c, hg_f, hg_w⟩, X_Fr.rf⟩
  · skip
    rw [hv2946]
    have hF : X_Fr (fun q => 527 ≤ q ∧ q ≤ 529) S S2938 := (X_Fr.rf).tr (X_Fr.mono ⟨hf2951.1, hf2951.2⟩ (fun q hq => (by omega)))
    exact Or.inr ⟨rfl, hp2947, ⟨B, B2, hB_, hg_a.fr hF (fun q h1 h2 => by omega), hg_p.fr hF (fun q h1 h2 => by omega), hg_b.fr hF (fun q h1 h2 => by omega), hg_d.fr hF (fun q h1 h2 => by omega), hg_s.fr hF (fun q h1 h2 => by omega), hg_r.fr hF (fun q h1 h2 => by omega), hg_c.fr hF (fun q h1 h2 => by omega), hg_f.fr hF (fun q h1 h2 => by omega), ⟨h2945, vs2943, pl2944, ho2948, ha2949, ha2950⟩⟩, (X_Fr.rf).tr (X_Fr.mono ⟨hf2951.1, hf2951.2⟩ (fun q hq => (by omega)))⟩
theorem k_sentence (sc : X_Sc) (S : X_S) (len : Int) (tb : Int → Int) (rc : Int) (G : X_G) (tn : Int) (nc : Int) (N : Int → Int → Int) (rs : Int) (re : Int) (hI : X_IC S len tb rc G tn nc N rs re) (hA : X_Ao len tb G tn nc N) : X_T sc 121 (0, [(0, .ref 1)], [], S) (fun v S' => (v = some (.int (iI (-1))) ∧ X_sn tb len len.toNat = none ∧ X_IC S' 0 tb rc G tn nc N rs re ∧ (X_Fr (fun q => 1 ≤ q ∧ q < 530) S S')) ∨ (∃ (n1 : Int) (z1 : Int) (t1 : Int → Int64) (ot1 : Int → Int64), v = some (.int (iI n1)) ∧ X_sn tb len len.toNat = some (n1, z1, t1) ∧ (0 ≤ n1 ∧ n1 ≤ 30) ∧ (∀ i, 0 ≤ i → i < n1 → ot1 i = t1 i) ∧ X_IC S' 0 tb rc (X_Gt G ot1) n1 0 N 0 (-1) ∧ (X_Fr (fun q => 1 ≤ q ∧ q < 530) S S'))) := by
  obtain ⟨B, B2, hB_, hg_a, hg_p, hg_b, hg_d, hg_s, hg_r, hg_c, hg_f, hg_w⟩ := hI
  obtain ⟨hl, htb, hG, hGs, htn, hR, h40⟩ := hA
  have hRn := hR.1
  have hh_a := hg_a
  obtain ⟨hc1, hc2, hc3⟩ := hh_a
  have hh_s := hg_s
  obtain ⟨dr, hc501, hc502, hc503⟩ := hh_s
  have hh_r := hg_r
  obtain ⟨nW, nF, nL, nP, nH, nC, hc504, hc505, hc506, hc507, hc508, hc509, hc510, hnd, hch⟩ := hh_r
  have hh_c := hg_c
  obtain ⟨fl, oK, oW, oA, oH, tl, hc511, hc512, hc513, hc514, hc515, hc516, hfl, hC⟩ := hh_c
  have hh_w := hg_w
  obtain ⟨hgt, vs, pl, hc527, hc528, hc529⟩ := hh_w
  refine X_QI (fun Q hQ => ?_)
  refine T_mono (c_sentence sc S (gt G) dr B B2 tn fl nc rs re hgt len tb hc1 hc2 hc501 hc511 hc504 hc527 hc502 hc503 hc3 (by omega)) (fun v2952 S2953 h2954 => hQ _ _ ?_)
  rcases h2954 with ⟨dr2955, hv2956, hp2957, ho2958, ha2959, hf2960⟩ | ⟨n2961, z2962, t2963, ot2964, dr2965, hv2966, hp2967, hp2968, hp2969, ho2970, ho2971, ho2972, ho2973, ho2974, ha2975, ha2976, hf2977⟩
  · skip
    rw [hv2956]
    have hF : X_Fr (fun q => q = 503 ∨ q = 2) S S2953 := (X_Fr.rf).tr (X_Fr.mono ⟨hf2960.1, hf2960.2⟩ (fun q hq => (by omega)))
    have h2978 := (hf2960.1 1 (by first | decide | omega)).trans (hc1)
    have h2979 := (hf2960.1 3 (by first | decide | omega)).trans (hc3)
    have h2980 := (hf2960.1 501 (by first | decide | omega)).trans (hc501)
    have h2981 := (hf2960.1 502 (by first | decide | omega)).trans (hc502)
    exact Or.inl ⟨rfl, hp2957, ⟨B, B2, hB_, ⟨h2978, ho2958, h2979⟩, hg_p.fr hF (fun q h1 h2 => by omega), hg_b.fr hF (fun q h1 h2 => by omega), hg_d.fr hF (fun q h1 h2 => by omega), ⟨dr2955, h2980, h2981, ha2959⟩, hg_r.fr hF (fun q h1 h2 => by omega), hg_c.fr hF (fun q h1 h2 => by omega), hg_f.fr hF (fun q h1 h2 => by omega), hg_w.fr hF (fun q h1 h2 => by omega)⟩, (X_Fr.rf).tr (X_Fr.mono ⟨hf2960.1, hf2960.2⟩ (fun q hq => (by omega)))⟩
  · skip
    rw [hv2966]
    have hF : X_Fr (fun q => q = 2 ∨ (501 ≤ q ∧ q ≤ 504) ∨ q = 511 ∨ q = 527) S S2953 := (X_Fr.rf).tr (X_Fr.mono ⟨hf2977.1, hf2977.2⟩ (fun q hq => (by omega)))
    have h2982 := (hf2977.1 1 (by first | decide | omega)).trans (hc1)
    have h2983 := (hf2977.1 3 (by first | decide | omega)).trans (hc3)
    have h2984 := (hf2977.1 505 (by first | decide | omega)).trans (hc505)
    have h2985 := (hf2977.1 506 (by first | decide | omega)).trans (hc506)
    have h2986 := (hf2977.1 507 (by first | decide | omega)).trans (hc507)
    have h2987 := (hf2977.1 508 (by first | decide | omega)).trans (hc508)
    have h2988 := (hf2977.1 509 (by first | decide | omega)).trans (hc509)
    have h2989 := (hf2977.1 510 (by first | decide | omega)).trans (hc510)
    have h2990 := (hf2977.1 512 (by first | decide | omega)).trans (hc512)
    have h2991 := (hf2977.1 513 (by first | decide | omega)).trans (hc513)
    have h2992 := (hf2977.1 514 (by first | decide | omega)).trans (hc514)
    have h2993 := (hf2977.1 515 (by first | decide | omega)).trans (hc515)
    have h2994 := (hf2977.1 516 (by first | decide | omega)).trans (hc516)
    have h2995 := (hf2977.1 528 (by first | decide | omega)).trans (hc528)
    have h2996 := (hf2977.1 529 (by first | decide | omega)).trans (hc529)
    exact Or.inr ⟨n2961, z2962, t2963, ot2964, rfl, hp2967, hp2968, hp2969, ⟨B, B2, hB_, ⟨h2982, ho2970, h2983⟩, hg_p.fr hF (fun q h1 h2 => by omega), hg_b.fr hF (fun q h1 h2 => by omega), hg_d.fr hF (fun q h1 h2 => by omega), ⟨dr2965, ho2971, ha2975, ha2976⟩, ⟨nW, nF, nL, nP, nH, nC, ho2973, h2984, h2985, h2986, h2987, h2988, h2989, (fun n h1 h2 => absurd h2 (by omega)), (fun p h h1 h2 h3 h4 => absurd rfl h4)⟩, ⟨0, oK, oW, oA, oH, tl, ho2972, h2990, h2991, h2992, h2993, h2994, (by omega), (fun z => absurd z (by omega))⟩, hg_f.fr hF (fun q h1 h2 => by omega), ⟨hgt, vs, pl, ho2974, h2995, h2996⟩⟩, (X_Fr.rf).tr (X_Fr.mono ⟨hf2977.1, hf2977.2⟩ (fun q hq => (by omega)))⟩
theorem k_read (sc : X_Sc) (S : X_S) (len : Int) (tb : Int → Int) (rc : Int) (G : X_G) (tn : Int) (nc : Int) (N : Int → Int → Int) (rs : Int) (re : Int) (kk : Int) (hI : X_IC S len tb rc G tn nc N rs re) (hA : X_Ao len tb G tn nc N) (hkr : -9223372036854775808 ≤ kk ∧ kk ≤ 9223372036854775807) : X_T sc 124 (0, [(0, .ref 1), (1, .long (iL kk))], [], S) (fun v S' => (v = some (.int (iI (-1))) ∧ ¬ X_qRk G tn kk ∧ X_IC S' len tb rc G tn nc N rs re ∧ (X_Fr (fun q => 1 ≤ q ∧ q < 530) S S')) ∨ (∃ (r1 : Int) (St1 : Int → X_It) (nc1 : Int) (N1 : Int → Int → Int), v = some (.int (iI nc1)) ∧ X_qRk G tn kk ∧ X_rd G tn kk.toNat = (r1, St1, nc1, N1) ∧ X_IC S' len tb rc G tn nc1 N1 0 (-1) ∧ (X_Fr (fun q => 1 ≤ q ∧ q < 530) S S'))) := by
  obtain ⟨B, B2, hB_, hg_a, hg_p, hg_b, hg_d, hg_s, hg_r, hg_c, hg_f, hg_w⟩ := hI
  obtain ⟨hl, htb, hG, hGs, htn, hR, h40⟩ := hA
  have hRn := hR.1
  have hh_a := hg_a
  obtain ⟨hc1, hc2, hc3⟩ := hh_a
  have hh_b := hg_b
  obtain ⟨rn, kn, hb, hs⟩ := hh_b
  have hh_s := hg_s
  obtain ⟨dr, hc501, hc502, hc503⟩ := hh_s
  have hh_r := hg_r
  obtain ⟨nW, nF, nL, nP, nH, nC, hc504, hc505, hc506, hc507, hc508, hc509, hc510, hnd, hch⟩ := hh_r
  have hh_c := hg_c
  obtain ⟨fl, oK, oW, oA, oH, tl, hc511, hc512, hc513, hc514, hc515, hc516, hfl, hC⟩ := hh_c
  have hh_f := hg_f
  obtain ⟨wt, fF, fE, fP, fH, fW, fK, fN, hF, hE, hc517, hc518, hc519, hc520, hc521, hc522, hc523, hc524, hc525, hc526⟩ := hh_f
  have hh_w := hg_w
  obtain ⟨hgt, vs, pl, hc527, hc528, hc529⟩ := hh_w
  refine X_QI (fun Q hQ => ?_)
  refine T_mono (c_read sc S oK oW oA oH tl nW nF nL nP nH nC fF fE fP fH fW fK fN hF hE B rc rn kn G B2 tn fl wt nc rs re hgt kk hc1 hc501 hc511 hc517 hc504 hc527 hc512 hc513 hc514 hc515 hc516 hc505 hc506 hc507 hc508 hc509 hc510 hc518 hc519 hc520 hc521 hc522 hc523 hc524 hc525 hc526 (by omega) hb hs hG hc502 (by omega) hfl hC (by omega)) (fun v2997 S2998 h2999 => hQ _ _ ?_)
  rcases h2999 with ⟨oK3000, oW3001, oA3002, oH3003, tl3004, fl3005, hv3006, hp3007, hp3008, hp3009, ho3010, ha3011, ha3012, ha3013, ha3014, ha3015, hf3016⟩ | ⟨oK3017, oW3018, oA3019, oH3020, tl3021, fl3022, r3023, nc3024, St3025, N3026, nW3027, nF3028, nL3029, nP3030, nH3031, nC3032, fF3033, fE3034, fP3035, fH3036, fW3037, fK3038, fN3039, hF3040, hE3041, hv3042, hp3043, hp3044, hp3045, hp3046, hp3047, hp3048, ho3049, ho3050, ho3051, ho3052, ha3053, ha3054, ha3055, ha3056, ha3057, ha3058, ha3059, ha3060, ha3061, ha3062, ha3063, ha3064, ha3065, ha3066, ha3067, ha3068, ha3069, ha3070, ha3071, ha3072, hf3073⟩
  · skip
    rw [hv3006]
    have hF : X_Fr (fun q => 511 ≤ q ∧ q ≤ 516) S S2998 := (X_Fr.rf).tr (X_Fr.mono ⟨hf3016.1, hf3016.2⟩ (fun q hq => (by omega)))
    exact Or.inl ⟨rfl, hp3009, ⟨B, B2, hB_, hg_a.fr hF (fun q h1 h2 => by omega), hg_p.fr hF (fun q h1 h2 => by omega), hg_b.fr hF (fun q h1 h2 => by omega), hg_d.fr hF (fun q h1 h2 => by omega), hg_s.fr hF (fun q h1 h2 => by omega), hg_r.fr hF (fun q h1 h2 => by omega), ⟨fl3005, oK3000, oW3001, oA3002, oH3003, tl3004, ho3010, ha3011, ha3012, ha3013, ha3014, ha3015, hp3007, hp3008⟩, hg_f.fr hF (fun q h1 h2 => by omega), hg_w.fr hF (fun q h1 h2 => by omega)⟩, (X_Fr.rf).tr (X_Fr.mono ⟨hf3016.1, hf3016.2⟩ (fun q hq => (by omega)))⟩
  · skip
    rw [hv3042]
    have hF : X_Fr (fun q => 504 ≤ q ∧ q ≤ 527) S S2998 := (X_Fr.rf).tr (X_Fr.mono ⟨hf3073.1, hf3073.2⟩ (fun q hq => (by omega)))
    have h3074 := (hf3073.1 528 (by first | decide | omega)).trans (hc528)
    have h3075 := (hf3073.1 529 (by first | decide | omega)).trans (hc529)
    exact Or.inr ⟨r3023, St3025, nc3024, N3026, rfl, hp3045, hp3046, ⟨B, B2, hB_, hg_a.fr hF (fun q h1 h2 => by omega), hg_p.fr hF (fun q h1 h2 => by omega), hg_b.fr hF (fun q h1 h2 => by omega), hg_d.fr hF (fun q h1 h2 => by omega), hg_s.fr hF (fun q h1 h2 => by omega), ⟨nW3027, nF3028, nL3029, nP3030, nH3031, nC3032, ho3051, ha3058, ha3059, ha3060, ha3061, ha3062, ha3063, hp3047, hp3048⟩, ⟨fl3022, oK3017, oW3018, oA3019, oH3020, tl3021, ho3049, ha3053, ha3054, ha3055, ha3056, ha3057, hp3043, hp3044⟩, ⟨r3023, fF3033, fE3034, fP3035, fH3036, fW3037, fK3038, fN3039, hF3040, hE3041, ho3050, ha3064, ha3065, ha3066, ha3067, ha3068, ha3069, ha3070, ha3071, ha3072⟩, ⟨hgt, vs, pl, ho3052, h3074, h3075⟩⟩, (X_Fr.rf).tr (X_Fr.mono ⟨hf3073.1, hf3073.2⟩ (fun q hq => (by omega)))⟩
theorem k_book (sc : X_Sc) (S : X_S) (len : Int) (tb : Int → Int) (rc : Int) (G : X_G) (tn : Int) (nc : Int) (N : Int → Int → Int) (rs : Int) (re : Int) (hI : X_IC S len tb rc G tn nc N rs re) (hA : X_Ao len tb G tn nc N) : X_T sc 115 (0, [(0, .ref 1)], [], S) (fun v S' => (∃ (n : Int) (so : Int → Int) (pl : Int → Int) (ct : Int → Int64) (rc2 : Int) (kc2 : Int) (wc2 : Int) (rn2 : Int → Int64) (lo2 : Int → Int) (kn2 : Int → Int64) (ab2 : Int → Int) (D2 : Int → Nat → Int → Int) (W2 : Int → Int → Int64) (c1 : Int) (rc1 : Int) (kc1 : Int) (wc1 : Int) (rn1 : Int → Int64) (lo1 : Int → Int) (kn1 : Int → Int64) (ab1 : Int → Int) (D1 : Int → Nat → Int → Int) (W1 : Int → Int → Int64) (D3 : Int → Nat → Int → Int), v = some (.int (iI wc1)) ∧ X_Txt tb len n so pl ct ∧ sp_lines n so ct 2001 (0, 0, 1, 0, rn2, lo2, X_ug kn2 0 (Int64.ofNat 6384748), X_ug ab2 0 1, D2, W2) = some (c1, rc1, kc1, wc1, rn1, lo1, kn1, ab1, D1, W1) ∧ X_sD D1 D3 ∧ (∀ w, 0 ≤ w → w < wc1 → ∀ e, X_hl (D1 w) (W1 w) e → X_tkn lo1 ab1 kc1 wc1 D1 W1 w e (D3 w 11 (D1 w 8 e)) (D3 w 10 (D1 w 8 e))) ∧ X_IC S' 0 tb rc1 (kc1, wc1, lo1, ab1, D3, W1, gt G) 0 0 N 0 (-1) ∧ (X_Fr (fun q => 1 ≤ q ∧ q < 530) S S')) ∨ (∃ (n : Int) (so : Int → Int) (pl : Int → Int) (ct : Int → Int64) (rc2 : Int) (kc2 : Int) (wc2 : Int) (rn2 : Int → Int64) (lo2 : Int → Int) (kn2 : Int → Int64) (ab2 : Int → Int) (D2 : Int → Nat → Int → Int) (W2 : Int → Int → Int64), v = some (.int (iI (-1))) ∧ X_Txt tb len n so pl ct ∧ sp_lines n so ct 2001 (0, 0, 1, 0, rn2, lo2, X_ug kn2 0 (Int64.ofNat 6384748), X_ug ab2 0 1, D2, W2) = none ∧ X_IC S' 0 tb rc G tn nc N rs re ∧ (X_Fr (fun q => 1 ≤ q ∧ q < 530) S S'))) := by
  obtain ⟨B, B2, hB_, hg_a, hg_p, hg_b, hg_d, hg_s, hg_r, hg_c, hg_f, hg_w⟩ := hI
  obtain ⟨hl, htb, hG, hGs, htn, hR, h40⟩ := hA
  have hRn := hR.1
  have hh_a := hg_a
  obtain ⟨hc1, hc2, hc3⟩ := hh_a
  have hh_p := hg_p
  obtain ⟨B0, fl0, fp0, at0, n0, cur0, so0, pl0, ct0, hp0, hx0⟩ := hh_p
  have hh_d := hg_d
  obtain ⟨rc2, kc2, wc2, rn2, lo2, kn2, ab2, D2, W2, hb2, hs2⟩ := hh_d
  have hh_s := hg_s
  obtain ⟨dr, hc501, hc502, hc503⟩ := hh_s
  have hh_r := hg_r
  obtain ⟨nW, nF, nL, nP, nH, nC, hc504, hc505, hc506, hc507, hc508, hc509, hc510, hnd, hch⟩ := hh_r
  have hh_c := hg_c
  obtain ⟨fl, oK, oW, oA, oH, tl, hc511, hc512, hc513, hc514, hc515, hc516, hfl, hC⟩ := hh_c
  have hh_w := hg_w
  obtain ⟨hgt, vs, pl, hc527, hc528, hc529⟩ := hh_w
  refine X_QI (fun Q hQ => ?_)
  refine T_mono (c_book sc S B B2 B0 fl0 fp0 at0 n0 cur0 so0 pl0 ct0 rc2 kc2 wc2 rn2 lo2 kn2 ab2 D2 W2 tn fl nc rs re hgt len tb hc1 hc2 hc501 hc511 hc504 hc527 (by omega) hc3 (by omega) hp0 hx0 hb2 hs2) (fun v3076 S3077 h3078 => hQ _ _ ?_)
  rcases h3078 with ⟨n3079, so3080, pl3081, ct3082, c3083, rc3084, kc3085, wc3086, rn3087, lo3088, kn3089, ab3090, D3091, W3092, D3093, hv3094, hp3095, hp3096, hp3097, hp3098, hp3099, hp3100, hp3101, hp3102, ho3103, ho3104, ho3105, ho3106, ho3107, ho3108, hf3109⟩ | ⟨n3110, so3111, pl3112, ct3113, rcx3114, kcx3115, wcx3116, rnx3117, lox3118, knx3119, abx3120, Dx3121, Wx3122, hv3123, hp3124, hp3125, hp3126, hp3127, hp3128, ho3129, hf3130⟩
  · skip
    rw [hv3094]
    have hF : X_Fr (fun q => q = 1 ∨ q = 2 ∨ (496 ≤ q ∧ q ≤ 501) ∨ q = 504 ∨ q = 511 ∨ q = 527 ∨ (B2 ≤ q ∧ q < B2 + 246)) S S3077 := (X_Fr.rf).tr (X_Fr.mono ⟨hf3109.1, hf3109.2⟩ (fun q hq => (by omega)))
    obtain ⟨⟨fl9, fp9, hpa9⟩, at9, n9, cur9, so9, pl9, ct9, hlx9⟩ := hp3102
    have hgb9 := hg_b.fr hF (fun q h1 h2 => by omega)
    obtain ⟨rn9, kn9, hb9, hs9⟩ := hgb9
    have h3131 := (hf3109.1 3 (by first | decide | omega)).trans (hc3)
    have h3132 := (hf3109.1 502 (by first | decide | omega)).trans (hc502)
    have h3133 := (hf3109.1 503 (by first | decide | omega)).trans (hc503)
    have h3134 := (hf3109.1 505 (by first | decide | omega)).trans (hc505)
    have h3135 := (hf3109.1 506 (by first | decide | omega)).trans (hc506)
    have h3136 := (hf3109.1 507 (by first | decide | omega)).trans (hc507)
    have h3137 := (hf3109.1 508 (by first | decide | omega)).trans (hc508)
    have h3138 := (hf3109.1 509 (by first | decide | omega)).trans (hc509)
    have h3139 := (hf3109.1 510 (by first | decide | omega)).trans (hc510)
    have h3140 := (hf3109.1 512 (by first | decide | omega)).trans (hc512)
    have h3141 := (hf3109.1 513 (by first | decide | omega)).trans (hc513)
    have h3142 := (hf3109.1 514 (by first | decide | omega)).trans (hc514)
    have h3143 := (hf3109.1 515 (by first | decide | omega)).trans (hc515)
    have h3144 := (hf3109.1 516 (by first | decide | omega)).trans (hc516)
    have h3145 := (hf3109.1 528 (by first | decide | omega)).trans (hc528)
    have h3146 := (hf3109.1 529 (by first | decide | omega)).trans (hc529)
    exact Or.inl ⟨n3079, so3080, pl3081, ct3082, rc2, kc2, wc2, rn2, lo2, kn2, ab2, D2, W2, c3083, rc3084, kc3085, wc3086, rn3087, lo3088, kn3089, ab3090, D3091, W3092, D3093, rfl, hp3095, hp3096, hp3098, hp3099, ⟨B2, B, (by omega), ⟨ho3103, ho3104, h3131⟩, ⟨B2, fl9, fp9, at9, n9, cur9, so9, pl9, ct9, hpa9, hlx9⟩, ⟨rn3087, kn3089, hp3100, hp3101⟩, ⟨_, _, _, _, _, _, _, _, _, hb9, hs9⟩, ⟨dr, ho3105, h3132, h3133⟩, ⟨nW, nF, nL, nP, nH, nC, ho3107, h3134, h3135, h3136, h3137, h3138, h3139, (fun n h1 h2 => absurd h2 (by omega)), (fun p h h1 h2 h3 h4 => absurd rfl h4)⟩, ⟨0, oK, oW, oA, oH, tl, ho3106, h3140, h3141, h3142, h3143, h3144, (by omega), (fun z => absurd z (by omega))⟩, hg_f.fr hF (fun q h1 h2 => by omega), ⟨hgt, vs, pl, ho3108, h3145, h3146⟩⟩, (X_Fr.rf).tr (X_Fr.mono ⟨hf3109.1, hf3109.2⟩ (fun q hq => (by omega)))⟩
  · skip
    rw [hv3123]
    have hF : X_Fr (fun q => q = 2 ∨ (496 ≤ q ∧ q ≤ 500) ∨ (B2 ≤ q ∧ q < B2 + 246)) S S3077 := (X_Fr.rf).tr (X_Fr.mono ⟨hf3130.1, hf3130.2⟩ (fun q hq => (by omega)))
    obtain ⟨⟨fl9, fp9, hpa9⟩, at9, n9, cur9, so9, pl9, ct9, hlx9⟩ := hp3128
    have h3147 := (hf3130.1 1 (by first | decide | omega)).trans (hc1)
    have h3148 := (hf3130.1 3 (by first | decide | omega)).trans (hc3)
    exact Or.inr ⟨n3110, so3111, pl3112, ct3113, rc2, kc2, wc2, rn2, lo2, kn2, ab2, D2, W2, rfl, hp3124, hp3125, ⟨B, B2, hB_, ⟨h3147, ho3129, h3148⟩, ⟨B2, fl9, fp9, at9, n9, cur9, so9, pl9, ct9, hpa9, hlx9⟩, hg_b.fr hF (fun q h1 h2 => by omega), ⟨rcx3114, kcx3115, wcx3116, rnx3117, lox3118, knx3119, abx3120, Dx3121, Wx3122, hp3126, hp3127⟩, hg_s.fr hF (fun q h1 h2 => by omega), hg_r.fr hF (fun q h1 h2 => by omega), hg_c.fr hF (fun q h1 h2 => by omega), hg_f.fr hF (fun q h1 h2 => by omega), hg_w.fr hF (fun q h1 h2 => by omega)⟩, (X_Fr.rf).tr (X_Fr.mono ⟨hf3130.1, hf3130.2⟩ (fun q hq => (by omega)))⟩
end
section
def X_IRt (S : X_S) (len : Int) (tb : Int → Int) : Prop := ∃ (tp : Int → Int) (tx : Int → Int), S.1 531 = .inl (.byte, 2020, .inl fun k : Nat => iI (tp (k : Int))) ∧ S.1 532 = .inl (.byte, 2000, .inl fun k : Nat => iI (tx (k : Int))) ∧ (∀ k, 0 ≤ k → k < len → tp k = tb k)
theorem X_IRt.fr {S S' : X_S} {len : Int} {tb : Int → Int} {P : Nat → Prop} (h : X_IRt S len tb) (hf : X_Fr P S S') (hp : ∀ q, 531 ≤ q → q ≤ 532 → ¬ P q) : X_IRt S' len tb := by
  obtain ⟨tp, tx, hc531, hc532, htp0⟩ := h
  exact ⟨tp, tx, (hf.1 531 (hp 531 (by omega) (by omega))).trans hc531, (hf.1 532 (hp 532 (by omega) (by omega))).trans hc532, htp0⟩
def X_IRb (S : X_S) (b : Int) (rc : Int) (G : X_G) : Prop := ∃ (KO : X_Kp) (rN : Int → Int64) (kN : Int → Int64) (tg : Int → Int) (kU : Int → Int) (wR : Int → Int) (wL : Int → Int) (wK : Int → Int) (wM : Int → Int) (wH : Int → Int) (wS : Int → Int) (sO : Int → Int) (sN : Int → Int) (eP : Int → Int64) (eH : Int → Int) (hK : Int → Int), S.1 533 = .inl (.long, 24, .inr (.inl fun k : Nat => rN (k : Int))) ∧ S.1 534 = .inl (.long, 22, .inr (.inl fun k : Nat => kN (k : Int))) ∧ S.1 535 = .inl (.boolean, 288, .inl fun k : Nat => iI (tg (k : Int))) ∧ S.1 536 = .inl (.int, 22, .inl fun k : Nat => iI (kU (k : Int))) ∧ S.1 537 = .inl (.int, 60, .inl fun k : Nat => iI (wR (k : Int))) ∧ S.1 538 = .inl (.int, 60, .inl fun k : Nat => iI (wL (k : Int))) ∧ S.1 539 = .inl (.int, 60, .inl fun k : Nat => iI (wK (k : Int))) ∧ S.1 540 = .inl (.int, 60, .inl fun k : Nat => iI (wM (k : Int))) ∧ S.1 541 = .inl (.int, 60, .inl fun k : Nat => iI (wH (k : Int))) ∧ S.1 542 = .inl (.int, 60, .inl fun k : Nat => iI (wS (k : Int))) ∧ S.1 543 = .inl (.int, 1800, .inl fun k : Nat => iI (sO (k : Int))) ∧ S.1 544 = .inl (.int, 1800, .inl fun k : Nat => iI (sN (k : Int))) ∧ S.1 545 = .inl (.long, 480, .inr (.inl fun k : Nat => eP (k : Int))) ∧ S.1 546 = .inl (.int, 480, .inl fun k : Nat => iI (eH (k : Int))) ∧ S.1 547 = .inl (.int, 240, .inl fun k : Nat => iI (hK (k : Int))) ∧ X_Kok KO ∧ X_K4 KO ∧ R_bk b KO rN kN tg kU wR wL wK wM wH wS sO sN eP eH hK ∧ X_KG rc G KO
theorem X_IRb.fr {S S' : X_S} {b : Int} {rc : Int} {G : X_G} {P : Nat → Prop} (h : X_IRb S b rc G) (hf : X_Fr P S S') (hp : ∀ q, 533 ≤ q → q ≤ 547 → ¬ P q) : X_IRb S' b rc G := by
  obtain ⟨KO, rN, kN, tg, kU, wR, wL, wK, wM, wH, wS, sO, sN, eP, eH, hK, hc533, hc534, hc535, hc536, hc537, hc538, hc539, hc540, hc541, hc542, hc543, hc544, hc545, hc546, hc547, hOk, hO4, hO, hKG⟩ := h
  exact ⟨KO, rN, kN, tg, kU, wR, wL, wK, wM, wH, wS, sO, sN, eP, eH, hK, (hf.1 533 (hp 533 (by omega) (by omega))).trans hc533, (hf.1 534 (hp 534 (by omega) (by omega))).trans hc534, (hf.1 535 (hp 535 (by omega) (by omega))).trans hc535, (hf.1 536 (hp 536 (by omega) (by omega))).trans hc536, (hf.1 537 (hp 537 (by omega) (by omega))).trans hc537, (hf.1 538 (hp 538 (by omega) (by omega))).trans hc538, (hf.1 539 (hp 539 (by omega) (by omega))).trans hc539, (hf.1 540 (hp 540 (by omega) (by omega))).trans hc540, (hf.1 541 (hp 541 (by omega) (by omega))).trans hc541, (hf.1 542 (hp 542 (by omega) (by omega))).trans hc542, (hf.1 543 (hp 543 (by omega) (by omega))).trans hc543, (hf.1 544 (hp 544 (by omega) (by omega))).trans hc544, (hf.1 545 (hp 545 (by omega) (by omega))).trans hc545, (hf.1 546 (hp 546 (by omega) (by omega))).trans hc546, (hf.1 547 (hp 547 (by omega) (by omega))).trans hc547, hOk, hO4, hO, hKG⟩
def X_IRs (S : X_S) (G : X_G) (tn : Int) : Prop := ∃ (tT : Int → Int64) (nn : Int → Int64) (tU : Int → Int) (nu : Int → Int), S.1 548 = .inl (.long, 30, .inr (.inl fun k : Nat => tT (k : Int))) ∧ S.1 549 = .inl (.long, 30, .inr (.inl fun k : Nat => nn (k : Int))) ∧ S.1 550 = .inl (.int, 30, .inl fun k : Nat => iI (tU (k : Int))) ∧ S.1 551 = .inl (.int, 30, .inl fun k : Nat => iI (nu (k : Int))) ∧ (∀ t, 0 ≤ t → t < tn → tT t = gt G t) ∧ (∀ t, 0 ≤ t → t < tn → tU t = X_nv (gt G t))
theorem X_IRs.fr {S S' : X_S} {G : X_G} {tn : Int} {P : Nat → Prop} (h : X_IRs S G tn) (hf : X_Fr P S S') (hp : ∀ q, 548 ≤ q → q ≤ 551 → ¬ P q) : X_IRs S' G tn := by
  obtain ⟨tT, nn, tU, nu, hc548, hc549, hc550, hc551, hTT, hTU⟩ := h
  exact ⟨tT, nn, tU, nu, (hf.1 548 (hp 548 (by omega) (by omega))).trans hc548, (hf.1 549 (hp 549 (by omega) (by omega))).trans hc549, (hf.1 550 (hp 550 (by omega) (by omega))).trans hc550, (hf.1 551 (hp 551 (by omega) (by omega))).trans hc551, hTT, hTU⟩
def X_IRc (S : X_S) (G : X_G) (tn : Int) : Prop := ∃ (oW : Int → Int64) (oK : Int → Int64) (oH : Int → Int64) (r1 : Int → Int64) (r2 : Int → Int64), S.1 552 = .inl (.long, 28830, .inr (.inl fun k : Nat => oW (k : Int))) ∧ S.1 553 = .inl (.long, 10571, .inr (.inl fun k : Nat => oK (k : Int))) ∧ S.1 554 = .inl (.long, 115320, .inr (.inl fun k : Nat => oH (k : Int))) ∧ S.1 555 = .inl (.long, 32, .inr (.inl fun k : Nat => r1 (k : Int))) ∧ S.1 556 = .inl (.long, 32, .inr (.inl fun k : Nat => r2 (k : Int))) ∧ R_ct G tn oW oK oH
theorem X_IRc.fr {S S' : X_S} {G : X_G} {tn : Int} {P : Nat → Prop} (h : X_IRc S G tn) (hf : X_Fr P S S') (hp : ∀ q, 552 ≤ q → q ≤ 556 → ¬ P q) : X_IRc S' G tn := by
  obtain ⟨oW, oK, oH, r1, r2, hc552, hc553, hc554, hc555, hc556, hCt⟩ := h
  exact ⟨oW, oK, oH, r1, r2, (hf.1 552 (hp 552 (by omega) (by omega))).trans hc552, (hf.1 553 (hp 553 (by omega) (by omega))).trans hc553, (hf.1 554 (hp 554 (by omega) (by omega))).trans hc554, (hf.1 555 (hp 555 (by omega) (by omega))).trans hc555, (hf.1 556 (hp 556 (by omega) (by omega))).trans hc556, hCt⟩
def X_IRn (S : X_S) (nc : Int) (N : Int → Int → Int) : Prop := ∃ (nW : Int → Int) (nF : Int → Int) (nL : Int → Int) (nP : Int → Int) (nH : Int → Int), S.1 557 = .inl (.int, 40, .inl fun k : Nat => iI (nW (k : Int))) ∧ S.1 558 = .inl (.int, 40, .inl fun k : Nat => iI (nF (k : Int))) ∧ S.1 559 = .inl (.int, 40, .inl fun k : Nat => iI (nL (k : Int))) ∧ S.1 560 = .inl (.int, 40, .inl fun k : Nat => iI (nP (k : Int))) ∧ S.1 561 = .inl (.int, 40, .inl fun k : Nat => iI (nH (k : Int))) ∧ R_nd nc N nW nF nL nP nH
theorem X_IRn.fr {S S' : X_S} {nc : Int} {N : Int → Int → Int} {P : Nat → Prop} (h : X_IRn S nc N) (hf : X_Fr P S S') (hp : ∀ q, 557 ≤ q → q ≤ 561 → ¬ P q) : X_IRn S' nc N := by
  obtain ⟨nW, nF, nL, nP, nH, hc557, hc558, hc559, hc560, hc561, hnd⟩ := h
  exact ⟨nW, nF, nL, nP, nH, (hf.1 557 (hp 557 (by omega) (by omega))).trans hc557, (hf.1 558 (hp 558 (by omega) (by omega))).trans hc558, (hf.1 559 (hp 559 (by omega) (by omega))).trans hc559, (hf.1 560 (hp 560 (by omega) (by omega))).trans hc560, (hf.1 561 (hp 561 (by omega) (by omega))).trans hc561, hnd⟩
def X_IRp (S : X_S)  : Prop := ∃ (pF : Int → Int) (pT : Int → Int) (pS : Int → Int) (pH : Int → Int) (pW : Int → Int) (pP : Int → Int) (pQ : Int → Int) (pN : Int → Int64) (cF : Int → Int) (cT : Int → Int) (cN : Int → Int64) (rr : Int → Int64), S.1 562 = .inl (.int, 160, .inl fun k : Nat => iI (pF (k : Int))) ∧ S.1 563 = .inl (.int, 160, .inl fun k : Nat => iI (pT (k : Int))) ∧ S.1 564 = .inl (.int, 160, .inl fun k : Nat => iI (pS (k : Int))) ∧ S.1 565 = .inl (.int, 160, .inl fun k : Nat => iI (pH (k : Int))) ∧ S.1 566 = .inl (.int, 160, .inl fun k : Nat => iI (pW (k : Int))) ∧ S.1 567 = .inl (.int, 160, .inl fun k : Nat => iI (pP (k : Int))) ∧ S.1 568 = .inl (.int, 160, .inl fun k : Nat => iI (pQ (k : Int))) ∧ S.1 569 = .inl (.long, 160, .inr (.inl fun k : Nat => pN (k : Int))) ∧ S.1 570 = .inl (.int, 4, .inl fun k : Nat => iI (cF (k : Int))) ∧ S.1 571 = .inl (.int, 4, .inl fun k : Nat => iI (cT (k : Int))) ∧ S.1 572 = .inl (.long, 4, .inr (.inl fun k : Nat => cN (k : Int))) ∧ S.1 573 = .inl (.long, 288, .inr (.inl fun k : Nat => rr (k : Int)))
theorem X_IRp.fr {S S' : X_S}  {P : Nat → Prop} (h : X_IRp S ) (hf : X_Fr P S S') (hp : ∀ q, 562 ≤ q → q ≤ 573 → ¬ P q) : X_IRp S'  := by
  obtain ⟨pF, pT, pS, pH, pW, pP, pQ, pN, cF, cT, cN, rr, hc562, hc563, hc564, hc565, hc566, hc567, hc568, hc569, hc570, hc571, hc572, hc573⟩ := h
  exact ⟨pF, pT, pS, pH, pW, pP, pQ, pN, cF, cT, cN, rr, (hf.1 562 (hp 562 (by omega) (by omega))).trans hc562, (hf.1 563 (hp 563 (by omega) (by omega))).trans hc563, (hf.1 564 (hp 564 (by omega) (by omega))).trans hc564, (hf.1 565 (hp 565 (by omega) (by omega))).trans hc565, (hf.1 566 (hp 566 (by omega) (by omega))).trans hc566, (hf.1 567 (hp 567 (by omega) (by omega))).trans hc567, (hf.1 568 (hp 568 (by omega) (by omega))).trans hc568, (hf.1 569 (hp 569 (by omega) (by omega))).trans hc569, (hf.1 570 (hp 570 (by omega) (by omega))).trans hc570, (hf.1 571 (hp 571 (by omega) (by omega))).trans hc571, (hf.1 572 (hp 572 (by omega) (by omega))).trans hc572, (hf.1 573 (hp 573 (by omega) (by omega))).trans hc573⟩
def X_IRv (S : X_S) (G : X_G) : Prop := ∃ (bo : Int → Int) (va : Int → Int), S.1 574 = .inl (.boolean, 30, .inl fun k : Nat => iI (bo (k : Int))) ∧ S.1 575 = .inl (.int, 30, .inl fun k : Nat => iI (va (k : Int))) ∧ (∀ w, 0 ≤ w → w < gw G → (bo w = gD G w 6 0 ∧ (gD G w 6 0 = 1 → va w = gD G w 7 0)) ∧ 0 ≤ gD G w 6 0 ∧ gD G w 6 0 ≤ 1)
theorem X_IRv.fr {S S' : X_S} {G : X_G} {P : Nat → Prop} (h : X_IRv S G) (hf : X_Fr P S S') (hp : ∀ q, 574 ≤ q → q ≤ 575 → ¬ P q) : X_IRv S' G := by
  obtain ⟨bo, va, hc574, hc575, hbo⟩ := h
  exact ⟨bo, va, (hf.1 574 (hp 574 (by omega) (by omega))).trans hc574, (hf.1 575 (hp 575 (by omega) (by omega))).trans hc575, hbo⟩
def X_IRw (S : X_S)  : Prop := ∃ (vs : Int → Int) (pl : Int → Int) (hv : Int → Int) (dn : Int → Int), S.1 576 = .inl (.int, 40, .inl fun k : Nat => iI (vs (k : Int))) ∧ S.1 577 = .inl (.int, 18, .inl fun k : Nat => iI (pl (k : Int))) ∧ S.1 578 = .inl (.int, 4, .inl fun k : Nat => iI (hv (k : Int))) ∧ S.1 579 = .inl (.boolean, 40, .inl fun k : Nat => iI (dn (k : Int)))
theorem X_IRw.fr {S S' : X_S}  {P : Nat → Prop} (h : X_IRw S ) (hf : X_Fr P S S') (hp : ∀ q, 576 ≤ q → q ≤ 579 → ¬ P q) : X_IRw S'  := by
  obtain ⟨vs, pl, hv, dn, hc576, hc577, hc578, hc579⟩ := h
  exact ⟨vs, pl, hv, dn, (hf.1 576 (hp 576 (by omega) (by omega))).trans hc576, (hf.1 577 (hp 577 (by omega) (by omega))).trans hc577, (hf.1 578 (hp 578 (by omega) (by omega))).trans hc578, (hf.1 579 (hp 579 (by omega) (by omega))).trans hc579⟩
def X_IR (S : X_S) (len : Int) (tb : Int → Int) (rc : Int) (G : X_G) (tn : Int) (nc : Int) (N : Int → Int → Int) (rs : Int) (re : Int) : Prop :=
  ∃ (o : Nat → Int) (nm : Int64) (b : Int) (wk : Int) (f69 : Int) (f70 : Int), (0 ≤ b ∧ b ≤ 1) ∧ (0 ≤ wk ∧ wk ≤ 1) ∧ ((¬ wk = 0 ∧ f70 = rs ∧ f69 = re) ∨ (wk = 0 ∧ rs = 0 ∧ re = -1)) ∧ S.1 530 = .inr (11, [.ref 531, .int (iI len), .ref 532, .int (iI (o 3)), .int (iI b), .int (iI (o 5)), .int (iI (o 6)), .int (iI (o 7)), .int (iI (o 8)), .int (iI (o 9)), .int (iI (o 10)), .int (iI (o 11)), .long nm, .ref 533, .ref 534, .ref 535, .ref 536, .ref 537, .ref 538, .ref 539, .ref 540, .ref 541, .ref 542, .ref 543, .ref 544, .ref 545, .ref 546, .ref 547, .int (iI rc), .int (iI (gk G)), .int (iI (gw G)), .int (iI rc), .int (iI (gk G)), .int (iI (gw G)), .ref 548, .ref 549, .ref 550, .ref 551, .int (iI tn), .ref 552, .ref 553, .ref 554, .ref 555, .ref 556, .ref 557, .ref 558, .ref 559, .ref 560, .ref 561, .int (iI nc), .ref 562, .ref 563, .ref 564, .ref 565, .ref 566, .ref 567, .ref 568, .ref 569, .int (iI (o 58)), .ref 570, .ref 571, .ref 572, .ref 573, .ref 574, .ref 575, .ref 576, .ref 577, .ref 578, .int (iI wk), .int (iI f69), .int (iI f70), .ref 579]) ∧ X_IRt S len tb ∧ X_IRb S b rc G ∧ X_IRs S G tn ∧ X_IRc S G tn ∧ X_IRn S nc N ∧ X_IRp S  ∧ X_IRv S G ∧ X_IRw S 
theorem X_IR.fr {S S' : X_S} {len : Int} {tb : Int → Int} {rc : Int} {G : X_G} {tn : Int} {nc : Int} {N : Int → Int → Int} {rs : Int} {re : Int} {P : Nat → Prop} (hI : X_IR S len tb rc G tn nc N rs re) (hf : X_Fr P S S') (hp : ∀ q, 530 ≤ q → q ≤ 579 → ¬ P q) : X_IR S' len tb rc G tn nc N rs re := by
  obtain ⟨o, nm, b, wk, f69, f70, hbr, hwr, hwk, hc530, hg_t, hg_b, hg_s, hg_c, hg_n, hg_p, hg_v, hg_w⟩ := hI
  exact ⟨o, nm, b, wk, f69, f70, hbr, hwr, hwk, (hf.1 530 (hp 530 (by omega) (by omega))).trans hc530, hg_t.fr hf (fun q h1 h2 => hp q (by omega) (by omega)), hg_b.fr hf (fun q h1 h2 => hp q (by omega) (by omega)), hg_s.fr hf (fun q h1 h2 => hp q (by omega) (by omega)), hg_c.fr hf (fun q h1 h2 => hp q (by omega) (by omega)), hg_n.fr hf (fun q h1 h2 => hp q (by omega) (by omega)), hg_p.fr hf (fun q h1 h2 => hp q (by omega) (by omega)), hg_v.fr hf (fun q h1 h2 => hp q (by omega) (by omega)), hg_w.fr hf (fun q h1 h2 => hp q (by omega) (by omega))⟩
theorem X_Gb_6 {G : X_G} {w vl v : Int} : gD (X_Gb G w vl) v 6 0 = if v = w then 1 else gD G v 6 0 := by
  show X_ug (gD G) w (X_wu (X_wu (gD G w) 6 (fun _ => 1)) 7 (fun _ => vl)) v 6 0 = _
  by_cases hv : v = w
  · rw [hv, X_ug_s, if_pos rfl]; rfl
  · rw [X_ug_n _ _ hv, if_neg hv]
theorem X_Gb_7 {G : X_G} {w vl v : Int} : gD (X_Gb G w vl) v 7 0 = if v = w then vl else gD G v 7 0 := by
  show X_ug (gD G) w (X_wu (X_wu (gD G w) 6 (fun _ => 1)) 7 (fun _ => vl)) v 7 0 = _
  by_cases hv : v = w
  · rw [hv, X_ug_s, if_pos rfl]; rfl
  · rw [X_ug_n _ _ hv, if_neg hv]
theorem X_IRb.bind {S : X_S} {b rc : Int} {G : X_G} {w vl : Int} (h : X_IRb S b rc G) : X_IRb S b rc (X_Gb G w vl) := by
  obtain ⟨KO, rN, kN, tg, kU, wR, wL, wK, wM, wH, wS, sO, sN, eP, eH, hK, hc533, hc534, hc535, hc536, hc537, hc538, hc539, hc540, hc541, hc542, hc543, hc544, hc545, hc546, hc547, hOk, hO4, hO, hKG⟩ := h
  exact ⟨KO, rN, kN, tg, kU, wR, wL, wK, wM, wH, wS, sO, sN, eP, eH, hK, hc533, hc534, hc535, hc536, hc537, hc538, hc539, hc540, hc541, hc542, hc543, hc544, hc545, hc546, hc547, hOk, hO4, hO, hKG.bind⟩
theorem X_IRc.bind {S : X_S} {G : X_G} {tn w vl : Int} (h : X_IRc S G tn) : X_IRc S (X_Gb G w vl) tn := by
  obtain ⟨oW, oK, oH, r1, r2, hc552, hc553, hc554, hc555, hc556, hCt⟩ := h
  exact ⟨oW, oK, oH, r1, r2, hc552, hc553, hc554, hc555, hc556, R_ct_dr.mp (by rw [X_Gb_dr]; exact R_ct_dr.mpr hCt)⟩
theorem X_IRs.bind {S : X_S} {G : X_G} {tn w vl : Int} (h : X_IRs S G tn) : X_IRs S (X_Gb G w vl) tn := h
theorem X_IRb.text {S : X_S} {b rc : Int} {G : X_G} {t : Int → Int64} (h : X_IRb S b rc G) : X_IRb S b rc (X_Gt G t) := h
theorem X_IRv.text {S : X_S} {G : X_G} {t : Int → Int64} (h : X_IRv S G) : X_IRv S (X_Gt G t) := h
theorem m_feed (sc : X_Sc) (S : X_S) (len : Int) (tb : Int → Int) (rc : Int) (G : X_G) (tn : Int) (nc : Int) (N : Int → Int → Int) (rs : Int) (re : Int) (a : Int) (b_ : Int) (c : Int) (d : Int) (e : Int) (hI : X_IR S len tb rc G tn nc N rs re) (hA : X_Ao len tb G tn nc N) : X_T sc 201 (0, [(0, .ref 530), (1, .int (iI a)), (2, .int (iI b_)), (3, .int (iI c)), (4, .int (iI d)), (5, .int (iI e))], [], S) (fun v S' => (v = some (.int (iI (-1))) ∧ 2000 < len + 20 ∧ X_IR S' len tb rc G tn nc N rs re ∧ (X_Fr (fun q => 530 ≤ q ∧ q ≤ 579) S S')) ∨ (v = some (.int (iI (len + 20))) ∧ len + 20 ≤ 2000 ∧ X_IR S' (len + 20) (X_fd5 tb len a b_ c d e) rc G tn nc N rs re ∧ (X_Fr (fun q => 530 ≤ q ∧ q ≤ 579) S S'))) := by
  obtain ⟨o, nm, b, wk, f69, f70, hbr, hwr, hwk, hc530, hg_t, hg_b, hg_s, hg_c, hg_n, hg_p, hg_v, hg_w⟩ := hI
  obtain ⟨hl, htb, hG, hGs, htn, hR, h40⟩ := hA
  have hRn := hR.1
  have hh_t := hg_t
  obtain ⟨tp, tx, hc531, hc532, htp0⟩ := hh_t
  refine X_QI (fun Q hQ => ?_)
  refine T_mono (r_feed sc S tp (X_ou (X_ou (X_ou (X_ou (X_ou (X_ou (X_ou (X_ou o 1 len) 31 rc) 32 (gk G)) 33 (gw G)) 49 nc) 68 wk) 69 f69) 70 f70) nm b rc G tn len a b_ c d e hc530 hc531 (by omega)) (fun v2757 S2758 h2759 => hQ _ _ ?_)
  rcases h2759 with ⟨hv2760, hp2761, hf2762⟩ | ⟨tp2763, hv2764, hp2765, hp2766, hp2767, ho2768, ha2769, hf2770⟩
  · skip
    rw [hv2760]
    rw [hf2762]
    exact Or.inl ⟨rfl, hp2761, ⟨o, nm, b, wk, f69, f70, hbr, (by omega), hwk, hc530, hg_t, hg_b, hg_s, hg_c, hg_n, hg_p, hg_v, hg_w⟩, X_Fr.rf⟩
  · skip
    rw [hv2764]
    have hF : X_Fr (fun q => q = 530 ∨ q = 531) S S2758 := (X_Fr.rf).tr (X_Fr.mono ⟨hf2770.1, hf2770.2⟩ (fun q hq => (by omega)))
    have h2771 := (hf2770.1 532 (by first | decide | omega)).trans (hc532)
    exact Or.inr ⟨rfl, hp2765, ⟨o, nm, b, wk, f69, f70, hbr, (by omega), hwk, ho2768, ⟨tp2763, tx, ha2769, h2771, (fun k h1 h2 => by
        by_cases hk : k < len
        · rw [hp2766 k h1 hk, X_fd5_o hk]; exact htp0 k h1 hk
        · have e1 := X_fd5_i (tb := tb) (len := len) (a := a) (b := b_) (c := c) (d := d) (e := e) (k := k - len) (by omega)
          have e2 := hp2767 (k - len) (by omega) (by omega)
          rw [show len + (k - len) = k by omega] at e1 e2
          rw [e1, e2])⟩, hg_b.fr hF (fun q h1 h2 => by omega), hg_s.fr hF (fun q h1 h2 => by omega), hg_c.fr hF (fun q h1 h2 => by omega), hg_n.fr hF (fun q h1 h2 => by omega), hg_p.fr hF (fun q h1 h2 => by omega), hg_v.fr hF (fun q h1 h2 => by omega), hg_w.fr hF (fun q h1 h2 => by omega)⟩, (X_Fr.rf).tr (X_Fr.mono ⟨hf2770.1, hf2770.2⟩ (fun q hq => (by omega)))⟩
theorem m_end (sc : X_Sc) (S : X_S) (len : Int) (tb : Int → Int) (rc : Int) (G : X_G) (tn : Int) (nc : Int) (N : Int → Int → Int) (rs : Int) (re : Int) (n : Int) (hI : X_IR S len tb rc G tn nc N rs re) (hA : X_Ao len tb G tn nc N) (hr_n : -2147483648 ≤ n ∧ n ≤ 2147483647) : X_T sc 202 (0, [(0, .ref 530), (1, .int (iI n))], [], S) (fun v S' => (v = some (.int (iI (-1))) ∧ (n < 0 ∨ len < n) ∧ X_IR S' len tb rc G tn nc N rs re ∧ (X_Fr (fun q => 530 ≤ q ∧ q ≤ 579) S S')) ∨ (v = some (.int (iI n)) ∧ (0 ≤ n ∧ n ≤ len) ∧ X_IR S' n tb rc G tn nc N rs re ∧ (X_Fr (fun q => 530 ≤ q ∧ q ≤ 579) S S'))) := by
  obtain ⟨o, nm, b, wk, f69, f70, hbr, hwr, hwk, hc530, hg_t, hg_b, hg_s, hg_c, hg_n, hg_p, hg_v, hg_w⟩ := hI
  obtain ⟨hl, htb, hG, hGs, htn, hR, h40⟩ := hA
  have hRn := hR.1
  have hh_t := hg_t
  obtain ⟨tp, tx, hc531, hc532, htp0⟩ := hh_t
  refine X_QI (fun Q hQ => ?_)
  refine T_mono (r_end sc S (X_ou (X_ou (X_ou (X_ou (X_ou (X_ou (X_ou (X_ou o 1 len) 31 rc) 32 (gk G)) 33 (gw G)) 49 nc) 68 wk) 69 f69) 70 f70) nm b rc G tn len n hc530 (by omega) (by omega)) (fun v2772 S2773 h2774 => hQ _ _ ?_)
  rcases h2774 with ⟨hv2775, hp2776, hf2777⟩ | ⟨hv2778, hp2779, ho2780, hf2781⟩
  · skip
    rw [hv2775]
    rw [hf2777]
    exact Or.inl ⟨rfl, hp2776, ⟨o, nm, b, wk, f69, f70, hbr, (by omega), hwk, hc530, hg_t, hg_b, hg_s, hg_c, hg_n, hg_p, hg_v, hg_w⟩, X_Fr.rf⟩
  · skip
    rw [hv2778]
    have hF : X_Fr (fun q => q = 530) S S2773 := (X_Fr.rf).tr (X_Fr.mono ⟨hf2781.1, hf2781.2⟩ (fun q hq => (by omega)))
    have h2782 := (hf2781.1 531 (by first | decide | omega)).trans (hc531)
    have h2783 := (hf2781.1 532 (by first | decide | omega)).trans (hc532)
    exact Or.inr ⟨rfl, hp2779, ⟨o, nm, b, wk, f69, f70, hbr, (by omega), hwk, ho2780, ⟨tp, tx, h2782, h2783, (fun k h1 h2 => htp0 k h1 (by omega))⟩, hg_b.fr hF (fun q h1 h2 => by omega), hg_s.fr hF (fun q h1 h2 => by omega), hg_c.fr hF (fun q h1 h2 => by omega), hg_n.fr hF (fun q h1 h2 => by omega), hg_p.fr hF (fun q h1 h2 => by omega), hg_v.fr hF (fun q h1 h2 => by omega), hg_w.fr hF (fun q h1 h2 => by omega)⟩, (X_Fr.rf).tr (X_Fr.mono ⟨hf2781.1, hf2781.2⟩ (fun q hq => (by omega)))⟩
theorem m_fault (sc : X_Sc) (S : X_S) (len : Int) (tb : Int → Int) (rc : Int) (G : X_G) (tn : Int) (nc : Int) (N : Int → Int → Int) (rs : Int) (re : Int) (w : Int) (hI : X_IR S len tb rc G tn nc N rs re) (hA : X_Ao len tb G tn nc N) (hr_w : -2147483648 ≤ w ∧ w ≤ 2147483647) : X_T sc 163 (0, [(0, .ref 530), (1, .int (iI w))], [], S) (fun v S' => ∃ (r : Int), v = some (.int (iI r)) ∧ X_IR S' len tb rc G tn nc N rs re ∧ (X_Fr (fun q => 530 ≤ q ∧ q ≤ 579) S S')) := by
  obtain ⟨o, nm, b, wk, f69, f70, hbr, hwr, hwk, hc530, hg_t, hg_b, hg_s, hg_c, hg_n, hg_p, hg_v, hg_w⟩ := hI
  obtain ⟨hl, htb, hG, hGs, htn, hR, h40⟩ := hA
  have hRn := hR.1
  refine X_QI (fun Q hQ => ?_)
  refine T_mono (r_fault sc S (X_ou (X_ou (X_ou (X_ou (X_ou (X_ou (X_ou (X_ou o 1 len) 31 rc) 32 (gk G)) 33 (gw G)) 49 nc) 68 wk) 69 f69) 70 f70) nm b rc G tn w hc530 (by omega)) (fun v2784 S2785 h2786 => hQ _ _ ?_)
  rcases h2786 with ⟨r2787, hv2788, hf2789⟩
  skip
  rw [hv2788]
  rw [hf2789]
  exact ⟨r2787, rfl, ⟨o, nm, b, wk, f69, f70, hbr, (by omega), hwk, hc530, hg_t, hg_b, hg_s, hg_c, hg_n, hg_p, hg_v, hg_w⟩, X_Fr.rf⟩
theorem m_about (sc : X_Sc) (S : X_S) (len : Int) (tb : Int → Int) (rc : Int) (G : X_G) (tn : Int) (nc : Int) (N : Int → Int → Int) (rs : Int) (re : Int) (w : Int) (hI : X_IR S len tb rc G tn nc N rs re) (hA : X_Ao len tb G tn nc N) (hr_w : -2147483648 ≤ w ∧ w ≤ 2147483647) : X_T sc 164 (0, [(0, .ref 530), (1, .int (iI w))], [], S) (fun v S' => v = some (.int (iI (X_qAb rc (gk G) (gw G) tn nc len w))) ∧ X_IR S' len tb rc G tn nc N rs re ∧ (X_Fr (fun q => 530 ≤ q ∧ q ≤ 579) S S')) := by
  obtain ⟨o, nm, b, wk, f69, f70, hbr, hwr, hwk, hc530, hg_t, hg_b, hg_s, hg_c, hg_n, hg_p, hg_v, hg_w⟩ := hI
  obtain ⟨hl, htb, hG, hGs, htn, hR, h40⟩ := hA
  have hRn := hR.1
  refine X_QI (fun Q hQ => ?_)
  refine T_mono (r_about sc S (X_ou (X_ou (X_ou (X_ou (X_ou (X_ou (X_ou (X_ou o 1 len) 31 rc) 32 (gk G)) 33 (gw G)) 49 nc) 68 wk) 69 f69) 70 f70) nm b rc G tn nc len w hc530 (by omega)) (fun v2790 S2791 h2792 => hQ _ _ ?_)
  rcases h2792 with ⟨hv2793, hf2794⟩
  skip
  rw [hv2793]
  rw [hf2794]
  exact ⟨rfl, ⟨o, nm, b, wk, f69, f70, hbr, (by omega), hwk, hc530, hg_t, hg_b, hg_s, hg_c, hg_n, hg_p, hg_v, hg_w⟩, X_Fr.rf⟩
theorem m_word (sc : X_Sc) (S : X_S) (len : Int) (tb : Int → Int) (rc : Int) (G : X_G) (tn : Int) (nc : Int) (N : Int → Int → Int) (rs : Int) (re : Int) (w : Int) (wh : Int) (hI : X_IR S len tb rc G tn nc N rs re) (hA : X_Ao len tb G tn nc N) (hr_w : -2147483648 ≤ w ∧ w ≤ 2147483647) (hr_wh : -2147483648 ≤ wh ∧ wh ≤ 2147483647) : X_T sc 166 (0, [(0, .ref 530), (1, .int (iI w)), (2, .int (iI wh))], [], S) (fun v S' => v = some (.int (iI (X_qWd G w wh))) ∧ X_IR S' len tb rc G tn nc N rs re ∧ (X_Fr (fun q => 530 ≤ q ∧ q ≤ 579) S S')) := by
  obtain ⟨o, nm, b, wk, f69, f70, hbr, hwr, hwk, hc530, hg_t, hg_b, hg_s, hg_c, hg_n, hg_p, hg_v, hg_w⟩ := hI
  obtain ⟨hl, htb, hG, hGs, htn, hR, h40⟩ := hA
  have hRn := hR.1
  have hh_b := hg_b
  obtain ⟨KO, rN, kN, tg, kU, wR, wL, wK, wM, wH, wS, sO, sN, eP, eH, hK, hc533, hc534, hc535, hc536, hc537, hc538, hc539, hc540, hc541, hc542, hc543, hc544, hc545, hc546, hc547, hOk, hO4, hO, hKG⟩ := hh_b
  obtain ⟨hrc, hKU, hTG, hWR, hWL, hWK, hWM, hWH, hWS, hEP, hEH, hHK, hST⟩ := R_bk.hyps hO hOk hKG
  refine X_QI (fun Q hQ => ?_)
  refine T_mono (r_word sc S wR wL wK wM wH wS eP (X_ou (X_ou (X_ou (X_ou (X_ou (X_ou (X_ou (X_ou o 1 len) 31 rc) 32 (gk G)) 33 (gw G)) 49 nc) 68 wk) 69 f69) 70 f70) nm b rc G tn w wh hc530 hc537 hc538 hc539 hc540 hc541 hc542 hc545 hbr hG hWR hWL hWK hWM hWH hWS hEP (by omega) (by omega)) (fun v2795 S2796 h2797 => hQ _ _ ?_)
  rcases h2797 with ⟨hv2798, hf2799⟩
  skip
  rw [hv2798]
  rw [hf2799]
  exact ⟨rfl, ⟨o, nm, b, wk, f69, f70, hbr, (by omega), hwk, hc530, hg_t, hg_b, hg_s, hg_c, hg_n, hg_p, hg_v, hg_w⟩, X_Fr.rf⟩
theorem m_tighter (sc : X_Sc) (S : X_S) (len : Int) (tb : Int → Int) (rc : Int) (G : X_G) (tn : Int) (nc : Int) (N : Int → Int → Int) (rs : Int) (re : Int) (a : Int) (c : Int) (hI : X_IR S len tb rc G tn nc N rs re) (hA : X_Ao len tb G tn nc N) (hr_a : -2147483648 ≤ a ∧ a ≤ 2147483647) (hr_c : -2147483648 ≤ c ∧ c ≤ 2147483647) : X_T sc 167 (0, [(0, .ref 530), (1, .int (iI a)), (2, .int (iI c))], [], S) (fun v S' => v = some (.int (iI (X_qTi G rc a c))) ∧ X_IR S' len tb rc G tn nc N rs re ∧ (X_Fr (fun q => 530 ≤ q ∧ q ≤ 579) S S')) := by
  obtain ⟨o, nm, b, wk, f69, f70, hbr, hwr, hwk, hc530, hg_t, hg_b, hg_s, hg_c, hg_n, hg_p, hg_v, hg_w⟩ := hI
  obtain ⟨hl, htb, hG, hGs, htn, hR, h40⟩ := hA
  have hRn := hR.1
  have hh_b := hg_b
  obtain ⟨KO, rN, kN, tg, kU, wR, wL, wK, wM, wH, wS, sO, sN, eP, eH, hK, hc533, hc534, hc535, hc536, hc537, hc538, hc539, hc540, hc541, hc542, hc543, hc544, hc545, hc546, hc547, hOk, hO4, hO, hKG⟩ := hh_b
  obtain ⟨hrc, hKU, hTG, hWR, hWL, hWK, hWM, hWH, hWS, hEP, hEH, hHK, hST⟩ := R_bk.hyps hO hOk hKG
  refine X_QI (fun Q hQ => ?_)
  refine T_mono (r_tighter sc S tg (X_ou (X_ou (X_ou (X_ou (X_ou (X_ou (X_ou (X_ou o 1 len) 31 rc) 32 (gk G)) 33 (gw G)) 49 nc) 68 wk) 69 f69) 70 f70) nm b rc G tn a c hc530 hc535 hbr hTG (by omega) (by omega) (by omega)) (fun v2800 S2801 h2802 => hQ _ _ ?_)
  rcases h2802 with ⟨hv2803, hf2804⟩
  skip
  rw [hv2803]
  rw [hf2804]
  exact ⟨rfl, ⟨o, nm, b, wk, f69, f70, hbr, (by omega), hwk, hc530, hg_t, hg_b, hg_s, hg_c, hg_n, hg_p, hg_v, hg_w⟩, X_Fr.rf⟩
theorem m_under (sc : X_Sc) (S : X_S) (len : Int) (tb : Int → Int) (rc : Int) (G : X_G) (tn : Int) (nc : Int) (N : Int → Int → Int) (rs : Int) (re : Int) (a : Int) (c : Int) (hI : X_IR S len tb rc G tn nc N rs re) (hA : X_Ao len tb G tn nc N) (hr_a : -2147483648 ≤ a ∧ a ≤ 2147483647) (hr_c : -2147483648 ≤ c ∧ c ≤ 2147483647) : X_T sc 169 (0, [(0, .ref 530), (1, .int (iI a)), (2, .int (iI c))], [], S) (fun v S' => v = some (.int (iI (X_qUn G a c))) ∧ X_IR S' len tb rc G tn nc N rs re ∧ (X_Fr (fun q => 530 ≤ q ∧ q ≤ 579) S S')) := by
  obtain ⟨o, nm, b, wk, f69, f70, hbr, hwr, hwk, hc530, hg_t, hg_b, hg_s, hg_c, hg_n, hg_p, hg_v, hg_w⟩ := hI
  obtain ⟨hl, htb, hG, hGs, htn, hR, h40⟩ := hA
  have hRn := hR.1
  have hh_b := hg_b
  obtain ⟨KO, rN, kN, tg, kU, wR, wL, wK, wM, wH, wS, sO, sN, eP, eH, hK, hc533, hc534, hc535, hc536, hc537, hc538, hc539, hc540, hc541, hc542, hc543, hc544, hc545, hc546, hc547, hOk, hO4, hO, hKG⟩ := hh_b
  obtain ⟨hrc, hKU, hTG, hWR, hWL, hWK, hWM, hWH, hWS, hEP, hEH, hHK, hST⟩ := R_bk.hyps hO hOk hKG
  refine X_QI (fun Q hQ => ?_)
  refine T_mono (r_under sc S kU (X_ou (X_ou (X_ou (X_ou (X_ou (X_ou (X_ou (X_ou o 1 len) 31 rc) 32 (gk G)) 33 (gw G)) 49 nc) 68 wk) 69 f69) 70 f70) nm b rc G tn a c hc530 hc536 hbr hG hKU (by omega) (by omega)) (fun v2805 S2806 h2807 => hQ _ _ ?_)
  rcases h2807 with ⟨hv2808, hf2809⟩
  skip
  rw [hv2808]
  rw [hf2809]
  exact ⟨rfl, ⟨o, nm, b, wk, f69, f70, hbr, (by omega), hwk, hc530, hg_t, hg_b, hg_s, hg_c, hg_n, hg_p, hg_v, hg_w⟩, X_Fr.rf⟩
theorem m_node (sc : X_Sc) (S : X_S) (len : Int) (tb : Int → Int) (rc : Int) (G : X_G) (tn : Int) (nc : Int) (N : Int → Int → Int) (rs : Int) (re : Int) (n : Int) (wh : Int) (hI : X_IR S len tb rc G tn nc N rs re) (hA : X_Ao len tb G tn nc N) (hr_n : -2147483648 ≤ n ∧ n ≤ 2147483647) (hr_wh : -2147483648 ≤ wh ∧ wh ≤ 2147483647) : X_T sc 190 (0, [(0, .ref 530), (1, .int (iI n)), (2, .int (iI wh))], [], S) (fun v S' => v = some (.int (iI (X_qNd nc N n wh))) ∧ X_IR S' len tb rc G tn nc N rs re ∧ (X_Fr (fun q => 530 ≤ q ∧ q ≤ 579) S S')) := by
  obtain ⟨o, nm, b, wk, f69, f70, hbr, hwr, hwk, hc530, hg_t, hg_b, hg_s, hg_c, hg_n, hg_p, hg_v, hg_w⟩ := hI
  obtain ⟨hl, htb, hG, hGs, htn, hR, h40⟩ := hA
  have hRn := hR.1
  have hh_n := hg_n
  obtain ⟨nW, nF, nL, nP, nH, hc557, hc558, hc559, hc560, hc561, hnd⟩ := hh_n
  refine X_QI (fun Q hQ => ?_)
  refine T_mono (r_node sc S nW nF nL nP nH (X_ou (X_ou (X_ou (X_ou (X_ou (X_ou (X_ou (X_ou o 1 len) 31 rc) 32 (gk G)) 33 (gw G)) 49 nc) 68 wk) 69 f69) 70 f70) nm b rc G tn nc N n wh hc530 hc557 hc558 hc559 hc560 hc561 (by omega) (by omega) (by omega) hnd (fun n h1 h2 h3 => hR.n4 (h40 (by omega)) n h1 h2 h3) hR.2.1) (fun v2810 S2811 h2812 => hQ _ _ ?_)
  rcases h2812 with ⟨hv2813, hf2814⟩
  skip
  rw [hv2813]
  rw [hf2814]
  exact ⟨rfl, ⟨o, nm, b, wk, f69, f70, hbr, (by omega), hwk, hc530, hg_t, hg_b, hg_s, hg_c, hg_n, hg_p, hg_v, hg_w⟩, X_Fr.rf⟩
theorem m_worked (sc : X_Sc) (S : X_S) (len : Int) (tb : Int → Int) (rc : Int) (G : X_G) (tn : Int) (nc : Int) (N : Int → Int → Int) (rs : Int) (re : Int) (w : Int) (hI : X_IR S len tb rc G tn nc N rs re) (hA : X_Ao len tb G tn nc N) (hr_w : -2147483648 ≤ w ∧ w ≤ 2147483647) : X_T sc 198 (0, [(0, .ref 530), (1, .int (iI w))], [], S) (fun v S' => v = some (.int (iI (if w = 0 then rs else if w = 1 then re else -1))) ∧ X_IR S' len tb rc G tn nc N rs re ∧ (X_Fr (fun q => 530 ≤ q ∧ q ≤ 579) S S')) := by
  obtain ⟨o, nm, b, wk, f69, f70, hbr, hwr, hwk, hc530, hg_t, hg_b, hg_s, hg_c, hg_n, hg_p, hg_v, hg_w⟩ := hI
  obtain ⟨hl, htb, hG, hGs, htn, hR, h40⟩ := hA
  have hRn := hR.1
  refine X_QI (fun Q hQ => ?_)
  refine T_mono (r_worked sc S (X_ou (X_ou (X_ou (X_ou (X_ou (X_ou (X_ou (X_ou o 1 len) 31 rc) 32 (gk G)) 33 (gw G)) 49 nc) 68 wk) 69 f69) 70 f70) nm b rc G tn wk f69 f70 rs re w hc530 (by omega) hwk (by omega)) (fun v2815 S2816 h2817 => hQ _ _ ?_)
  rcases h2817 with ⟨hv2818, hf2819⟩
  skip
  rw [hv2818]
  rw [hf2819]
  exact ⟨rfl, ⟨o, nm, b, wk, f69, f70, hbr, (by omega), hwk, hc530, hg_t, hg_b, hg_s, hg_c, hg_n, hg_p, hg_v, hg_w⟩, X_Fr.rf⟩
theorem m_sure (sc : X_Sc) (S : X_S) (len : Int) (tb : Int → Int) (rc : Int) (G : X_G) (tn : Int) (nc : Int) (N : Int → Int → Int) (rs : Int) (re : Int) (hI : X_IR S len tb rc G tn nc N rs re) (hA : X_Ao len tb G tn nc N) : X_T sc 199 (0, [(0, .ref 530)], [], S) (fun v S' => ∃ (r : Int), v = some (.int (iI r)) ∧ X_qSu G r ∧ X_IR S' len tb rc G tn nc N rs re ∧ (X_Fr (fun q => 530 ≤ q ∧ q ≤ 579) S S')) := by
  obtain ⟨o, nm, b, wk, f69, f70, hbr, hwr, hwk, hc530, hg_t, hg_b, hg_s, hg_c, hg_n, hg_p, hg_v, hg_w⟩ := hI
  obtain ⟨hl, htb, hG, hGs, htn, hR, h40⟩ := hA
  have hRn := hR.1
  have hh_b := hg_b
  obtain ⟨KO, rN, kN, tg, kU, wR, wL, wK, wM, wH, wS, sO, sN, eP, eH, hK, hc533, hc534, hc535, hc536, hc537, hc538, hc539, hc540, hc541, hc542, hc543, hc544, hc545, hc546, hc547, hOk, hO4, hO, hKG⟩ := hh_b
  obtain ⟨hrc, hKU, hTG, hWR, hWL, hWK, hWM, hWH, hWS, hEP, hEH, hHK, hST⟩ := R_bk.hyps hO hOk hKG
  refine X_QI (fun Q hQ => ?_)
  refine T_mono (r_sure sc S tg wR wL wM eP (X_ou (X_ou (X_ou (X_ou (X_ou (X_ou (X_ou (X_ou o 1 len) 31 rc) 32 (gk G)) 33 (gw G)) 49 nc) 68 wk) 69 f69) 70 f70) nm b rc G tn hc530 hc535 hc537 hc538 hc540 hc545 hbr hG hTG hWR hWL hWM hEP) (fun v2820 S2821 h2822 => hQ _ _ ?_)
  rcases h2822 with ⟨r2823, hv2824, hp2825, hf2826⟩
  skip
  rw [hv2824]
  rw [hf2826]
  exact ⟨r2823, rfl, hp2825, ⟨o, nm, b, wk, f69, f70, hbr, (by omega), hwk, hc530, hg_t, hg_b, hg_s, hg_c, hg_n, hg_p, hg_v, hg_w⟩, X_Fr.rf⟩
theorem m_count (sc : X_Sc) (S : X_S) (len : Int) (tb : Int → Int) (rc : Int) (G : X_G) (tn : Int) (nc : Int) (N : Int → Int → Int) (rs : Int) (re : Int) (i : Int) (j : Int) (hI : X_IR S len tb rc G tn nc N rs re) (hA : X_Ao len tb G tn nc N) (hr_i : -2147483648 ≤ i ∧ i ≤ 2147483647) (hr_j : -2147483648 ≤ j ∧ j ≤ 2147483647) : X_T sc 183 (0, [(0, .ref 530), (1, .int (iI i)), (2, .int (iI j))], [], S) (fun v S' => v = some (.long (X_qCt G tn i j)) ∧ X_IR S' len tb rc G tn nc N rs re ∧ (X_Fr (fun q => 530 ≤ q ∧ q ≤ 579) S S')) := by
  obtain ⟨o, nm, b, wk, f69, f70, hbr, hwr, hwk, hc530, hg_t, hg_b, hg_s, hg_c, hg_n, hg_p, hg_v, hg_w⟩ := hI
  obtain ⟨hl, htb, hG, hGs, htn, hR, h40⟩ := hA
  have hRn := hR.1
  have hh_b := hg_b
  obtain ⟨KO, rN, kN, tg, kU, wR, wL, wK, wM, wH, wS, sO, sN, eP, eH, hK, hc533, hc534, hc535, hc536, hc537, hc538, hc539, hc540, hc541, hc542, hc543, hc544, hc545, hc546, hc547, hOk, hO4, hO, hKG⟩ := hh_b
  have hh_s := hg_s
  obtain ⟨tT, nn, tU, nu, hc548, hc549, hc550, hc551, hTT, hTU⟩ := hh_s
  have hh_c := hg_c
  obtain ⟨oW, oK, oH, r1, r2, hc552, hc553, hc554, hc555, hc556, hCt⟩ := hh_c
  obtain ⟨hrc, hKU, hTG, hWR, hWL, hWK, hWM, hWH, hWS, hEP, hEH, hHK, hST⟩ := R_bk.hyps hO hOk hKG
  refine X_QI (fun Q hQ => ?_)
  refine T_mono (r_count sc S wK tU oW oK oH (X_ou (X_ou (X_ou (X_ou (X_ou (X_ou (X_ou (X_ou o 1 len) 31 rc) 32 (gk G)) 33 (gw G)) 49 nc) 68 wk) 69 f69) 70 f70) nm b rc G tn i j hc530 hc539 hc550 hc552 hc553 hc554 hbr hG (by omega) hTU hWK hCt (by omega) (by omega)) (fun v2827 S2828 h2829 => hQ _ _ ?_)
  rcases h2829 with ⟨hv2830, hf2831⟩
  skip
  rw [hv2830]
  rw [hf2831]
  exact ⟨rfl, ⟨o, nm, b, wk, f69, f70, hbr, (by omega), hwk, hc530, hg_t, hg_b, hg_s, hg_c, hg_n, hg_p, hg_v, hg_w⟩, X_Fr.rf⟩
theorem m_quarrel (sc : X_Sc) (S : X_S) (len : Int) (tb : Int → Int) (rc : Int) (G : X_G) (tn : Int) (nc : Int) (N : Int → Int → Int) (rs : Int) (re : Int) (hI : X_IR S len tb rc G tn nc N rs re) (hA : X_Ao len tb G tn nc N) : X_T sc 184 (0, [(0, .ref 530)], [], S) (fun v S' => ∃ (r : Int), v = some (.int (iI r)) ∧ X_qQu G tn r ∧ X_IR S' len tb rc G tn nc N rs re ∧ (X_Fr (fun q => 530 ≤ q ∧ q ≤ 579) S S')) := by
  obtain ⟨o, nm, b, wk, f69, f70, hbr, hwr, hwk, hc530, hg_t, hg_b, hg_s, hg_c, hg_n, hg_p, hg_v, hg_w⟩ := hI
  obtain ⟨hl, htb, hG, hGs, htn, hR, h40⟩ := hA
  have hRn := hR.1
  have hh_b := hg_b
  obtain ⟨KO, rN, kN, tg, kU, wR, wL, wK, wM, wH, wS, sO, sN, eP, eH, hK, hc533, hc534, hc535, hc536, hc537, hc538, hc539, hc540, hc541, hc542, hc543, hc544, hc545, hc546, hc547, hOk, hO4, hO, hKG⟩ := hh_b
  have hh_s := hg_s
  obtain ⟨tT, nn, tU, nu, hc548, hc549, hc550, hc551, hTT, hTU⟩ := hh_s
  have hh_c := hg_c
  obtain ⟨oW, oK, oH, r1, r2, hc552, hc553, hc554, hc555, hc556, hCt⟩ := hh_c
  obtain ⟨hrc, hKU, hTG, hWR, hWL, hWK, hWM, hWH, hWS, hEP, hEH, hHK, hST⟩ := R_bk.hyps hO hOk hKG
  refine X_QI (fun Q hQ => ?_)
  refine T_mono (r_quarrel sc S wK tU oW oK oH (X_ou (X_ou (X_ou (X_ou (X_ou (X_ou (X_ou (X_ou o 1 len) 31 rc) 32 (gk G)) 33 (gw G)) 49 nc) 68 wk) 69 f69) 70 f70) nm b rc G tn hc530 hc539 hc550 hc552 hc553 hc554 hbr hG (by omega) hTU hWK hCt) (fun v2832 S2833 h2834 => hQ _ _ ?_)
  rcases h2834 with ⟨r2835, hv2836, hp2837, hf2838⟩
  skip
  rw [hv2836]
  rw [hf2838]
  exact ⟨r2835, rfl, hp2837, ⟨o, nm, b, wk, f69, f70, hbr, (by omega), hwk, hc530, hg_t, hg_b, hg_s, hg_c, hg_n, hg_p, hg_v, hg_w⟩, X_Fr.rf⟩
theorem m_bind (sc : X_Sc) (S : X_S) (len : Int) (tb : Int → Int) (rc : Int) (G : X_G) (tn : Int) (nc : Int) (N : Int → Int → Int) (rs : Int) (re : Int) (w : Int) (vl : Int) (hI : X_IR S len tb rc G tn nc N rs re) (hA : X_Ao len tb G tn nc N) (hr_w : -2147483648 ≤ w ∧ w ≤ 2147483647) (hr_vl : -2147483648 ≤ vl ∧ vl ≤ 2147483647) : X_T sc 191 (0, [(0, .ref 530), (1, .int (iI w)), (2, .int (iI vl))], [], S) (fun v S' => (v = some (.int (iI 0)) ∧ (¬ ((0 ≤ w ∧ w < gw G) ∧ gD G w 5 0 = -1 ∧ gD G w 4 0 ≤ 0)) ∧ X_IR S' len tb rc G tn nc N rs re ∧ (X_Fr (fun q => 530 ≤ q ∧ q ≤ 579) S S')) ∨ (v = some (.int (iI 1)) ∧ ((0 ≤ w ∧ w < gw G) ∧ gD G w 5 0 = -1 ∧ gD G w 4 0 ≤ 0) ∧ X_IR S' len tb rc (X_Gb G w vl) tn nc N rs re ∧ (X_Fr (fun q => 530 ≤ q ∧ q ≤ 579) S S'))) := by
  obtain ⟨o, nm, b, wk, f69, f70, hbr, hwr, hwk, hc530, hg_t, hg_b, hg_s, hg_c, hg_n, hg_p, hg_v, hg_w⟩ := hI
  obtain ⟨hl, htb, hG, hGs, htn, hR, h40⟩ := hA
  have hRn := hR.1
  have hh_b := hg_b
  obtain ⟨KO, rN, kN, tg, kU, wR, wL, wK, wM, wH, wS, sO, sN, eP, eH, hK, hc533, hc534, hc535, hc536, hc537, hc538, hc539, hc540, hc541, hc542, hc543, hc544, hc545, hc546, hc547, hOk, hO4, hO, hKG⟩ := hh_b
  have hh_v := hg_v
  obtain ⟨bo, va, hc574, hc575, hbo⟩ := hh_v
  obtain ⟨hrc, hKU, hTG, hWR, hWL, hWK, hWM, hWH, hWS, hEP, hEH, hHK, hST⟩ := R_bk.hyps hO hOk hKG
  refine X_QI (fun Q hQ => ?_)
  refine T_mono (r_bind sc S wH wS bo va (X_ou (X_ou (X_ou (X_ou (X_ou (X_ou (X_ou (X_ou o 1 len) 31 rc) 32 (gk G)) 33 (gw G)) 49 nc) 68 wk) 69 f69) 70 f70) nm b rc G tn w vl hc530 hc541 hc542 hc574 hc575 hbr hG hGs hWH hWS (by omega) (by omega)) (fun v2839 S2840 h2841 => hQ _ _ ?_)
  rcases h2841 with ⟨hv2842, hp2843, hf2844⟩ | ⟨hv2845, hp2846, ha2847, ha2848, hf2849⟩
  · skip
    rw [hv2842]
    rw [hf2844]
    exact Or.inl ⟨rfl, hp2843, ⟨o, nm, b, wk, f69, f70, hbr, (by omega), hwk, hc530, hg_t, hg_b, hg_s, hg_c, hg_n, hg_p, hg_v, hg_w⟩, X_Fr.rf⟩
  · skip
    rw [hv2845]
    have hF : X_Fr (fun q => q = 574 ∨ q = 575) S S2840 := (X_Fr.rf).tr (X_Fr.mono ⟨hf2849.1, hf2849.2⟩ (fun q hq => (by omega)))
    have h2850 := (hf2849.1 530 (by first | decide | omega)).trans (hc530)
    exact Or.inr ⟨rfl, hp2846, ⟨o, nm, b, wk, f69, f70, hbr, (by omega), hwk, h2850, hg_t.fr hF (fun q h1 h2 => by omega), (hg_b.fr hF (fun q h1 h2 => by omega)).bind, (hg_s.fr hF (fun q h1 h2 => by omega)).bind, (hg_c.fr hF (fun q h1 h2 => by omega)).bind, hg_n.fr hF (fun q h1 h2 => by omega), hg_p.fr hF (fun q h1 h2 => by omega), ⟨(X_ug bo w 1), (X_ug va w vl), ha2847, ha2848, (fun v h1 h2 => by
        have z := hbo v h1 h2
        rw [X_Gb_6, X_Gb_7]
        by_cases hv : v = w
        · rw [if_pos hv, if_pos hv, hv, X_ug_s, X_ug_s]; exact ⟨⟨rfl, fun _ => rfl⟩, by omega, by omega⟩
        · rw [if_neg hv, if_neg hv, X_ug_n _ _ hv, X_ug_n _ _ hv]; exact z)⟩, hg_w.fr hF (fun q h1 h2 => by omega)⟩, (X_Fr.rf).tr (X_Fr.mono ⟨hf2849.1, hf2849.2⟩ (fun q hq => (by omega)))⟩
theorem m_work (sc : X_Sc) (S : X_S) (len : Int) (tb : Int → Int) (rc : Int) (G : X_G) (tn : Int) (nc : Int) (N : Int → Int → Int) (rs : Int) (re : Int) (hI : X_IR S len tb rc G tn nc N rs re) (hA : X_Ao len tb G tn nc N) : X_T sc 193 (0, [(0, .ref 530)], [], S) (fun v S' => (v = some (.int (iI (-1))) ∧ nc = 0 ∧ X_IR S' len tb rc G tn nc N rs re ∧ (X_Fr (fun q => 530 ≤ q ∧ q ≤ 579) S S')) ∨ (v = some (.int (iI ((X_wk G (fun w => gD G w 6 0) (fun w => gD G w 7 0) N nc).1))) ∧ ¬ nc = 0 ∧ X_IR S' len tb rc G tn nc N ((X_wk G (fun w => gD G w 6 0) (fun w => gD G w 7 0) N nc).2.2) ((X_wk G (fun w => gD G w 6 0) (fun w => gD G w 7 0) N nc).2.1) ∧ (X_Fr (fun q => 530 ≤ q ∧ q ≤ 579) S S'))) := by
  obtain ⟨o, nm, b, wk, f69, f70, hbr, hwr, hwk, hc530, hg_t, hg_b, hg_s, hg_c, hg_n, hg_p, hg_v, hg_w⟩ := hI
  obtain ⟨hl, htb, hG, hGs, htn, hR, h40⟩ := hA
  have hRn := hR.1
  have hh_b := hg_b
  obtain ⟨KO, rN, kN, tg, kU, wR, wL, wK, wM, wH, wS, sO, sN, eP, eH, hK, hc533, hc534, hc535, hc536, hc537, hc538, hc539, hc540, hc541, hc542, hc543, hc544, hc545, hc546, hc547, hOk, hO4, hO, hKG⟩ := hh_b
  have hh_s := hg_s
  obtain ⟨tT, nn, tU, nu, hc548, hc549, hc550, hc551, hTT, hTU⟩ := hh_s
  have hh_n := hg_n
  obtain ⟨nW, nF, nL, nP, nH, hc557, hc558, hc559, hc560, hc561, hnd⟩ := hh_n
  have hh_v := hg_v
  obtain ⟨bo, va, hc574, hc575, hbo⟩ := hh_v
  have hh_w := hg_w
  obtain ⟨vs, pl, hv, dn, hc576, hc577, hc578, hc579⟩ := hh_w
  obtain ⟨hrc, hKU, hTG, hWR, hWL, hWK, hWM, hWH, hWS, hEP, hEH, hHK, hST⟩ := R_bk.hyps hO hOk hKG
  refine X_QI (fun Q hQ => ?_)
  refine T_mono (r_work sc S wS sO sN tU nW nF nL nP nH bo va vs pl hv dn (X_ou (X_ou (X_ou (X_ou (X_ou (X_ou (X_ou (X_ou o 1 len) 31 rc) 32 (gk G)) 33 (gw G)) 49 nc) 68 wk) 69 f69) 70 f70) nm b rc G tn nc N hc530 hc542 hc543 hc544 hc550 hc557 hc558 hc559 hc560 hc561 hc574 hc575 hc576 hc577 hc578 hc579 hbr hG hGs hTU hWS hST hbo hR hnd) (fun v2851 S2852 h2853 => hQ _ _ ?_)
  rcases h2853 with ⟨hv2854, hp2855, hf2856⟩ | ⟨vs2857, pl2858, hv2859, dn2860, hv2861, hp2862, ho2863, ha2864, ha2865, ha2866, ha2867, hf2868⟩
  · skip
    rw [hv2854]
    rw [hf2856]
    exact Or.inl ⟨rfl, hp2855, ⟨o, nm, b, wk, f69, f70, hbr, (by omega), hwk, hc530, hg_t, hg_b, hg_s, hg_c, hg_n, hg_p, hg_v, hg_w⟩, X_Fr.rf⟩
  · skip
    rw [hv2861]
    have hF : X_Fr (fun q => q = 530 ∨ (576 ≤ q ∧ q ≤ 579)) S S2852 := (X_Fr.rf).tr (X_Fr.mono ⟨hf2868.1, hf2868.2⟩ (fun q hq => (by omega)))
    exact Or.inr ⟨rfl, hp2862, ⟨o, nm, b, 1, (X_wk G (fun w => gD G w 6 0) (fun w => gD G w 7 0) N nc).2.1, (X_wk G (fun w => gD G w 6 0) (fun w => gD G w 7 0) N nc).2.2, hbr, (by omega), (Or.inl ⟨by omega, rfl, rfl⟩), ho2863, hg_t.fr hF (fun q h1 h2 => by omega), hg_b.fr hF (fun q h1 h2 => by omega), hg_s.fr hF (fun q h1 h2 => by omega), hg_c.fr hF (fun q h1 h2 => by omega), hg_n.fr hF (fun q h1 h2 => by omega), hg_p.fr hF (fun q h1 h2 => by omega), hg_v.fr hF (fun q h1 h2 => by omega), ⟨vs2857, pl2858, hv2859, dn2860, ha2864, ha2865, ha2866, ha2867⟩⟩, (X_Fr.rf).tr (X_Fr.mono ⟨hf2868.1, hf2868.2⟩ (fun q hq => (by omega)))⟩
theorem m_sentence (sc : X_Sc) (S : X_S) (len : Int) (tb : Int → Int) (rc : Int) (G : X_G) (tn : Int) (nc : Int) (N : Int → Int → Int) (rs : Int) (re : Int) (ot1 : Int → Int64) (hI : X_IR S len tb rc G tn nc N rs re) (hA : X_Ao len tb G tn nc N) (hgt : ∀ n2 z2 t2, X_sn tb len len.toNat = some (n2, z2, t2) → ∀ i, 0 ≤ i → i < n2 → ot1 i = t2 i) : X_T sc 170 (0, [(0, .ref 530)], [], S) (fun v S' => (v = some (.int (iI (-1))) ∧ X_sn tb len len.toNat = none ∧ X_IR S' 0 tb rc G tn nc N rs re ∧ (X_Fr (fun q => 530 ≤ q ∧ q ≤ 579) S S')) ∨ (∃ (n1 : Int) (z1 : Int) (t1 : Int → Int64), v = some (.int (iI n1)) ∧ X_sn tb len len.toNat = some (n1, z1, t1) ∧ (0 ≤ n1 ∧ n1 ≤ 30) ∧ X_IR S' 0 tb rc (X_Gt G ot1) n1 0 N 0 (-1) ∧ (X_Fr (fun q => 530 ≤ q ∧ q ≤ 579) S S'))) := by
  obtain ⟨o, nm, b, wk, f69, f70, hbr, hwr, hwk, hc530, hg_t, hg_b, hg_s, hg_c, hg_n, hg_p, hg_v, hg_w⟩ := hI
  obtain ⟨hl, htb, hG, hGs, htn, hR, h40⟩ := hA
  have hRn := hR.1
  have hh_t := hg_t
  obtain ⟨tp, tx, hc531, hc532, htp0⟩ := hh_t
  have hh_b := hg_b
  obtain ⟨KO, rN, kN, tg, kU, wR, wL, wK, wM, wH, wS, sO, sN, eP, eH, hK, hc533, hc534, hc535, hc536, hc537, hc538, hc539, hc540, hc541, hc542, hc543, hc544, hc545, hc546, hc547, hOk, hO4, hO, hKG⟩ := hh_b
  have hh_s := hg_s
  obtain ⟨tT, nn, tU, nu, hc548, hc549, hc550, hc551, hTT, hTU⟩ := hh_s
  have hh_c := hg_c
  obtain ⟨oW, oK, oH, r1, r2, hc552, hc553, hc554, hc555, hc556, hCt⟩ := hh_c
  obtain ⟨hrc, hKU, hTG, hWR, hWL, hWK, hWM, hWH, hWS, hEP, hEH, hHK, hST⟩ := R_bk.hyps hO hOk hKG
  have hh_n := hg_n
  obtain ⟨nW, nF, nL, nP, nH, hc557, hc558, hc559, hc560, hc561, hnd⟩ := hh_n
  refine X_QI (fun Q hQ => ?_)
  refine T_mono (r_sentence sc S tp tg kU wR wL wK wM wH eP eH hK tT nn tU nu oW oK oH r1 r2 (X_ou (X_ou (X_ou (X_ou (X_ou (X_ou (X_ou (X_ou o 1 len) 31 rc) 32 (gk G)) 33 (gw G)) 49 nc) 68 wk) 69 f69) 70 f70) nm b rc (X_Gt G ot1) tn len tb hc530 hc531 hc535 hc536 hc537 hc538 hc539 hc540 hc541 hc545 hc546 hc547 hc548 hc549 hc550 hc551 hc552 hc553 hc554 hc555 hc556 hbr hG (by omega) rfl (fun k h1 h2 => ⟨htp0 k h1 h2, htb k h1 h2⟩) hgt hKU hTG hWR hWL hWK hWM hWH hEP hEH hHK) (fun v2869 S2870 h2871 => hQ _ _ ?_)
  rcases h2871 with ⟨nn2872, nu2873, hv2874, hp2875, ho2876, ha2877, ha2878, hf2879⟩ | ⟨n2880, z2881, t2882, tT2883, nn2884, oW2885, oK2886, oH2887, rx2888, rx2889, tU2890, nu2891, hv2892, hp2893, hp2894, hp2895, hp2896, hp2897, ho2898, ha2899, ha2900, ha2901, ha2902, ha2903, ha2904, ha2905, ha2906, ha2907, hf2908⟩
  · skip
    rw [hv2874]
    have hF : X_Fr (fun q => q = 530 ∨ q = 549 ∨ q = 551) S S2870 := (X_Fr.rf).tr (X_Fr.mono ⟨hf2879.1, hf2879.2⟩ (fun q hq => (by omega)))
    have h2909 := (hf2879.1 531 (by first | decide | omega)).trans (hc531)
    have h2910 := (hf2879.1 532 (by first | decide | omega)).trans (hc532)
    have h2911 := (hf2879.1 548 (by first | decide | omega)).trans (hc548)
    have h2912 := (hf2879.1 550 (by first | decide | omega)).trans (hc550)
    exact Or.inl ⟨rfl, hp2875, ⟨o, nm, b, wk, f69, f70, hbr, (by omega), hwk, ho2876, ⟨tp, tx, h2909, h2910, (fun k h1 h2 => absurd h2 (by omega))⟩, hg_b.fr hF (fun q h1 h2 => by omega), ⟨tT, nn2872, tU, nu2873, h2911, ha2877, h2912, ha2878, hTT, hTU⟩, hg_c.fr hF (fun q h1 h2 => by omega), hg_n.fr hF (fun q h1 h2 => by omega), hg_p.fr hF (fun q h1 h2 => by omega), hg_v.fr hF (fun q h1 h2 => by omega), hg_w.fr hF (fun q h1 h2 => by omega)⟩, (X_Fr.rf).tr (X_Fr.mono ⟨hf2879.1, hf2879.2⟩ (fun q hq => (by omega)))⟩
  · skip
    rw [hv2892]
    have hF : X_Fr (fun q => q = 530 ∨ (548 ≤ q ∧ q ≤ 556)) S S2870 := (X_Fr.rf).tr (X_Fr.mono ⟨hf2908.1, hf2908.2⟩ (fun q hq => (by omega)))
    have h2913 := (hf2908.1 531 (by first | decide | omega)).trans (hc531)
    have h2914 := (hf2908.1 532 (by first | decide | omega)).trans (hc532)
    exact Or.inr ⟨n2880, z2881, t2882, rfl, hp2893, hp2894, ⟨o, nm, b, 0, f69, f70, hbr, (by omega), (Or.inr ⟨rfl, rfl, rfl⟩), ho2898, ⟨tp, tx, h2913, h2914, (fun k h1 h2 => absurd h2 (by omega))⟩, (hg_b.fr hF (fun q h1 h2 => by omega)).text, ⟨tT2883, nn2884, tU2890, nu2891, ha2899, ha2900, ha2901, ha2902, hp2895, hp2896⟩, ⟨oW2885, oK2886, oH2887, rx2888, rx2889, ha2903, ha2904, ha2905, ha2906, ha2907, hp2897⟩, ⟨nW, nF, nL, nP, nH, (hF.1 557 (by first | decide | omega)).trans hc557, (hF.1 558 (by first | decide | omega)).trans hc558, (hF.1 559 (by first | decide | omega)).trans hc559, (hF.1 560 (by first | decide | omega)).trans hc560, (hF.1 561 (by first | decide | omega)).trans hc561, (fun n h1 h2 => absurd h2 (by omega))⟩, hg_p.fr hF (fun q h1 h2 => by omega), (hg_v.fr hF (fun q h1 h2 => by omega)).text, hg_w.fr hF (fun q h1 h2 => by omega)⟩, (X_Fr.rf).tr (X_Fr.mono ⟨hf2908.1, hf2908.2⟩ (fun q hq => (by omega)))⟩
theorem m_read (sc : X_Sc) (S : X_S) (len : Int) (tb : Int → Int) (rc : Int) (G : X_G) (tn : Int) (nc : Int) (N : Int → Int → Int) (rs : Int) (re : Int) (kk : Int) (hI : X_IR S len tb rc G tn nc N rs re) (hA : X_Ao len tb G tn nc N) (hkr : -9223372036854775808 ≤ kk ∧ kk ≤ 9223372036854775807) : X_T sc 186 (0, [(0, .ref 530), (1, .long (iL kk))], [], S) (fun v S' => (v = some (.int (iI (-1))) ∧ ¬ X_qRk G tn kk ∧ X_IR S' len tb rc G tn nc N rs re ∧ (X_Fr (fun q => 530 ≤ q ∧ q ≤ 579) S S')) ∨ (∃ (r1 : Int) (St1 : Int → X_It) (nc1 : Int) (N1 : Int → Int → Int), v = some (.int (iI nc1)) ∧ X_qRk G tn kk ∧ X_rd G tn kk.toNat = (r1, St1, nc1, N1) ∧ X_IR S' len tb rc G tn nc1 N1 0 (-1) ∧ (X_Fr (fun q => 530 ≤ q ∧ q ≤ 579) S S'))) := by
  obtain ⟨o, nm, b, wk, f69, f70, hbr, hwr, hwk, hc530, hg_t, hg_b, hg_s, hg_c, hg_n, hg_p, hg_v, hg_w⟩ := hI
  obtain ⟨hl, htb, hG, hGs, htn, hR, h40⟩ := hA
  have hRn := hR.1
  have hh_b := hg_b
  obtain ⟨KO, rN, kN, tg, kU, wR, wL, wK, wM, wH, wS, sO, sN, eP, eH, hK, hc533, hc534, hc535, hc536, hc537, hc538, hc539, hc540, hc541, hc542, hc543, hc544, hc545, hc546, hc547, hOk, hO4, hO, hKG⟩ := hh_b
  have hh_s := hg_s
  obtain ⟨tT, nn, tU, nu, hc548, hc549, hc550, hc551, hTT, hTU⟩ := hh_s
  have hh_c := hg_c
  obtain ⟨oW, oK, oH, r1, r2, hc552, hc553, hc554, hc555, hc556, hCt⟩ := hh_c
  have hh_n := hg_n
  obtain ⟨nW, nF, nL, nP, nH, hc557, hc558, hc559, hc560, hc561, hnd⟩ := hh_n
  have hh_p := hg_p
  obtain ⟨pF, pT, pS, pH, pW, pP, pQ, pN, cF, cT, cN, rr, hc562, hc563, hc564, hc565, hc566, hc567, hc568, hc569, hc570, hc571, hc572, hc573⟩ := hh_p
  obtain ⟨hrc, hKU, hTG, hWR, hWL, hWK, hWM, hWH, hWS, hEP, hEH, hHK, hST⟩ := R_bk.hyps hO hOk hKG
  refine X_QI (fun Q hQ => ?_)
  refine T_mono (r_read sc S tg kU wR wL wK wM wH eP eH hK tT tU oW oK oH nW nF nL nP nH pF pT pS pH pW pP pQ pN cF cT cN rr (X_ou (X_ou (X_ou (X_ou (X_ou (X_ou (X_ou (X_ou o 1 len) 31 rc) 32 (gk G)) 33 (gw G)) 49 nc) 68 wk) 69 f69) 70 f70) nm b rc G tn kk hc530 hc535 hc536 hc537 hc538 hc539 hc540 hc541 hc545 hc546 hc547 hc548 hc550 hc552 hc553 hc554 hc557 hc558 hc559 hc560 hc561 hc562 hc563 hc564 hc565 hc566 hc567 hc568 hc569 hc570 hc571 hc572 hc573 hbr hG (by omega) hTU hTT hKU hTG hWR hWL hWK hWM hWH hEP hEH hHK hCt (by omega)) (fun v2915 S2916 h2917 => hQ _ _ ?_)
  rcases h2917 with ⟨hv2918, hp2919, hf2920⟩ | ⟨r2921, nc2922, St2923, N2924, nW2925, nF2926, nL2927, nP2928, nH2929, pF2930, pT2931, pS2932, pH2933, pW2934, pP2935, pQ2936, pN2937, cF2938, cT2939, cN2940, rr2941, hv2942, hp2943, hp2944, hp2945, ho2946, ha2947, ha2948, ha2949, ha2950, ha2951, ha2952, ha2953, ha2954, ha2955, ha2956, ha2957, ha2958, ha2959, ha2960, ha2961, ha2962, ha2963, hf2964⟩
  · skip
    rw [hv2918]
    rw [hf2920]
    exact Or.inl ⟨rfl, hp2919, ⟨o, nm, b, wk, f69, f70, hbr, (by omega), hwk, hc530, hg_t, hg_b, hg_s, hg_c, hg_n, hg_p, hg_v, hg_w⟩, X_Fr.rf⟩
  · skip
    rw [hv2942]
    have hF : X_Fr (fun q => q = 530 ∨ (557 ≤ q ∧ q ≤ 573)) S S2916 := (X_Fr.rf).tr (X_Fr.mono ⟨hf2964.1, hf2964.2⟩ (fun q hq => (by omega)))
    exact Or.inr ⟨r2921, St2923, nc2922, N2924, rfl, hp2943, hp2944, ⟨X_ou o 58 r2921, nm, b, 0, f69, f70, hbr, (by omega), (Or.inr ⟨rfl, rfl, rfl⟩), ho2946, hg_t.fr hF (fun q h1 h2 => by omega), hg_b.fr hF (fun q h1 h2 => by omega), hg_s.fr hF (fun q h1 h2 => by omega), hg_c.fr hF (fun q h1 h2 => by omega), ⟨nW2925, nF2926, nL2927, nP2928, nH2929, ha2947, ha2948, ha2949, ha2950, ha2951, hp2945⟩, ⟨pF2930, pT2931, pS2932, pH2933, pW2934, pP2935, pQ2936, pN2937, cF2938, cT2939, cN2940, rr2941, ha2952, ha2953, ha2954, ha2955, ha2956, ha2957, ha2958, ha2959, ha2960, ha2961, ha2962, ha2963⟩, hg_v.fr hF (fun q h1 h2 => by omega), hg_w.fr hF (fun q h1 h2 => by omega)⟩, (X_Fr.rf).tr (X_Fr.mono ⟨hf2964.1, hf2964.2⟩ (fun q hq => (by omega)))⟩
end
section
theorem m_book (sc : X_Sc) (S : X_S) (len : Int) (tb : Int → Int) (rc : Int) (G : X_G) (tn : Int) (nc : Int) (N : Int → Int → Int) (rs : Int) (re : Int) (rc1 : Int) (G1 : X_G) (n : Int) (so : Int → Int) (pl : Int → Int) (ct : Int → Int64) (rn0 : Int → Int64) (lo0 : Int → Int) (kn0 : Int → Int64) (ab0 : Int → Int) (D0 : Int → Nat → Int → Int) (W0 : Int → Int → Int64) (hI : X_IR S len tb rc G tn nc N rs re) (hA : X_Ao len tb G tn nc N) (hTx : X_Txt tb len n so pl ct) (hKs : ∀ K2, sp_lines n so ct 2001 (0, 0, 1, 0, rn0, lo0, X_ug kn0 0 (Int64.ofNat 6384748), X_ug ab0 0 1, D0, W0) = some K2 → X_KG rc1 G1 K2 ∧ ∀ w, 0 ≤ w → w < gw G1 → gD G1 w 6 0 = 0) : X_T sc 162 (0, [(0, .ref 530)], [], S) (fun v S' => (v = some (.int (iI (gw G1))) ∧ (∃ K2, sp_lines n so ct 2001 (0, 0, 1, 0, rn0, lo0, X_ug kn0 0 (Int64.ofNat 6384748), X_ug ab0 0 1, D0, W0) = some K2) ∧ X_IR S' 0 tb rc1 G1 0 0 N 0 (-1) ∧ (X_Fr (fun q => 530 ≤ q ∧ q ≤ 579) S S')) ∨ (v = some (.int (iI (-1))) ∧ sp_lines n so ct 2001 (0, 0, 1, 0, rn0, lo0, X_ug kn0 0 (Int64.ofNat 6384748), X_ug ab0 0 1, D0, W0) = none ∧ X_IR S' 0 tb rc G tn nc N rs re ∧ (X_Fr (fun q => 530 ≤ q ∧ q ≤ 579) S S'))) := by
  obtain ⟨o, nm, b, wk, f69, f70, hbr, hwr, hwk, hc530, hg_t, hg_b, hg_s, hg_c, hg_n, hg_p, hg_v, hg_w⟩ := hI
  obtain ⟨hl, htb, hG, hGs, htn, hR, h40⟩ := hA
  have hh_t := hg_t
  obtain ⟨tp, tx, hc531, hc532, htp0⟩ := hh_t
  have hh_b := hg_b
  obtain ⟨KO, rN, kN, tg, kU, wR, wL, wK, wM, wH, wS, sO, sN, eP, eH, hK, hc533, hc534, hc535, hc536, hc537, hc538, hc539, hc540, hc541, hc542, hc543, hc544, hc545, hc546, hc547, hOk, hO4, hO, hKG⟩ := hh_b
  have hh_v := hg_v
  obtain ⟨bo, va, hc574, hc575, hbo⟩ := hh_v
  obtain ⟨E, hE, hct⟩ := hTx.E hl
  obtain ⟨o2, hM, e1, e4, e28, e29, e30, e31, e32, e33, e38, e49, e68, e69, e70⟩ := X_ob_Mo hc530
  refine T_mono (r_book sc S o2 nm tp tx bo rN kN tg kU wR wL wK wM wH wS sO sN eP eH hK tb len n so pl ct E rn0 lo0 kn0 ab0 D0 W0 KO hM hc531 hc532 hc574 hc533 hc534 hc535 hc536 hc537 hc538 hc539 hc540 hc541 hc542 hc543 hc544 hc545 hc546 hc547 e1 hl (fun k h1 h2 => ⟨htp0 k h1 h2, htb k h1 h2⟩) hE hct (by rw [e4]; exact hbr) hOk hO4 (by rw [e4]; exact hO)) (fun v S' h => ?_)
  rcases h with ⟨at1, en1, tk1, nu1, dg1, nm1, g1, K2, rN1, kN1, tg1, kU1, wR1, wL1, wK1, wM1, wH1, wS1, sO1, sN1, eP1, eH1, hK1, tx1, ib1, hv, hsp, hKk, hK4, hRb, hib, hM1, h533, h534, h535, h536, h537, h538, h539, h540, h541, h542, h543, h544, h545, h546, h547, h532, h574, hF⟩ | ⟨at1, en1, tk1, nu1, dg1, nm1, f1, g1, rN1, kN1, tg1, kU1, wR1, wL1, wK1, wM1, wH1, wS1, sO1, sN1, eP1, eH1, hK1, tx1, hv, hsp, hRb, hM1, h533, h534, h535, h536, h537, h538, h539, h540, h541, h542, h543, h544, h545, h546, h547, h532, hF⟩
  · obtain ⟨hKG1, hz⟩ := hKs K2 hsp
    have hw : K2.2.2.2.1 = gw G1 := hKG1.2.2.1
    have hw30 := hKk.2.2.1
    rw [e4] at hRb
    obtain ⟨tT, nn, tU, nu, s1, s2, s3, s4, -, -⟩ := hg_s.fr hF (fun q h1 h2 => by omega)
    obtain ⟨oW, oK, oH, r1, r2, c1, c2, c3, c4, c5, -⟩ := hg_c.fr hF (fun q h1 h2 => by omega)
    obtain ⟨nW, nF, nL, nP, nH, n1, n2, n3, n4, n5, -⟩ := hg_n.fr hF (fun q h1 h2 => by omega)
    have hob := X_Mo_ob hM1 rfl (show 1 - o2 4 = 1 - b by rw [e4]) hKG1.1 hKG1.2.1 hKG1.2.2.1 hKG1.1 hKG1.2.1 hKG1.2.2.1 rfl rfl rfl e69 e70
    exact Or.inl ⟨by rw [hv, hw], ⟨K2, hsp⟩, ⟨_, nm1, 1 - b, 0, f69, f70, by omega, by omega, Or.inr ⟨rfl, rfl, rfl⟩, hob, ⟨tp, tx1, (hF.1 531 (by first | decide | omega)).trans hc531, h532, fun k h1 h2 => absurd h2 (by omega)⟩, ⟨K2, rN1, kN1, tg1, kU1, wR1, wL1, wK1, wM1, wH1, wS1, sO1, sN1, eP1, eH1, hK1, h533, h534, h535, h536, h537, h538, h539, h540, h541, h542, h543, h544, h545, h546, h547, hKk, hK4, hRb, hKG1⟩, ⟨tT, nn, tU, nu, s1, s2, s3, s4, fun t h1 h2 => absurd h2 (by omega), fun t h1 h2 => absurd h2 (by omega)⟩, ⟨oW, oK, oH, r1, r2, c1, c2, c3, c4, c5, fun i j h1 h2 h3 => absurd h3 (by omega)⟩, ⟨nW, nF, nL, nP, nH, n1, n2, n3, n4, n5, fun n h1 h2 => absurd h2 (by omega)⟩, hg_p.fr hF (fun q h1 h2 => by omega), ⟨ib1, va, h574, (hF.1 575 (by first | decide | omega)).trans hc575, fun w h1 h2 => by rw [hz w h1 h2]; exact ⟨⟨hib w h1 (by omega), fun z => absurd z (by omega)⟩, by omega, by omega⟩⟩, hg_w.fr hF (fun q h1 h2 => by omega)⟩, hF.mono (fun q hq => by omega)⟩
  · rw [e4] at hRb
    have hob := X_Mo_ob hM1 rfl e4 e31 e32 e33 e31 e32 e33 e38 e49 e68 e69 e70
    exact Or.inr ⟨hv, hsp, ⟨_, nm1, b, wk, f69, f70, hbr, hwr, hwk, hob, ⟨tp, tx1, (hF.1 531 (by first | decide | omega)).trans hc531, h532, fun k h1 h2 => absurd h2 (by omega)⟩, ⟨KO, rN1, kN1, tg1, kU1, wR1, wL1, wK1, wM1, wH1, wS1, sO1, sN1, eP1, eH1, hK1, h533, h534, h535, h536, h537, h538, h539, h540, h541, h542, h543, h544, h545, h546, h547, hOk, hO4, hRb, hKG⟩, hg_s.fr hF (fun q h1 h2 => by omega), hg_c.fr hF (fun q h1 h2 => by omega), hg_n.fr hF (fun q h1 h2 => by omega), hg_p.fr hF (fun q h1 h2 => by omega), hg_v.fr hF (fun q h1 h2 => by omega), hg_w.fr hF (fun q h1 h2 => by omega)⟩, hF.mono (fun q hq => by omega)⟩
end
