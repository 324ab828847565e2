theorem xr_163_0 : X_row 163 0 = some (0, (.iload_n 1, 1), (0, 0, 0)) := by decide +kernel
theorem xr_163_1 : X_row 163 1 = some (1, (.ifCond .ne 10, 3), (0, 0, 0)) := by decide +kernel
theorem xr_163_4 : X_row 163 4 = some (4, (.aload_n 0, 1), (0, 0, 0)) := by decide +kernel
theorem xr_163_5 : X_row 163 5 = some (5, (.getfield 11, 3), (11, 5, 10)) := by decide +kernel
theorem xr_163_8 : X_row 163 8 = some (8, (.goto 16, 3), (0, 0, 0)) := by decide +kernel
theorem xr_163_11 : X_row 163 11 = some (11, (.iload_n 1, 1), (0, 0, 0)) := by decide +kernel
theorem xr_163_12 : X_row 163 12 = some (12, (.iconst 1, 1), (0, 0, 0)) := by decide +kernel
theorem xr_163_13 : X_row 163 13 = some (13, (.if_icmp .ne 10, 3), (0, 0, 0)) := by decide +kernel
theorem xr_163_16 : X_row 163 16 = some (16, (.aload_n 0, 1), (0, 0, 0)) := by decide +kernel
theorem xr_163_17 : X_row 163 17 = some (17, (.getfield 14, 3), (11, 6, 12)) := by decide +kernel
theorem xr_163_20 : X_row 163 20 = some (20, (.goto 4, 3), (0, 0, 0)) := by decide +kernel
theorem xr_163_23 : X_row 163 23 = some (23, (.iconst (-1), 1), (0, 0, 0)) := by decide +kernel
theorem xr_163_24 : X_row 163 24 = some (24, (.ireturn, 1), (0, 0, 0)) := by decide +kernel
theorem xr_164_0 : X_row 164 0 = some (0, (.iload_n 1, 1), (0, 0, 0)) := by decide +kernel
theorem xr_164_1 : X_row 164 1 = some (1, (.tableswitch 69 0 5 #[39, 44, 49, 54, 59, 64], 39), (0, 0, 0)) := by decide +kernel
theorem xr_164_40 : X_row 164 40 = some (40, (.aload_n 0, 1), (0, 0, 0)) := by decide +kernel
theorem xr_164_41 : X_row 164 41 = some (41, (.getfield 84, 3), (11, 28, 56)) := by decide +kernel
theorem xr_164_44 : X_row 164 44 = some (44, (.ireturn, 1), (0, 0, 0)) := by decide +kernel
theorem xr_164_45 : X_row 164 45 = some (45, (.aload_n 0, 1), (0, 0, 0)) := by decide +kernel
theorem xr_164_46 : X_row 164 46 = some (46, (.getfield 94, 3), (11, 29, 58)) := by decide +kernel
theorem xr_164_49 : X_row 164 49 = some (49, (.ireturn, 1), (0, 0, 0)) := by decide +kernel
theorem xr_164_50 : X_row 164 50 = some (50, (.aload_n 0, 1), (0, 0, 0)) := by decide +kernel
theorem xr_164_51 : X_row 164 51 = some (51, (.getfield 138, 3), (11, 30, 60)) := by decide +kernel
theorem xr_164_54 : X_row 164 54 = some (54, (.ireturn, 1), (0, 0, 0)) := by decide +kernel
theorem xr_164_55 : X_row 164 55 = some (55, (.aload_n 0, 1), (0, 0, 0)) := by decide +kernel
theorem xr_164_56 : X_row 164 56 = some (56, (.getfield 314, 3), (11, 38, 76)) := by decide +kernel
theorem xr_164_59 : X_row 164 59 = some (59, (.ireturn, 1), (0, 0, 0)) := by decide +kernel
theorem xr_164_60 : X_row 164 60 = some (60, (.aload_n 0, 1), (0, 0, 0)) := by decide +kernel
theorem xr_164_61 : X_row 164 61 = some (61, (.getfield 317, 3), (11, 49, 98)) := by decide +kernel
theorem xr_164_64 : X_row 164 64 = some (64, (.ireturn, 1), (0, 0, 0)) := by decide +kernel
theorem xr_164_65 : X_row 164 65 = some (65, (.aload_n 0, 1), (0, 0, 0)) := by decide +kernel
theorem xr_164_66 : X_row 164 66 = some (66, (.getfield 293, 3), (11, 1, 2)) := by decide +kernel
theorem xr_164_69 : X_row 164 69 = some (69, (.ireturn, 1), (0, 0, 0)) := by decide +kernel
theorem xr_164_70 : X_row 164 70 = some (70, (.iconst (-1), 1), (0, 0, 0)) := by decide +kernel
theorem xr_164_71 : X_row 164 71 = some (71, (.ireturn, 1), (0, 0, 0)) := by decide +kernel
theorem xr_165_0 : X_row 165 0 = some (0, (.iload_n 1, 1), (0, 0, 0)) := by decide +kernel
theorem xr_165_1 : X_row 165 1 = some (1, (.ifCond .lt 15, 3), (0, 0, 0)) := by decide +kernel
theorem xr_165_4 : X_row 165 4 = some (4, (.iload_n 1, 1), (0, 0, 0)) := by decide +kernel
theorem xr_165_5 : X_row 165 5 = some (5, (.aload_n 0, 1), (0, 0, 0)) := by decide +kernel
theorem xr_165_6 : X_row 165 6 = some (6, (.getfield 138, 3), (11, 30, 60)) := by decide +kernel
theorem xr_165_9 : X_row 165 9 = some (9, (.if_icmp .ge 7, 3), (0, 0, 0)) := by decide +kernel
theorem xr_165_12 : X_row 165 12 = some (12, (.iconst 1, 1), (0, 0, 0)) := by decide +kernel
theorem xr_165_13 : X_row 165 13 = some (13, (.goto 4, 3), (0, 0, 0)) := by decide +kernel
theorem xr_165_16 : X_row 165 16 = some (16, (.iconst 0, 1), (0, 0, 0)) := by decide +kernel
theorem xr_165_17 : X_row 165 17 = some (17, (.ireturn, 1), (0, 0, 0)) := by decide +kernel
theorem xr_166_0 : X_row 166 0 = some (0, (.aload_n 0, 1), (0, 0, 0)) := by decide +kernel
theorem xr_166_1 : X_row 166 1 = some (1, (.iload_n 1, 1), (0, 0, 0)) := by decide +kernel
theorem xr_166_2 : X_row 166 2 = some (2, (.invokevirtual 324, 3), (165, 50, 0)) := by decide +kernel
theorem xr_166_5 : X_row 166 5 = some (5, (.ifCond .ne 5, 3), (0, 0, 0)) := by decide +kernel
theorem xr_166_8 : X_row 166 8 = some (8, (.iconst (-1), 1), (0, 0, 0)) := by decide +kernel
theorem xr_166_9 : X_row 166 9 = some (9, (.ireturn, 1), (0, 0, 0)) := by decide +kernel
theorem xr_166_10 : X_row 166 10 = some (10, (.bipush 30, 2), (0, 0, 0)) := by decide +kernel
theorem xr_166_12 : X_row 166 12 = some (12, (.aload_n 0, 1), (0, 0, 0)) := by decide +kernel
theorem xr_166_13 : X_row 166 13 = some (13, (.getfield 91, 3), (11, 4, 8)) := by decide +kernel
theorem xr_166_16 : X_row 166 16 = some (16, (.imul, 1), (0, 0, 0)) := by decide +kernel
theorem xr_166_17 : X_row 166 17 = some (17, (.iload_n 1, 1), (0, 0, 0)) := by decide +kernel
theorem xr_166_18 : X_row 166 18 = some (18, (.iadd, 1), (0, 0, 0)) := by decide +kernel
theorem xr_166_19 : X_row 166 19 = some (19, (.istore_n 3, 1), (0, 0, 0)) := by decide +kernel
theorem xr_166_20 : X_row 166 20 = some (20, (.iload_n 2, 1), (0, 0, 0)) := by decide +kernel
theorem xr_166_21 : X_row 166 21 = some (21, (.tableswitch 91 0 6 #[43, 50, 57, 64, 71, 78, 84], 43), (0, 0, 0)) := by decide +kernel
theorem xr_166_64 : X_row 166 64 = some (64, (.aload_n 0, 1), (0, 0, 0)) := by decide +kernel
theorem xr_166_65 : X_row 166 65 = some (65, (.getfield 141, 3), (11, 17, 34)) := by decide +kernel
theorem xr_166_68 : X_row 166 68 = some (68, (.iload_n 3, 1), (0, 0, 0)) := by decide +kernel
theorem xr_166_69 : X_row 166 69 = some (69, (.iaload, 1), (0, 0, 0)) := by decide +kernel
theorem xr_166_70 : X_row 166 70 = some (70, (.ireturn, 1), (0, 0, 0)) := by decide +kernel
theorem xr_166_71 : X_row 166 71 = some (71, (.aload_n 0, 1), (0, 0, 0)) := by decide +kernel
theorem xr_166_72 : X_row 166 72 = some (72, (.getfield 144, 3), (11, 18, 36)) := by decide +kernel
theorem xr_166_75 : X_row 166 75 = some (75, (.iload_n 3, 1), (0, 0, 0)) := by decide +kernel
theorem xr_166_76 : X_row 166 76 = some (76, (.iaload, 1), (0, 0, 0)) := by decide +kernel
theorem xr_166_77 : X_row 166 77 = some (77, (.ireturn, 1), (0, 0, 0)) := by decide +kernel
theorem xr_166_78 : X_row 166 78 = some (78, (.aload_n 0, 1), (0, 0, 0)) := by decide +kernel
theorem xr_166_79 : X_row 166 79 = some (79, (.getfield 147, 3), (11, 19, 38)) := by decide +kernel
theorem xr_166_82 : X_row 166 82 = some (82, (.iload_n 3, 1), (0, 0, 0)) := by decide +kernel
theorem xr_166_83 : X_row 166 83 = some (83, (.iaload, 1), (0, 0, 0)) := by decide +kernel
theorem xr_166_84 : X_row 166 84 = some (84, (.ireturn, 1), (0, 0, 0)) := by decide +kernel
theorem xr_166_85 : X_row 166 85 = some (85, (.aload_n 0, 1), (0, 0, 0)) := by decide +kernel
theorem xr_166_86 : X_row 166 86 = some (86, (.getfield 150, 3), (11, 20, 40)) := by decide +kernel
theorem xr_166_89 : X_row 166 89 = some (89, (.iload_n 3, 1), (0, 0, 0)) := by decide +kernel
theorem xr_166_90 : X_row 166 90 = some (90, (.iaload, 1), (0, 0, 0)) := by decide +kernel
theorem xr_166_91 : X_row 166 91 = some (91, (.ireturn, 1), (0, 0, 0)) := by decide +kernel
theorem xr_166_92 : X_row 166 92 = some (92, (.aload_n 0, 1), (0, 0, 0)) := by decide +kernel
theorem xr_166_93 : X_row 166 93 = some (93, (.getfield 153, 3), (11, 21, 42)) := by decide +kernel
theorem xr_166_96 : X_row 166 96 = some (96, (.iload_n 3, 1), (0, 0, 0)) := by decide +kernel
theorem xr_166_97 : X_row 166 97 = some (97, (.iaload, 1), (0, 0, 0)) := by decide +kernel
theorem xr_166_98 : X_row 166 98 = some (98, (.ireturn, 1), (0, 0, 0)) := by decide +kernel
theorem xr_166_99 : X_row 166 99 = some (99, (.aload_n 0, 1), (0, 0, 0)) := by decide +kernel
theorem xr_166_100 : X_row 166 100 = some (100, (.iload_n 3, 1), (0, 0, 0)) := by decide +kernel
theorem xr_166_101 : X_row 166 101 = some (101, (.invokevirtual 162, 3), (160, 46, 0)) := by decide +kernel
theorem xr_166_104 : X_row 166 104 = some (104, (.ireturn, 1), (0, 0, 0)) := by decide +kernel
theorem xr_166_105 : X_row 166 105 = some (105, (.aload_n 0, 1), (0, 0, 0)) := by decide +kernel
theorem xr_166_106 : X_row 166 106 = some (106, (.getfield 156, 3), (11, 22, 44)) := by decide +kernel
theorem xr_166_109 : X_row 166 109 = some (109, (.iload_n 3, 1), (0, 0, 0)) := by decide +kernel
theorem xr_166_110 : X_row 166 110 = some (110, (.iaload, 1), (0, 0, 0)) := by decide +kernel
theorem xr_166_111 : X_row 166 111 = some (111, (.ireturn, 1), (0, 0, 0)) := by decide +kernel
theorem xr_166_112 : X_row 166 112 = some (112, (.iconst (-1), 1), (0, 0, 0)) := by decide +kernel
theorem xr_166_113 : X_row 166 113 = some (113, (.ireturn, 1), (0, 0, 0)) := by decide +kernel
theorem xr_167_0 : X_row 167 0 = some (0, (.iload_n 1, 1), (0, 0, 0)) := by decide +kernel
theorem xr_167_1 : X_row 167 1 = some (1, (.ifCond .lt 23, 3), (0, 0, 0)) := by decide +kernel
theorem xr_167_4 : X_row 167 4 = some (4, (.iload_n 1, 1), (0, 0, 0)) := by decide +kernel
theorem xr_167_5 : X_row 167 5 = some (5, (.aload_n 0, 1), (0, 0, 0)) := by decide +kernel
theorem xr_167_6 : X_row 167 6 = some (6, (.getfield 84, 3), (11, 28, 56)) := by decide +kernel
theorem xr_167_9 : X_row 167 9 = some (9, (.if_icmp .ge 15, 3), (0, 0, 0)) := by decide +kernel
theorem xr_167_12 : X_row 167 12 = some (12, (.iload_n 2, 1), (0, 0, 0)) := by decide +kernel
theorem xr_167_13 : X_row 167 13 = some (13, (.ifCond .lt 11, 3), (0, 0, 0)) := by decide +kernel
theorem xr_167_16 : X_row 167 16 = some (16, (.iload_n 2, 1), (0, 0, 0)) := by decide +kernel
theorem xr_167_17 : X_row 167 17 = some (17, (.aload_n 0, 1), (0, 0, 0)) := by decide +kernel
theorem xr_167_18 : X_row 167 18 = some (18, (.getfield 84, 3), (11, 28, 56)) := by decide +kernel
theorem xr_167_21 : X_row 167 21 = some (21, (.if_icmp .lt 7, 3), (0, 0, 0)) := by decide +kernel
theorem xr_167_24 : X_row 167 24 = some (24, (.iconst (-1), 1), (0, 0, 0)) := by decide +kernel
theorem xr_167_25 : X_row 167 25 = some (25, (.goto 17, 3), (0, 0, 0)) := by decide +kernel
theorem xr_167_28 : X_row 167 28 = some (28, (.aload_n 0, 1), (0, 0, 0)) := by decide +kernel
theorem xr_167_29 : X_row 167 29 = some (29, (.iload_n 1, 1), (0, 0, 0)) := by decide +kernel
theorem xr_167_30 : X_row 167 30 = some (30, (.iload_n 2, 1), (0, 0, 0)) := by decide +kernel
theorem xr_167_31 : X_row 167 31 = some (31, (.invokevirtual 123, 3), (154, 32, 0)) := by decide +kernel
theorem xr_167_34 : X_row 167 34 = some (34, (.ifCond .eq 7, 3), (0, 0, 0)) := by decide +kernel
theorem xr_167_37 : X_row 167 37 = some (37, (.iconst 1, 1), (0, 0, 0)) := by decide +kernel
theorem xr_167_38 : X_row 167 38 = some (38, (.goto 4, 3), (0, 0, 0)) := by decide +kernel
theorem xr_167_41 : X_row 167 41 = some (41, (.iconst 0, 1), (0, 0, 0)) := by decide +kernel
theorem xr_167_42 : X_row 167 42 = some (42, (.ireturn, 1), (0, 0, 0)) := by decide +kernel
theorem xr_169_0 : X_row 169 0 = some (0, (.iload_n 1, 1), (0, 0, 0)) := by decide +kernel
theorem xr_169_1 : X_row 169 1 = some (1, (.ifCond .lt 23, 3), (0, 0, 0)) := by decide +kernel
theorem xr_169_4 : X_row 169 4 = some (4, (.iload_n 1, 1), (0, 0, 0)) := by decide +kernel
theorem xr_169_5 : X_row 169 5 = some (5, (.aload_n 0, 1), (0, 0, 0)) := by decide +kernel
theorem xr_169_6 : X_row 169 6 = some (6, (.getfield 94, 3), (11, 29, 58)) := by decide +kernel
theorem xr_169_9 : X_row 169 9 = some (9, (.if_icmp .ge 15, 3), (0, 0, 0)) := by decide +kernel
theorem xr_169_12 : X_row 169 12 = some (12, (.iload_n 2, 1), (0, 0, 0)) := by decide +kernel
theorem xr_169_13 : X_row 169 13 = some (13, (.ifCond .lt 11, 3), (0, 0, 0)) := by decide +kernel
theorem xr_169_16 : X_row 169 16 = some (16, (.iload_n 2, 1), (0, 0, 0)) := by decide +kernel
theorem xr_169_17 : X_row 169 17 = some (17, (.aload_n 0, 1), (0, 0, 0)) := by decide +kernel
theorem xr_169_18 : X_row 169 18 = some (18, (.getfield 94, 3), (11, 29, 58)) := by decide +kernel
theorem xr_169_21 : X_row 169 21 = some (21, (.if_icmp .lt 7, 3), (0, 0, 0)) := by decide +kernel
theorem xr_169_24 : X_row 169 24 = some (24, (.iconst (-1), 1), (0, 0, 0)) := by decide +kernel
theorem xr_169_25 : X_row 169 25 = some (25, (.goto 17, 3), (0, 0, 0)) := by decide +kernel
theorem xr_169_28 : X_row 169 28 = some (28, (.aload_n 0, 1), (0, 0, 0)) := by decide +kernel
theorem xr_169_29 : X_row 169 29 = some (29, (.iload_n 1, 1), (0, 0, 0)) := by decide +kernel
theorem xr_169_30 : X_row 169 30 = some (30, (.iload_n 2, 1), (0, 0, 0)) := by decide +kernel
theorem xr_169_31 : X_row 169 31 = some (31, (.invokevirtual 327, 3), (168, 52, 0)) := by decide +kernel
theorem xr_169_34 : X_row 169 34 = some (34, (.ifCond .eq 7, 3), (0, 0, 0)) := by decide +kernel
theorem xr_169_37 : X_row 169 37 = some (37, (.iconst 1, 1), (0, 0, 0)) := by decide +kernel
theorem xr_169_38 : X_row 169 38 = some (38, (.goto 4, 3), (0, 0, 0)) := by decide +kernel
theorem xr_169_41 : X_row 169 41 = some (41, (.iconst 0, 1), (0, 0, 0)) := by decide +kernel
theorem xr_169_42 : X_row 169 42 = some (42, (.ireturn, 1), (0, 0, 0)) := by decide +kernel
theorem xr_190_0 : X_row 190 0 = some (0, (.iload_n 1, 1), (0, 0, 0)) := by decide +kernel
theorem xr_190_1 : X_row 190 1 = some (1, (.ifCond .lt 11, 3), (0, 0, 0)) := by decide +kernel
theorem xr_190_4 : X_row 190 4 = some (4, (.iload_n 1, 1), (0, 0, 0)) := by decide +kernel
theorem xr_190_5 : X_row 190 5 = some (5, (.aload_n 0, 1), (0, 0, 0)) := by decide +kernel
theorem xr_190_6 : X_row 190 6 = some (6, (.getfield 317, 3), (11, 49, 98)) := by decide +kernel
theorem xr_190_9 : X_row 190 9 = some (9, (.if_icmp .lt 5, 3), (0, 0, 0)) := by decide +kernel
theorem xr_190_12 : X_row 190 12 = some (12, (.iconst (-1), 1), (0, 0, 0)) := by decide +kernel
theorem xr_190_13 : X_row 190 13 = some (13, (.ireturn, 1), (0, 0, 0)) := by decide +kernel
theorem xr_190_14 : X_row 190 14 = some (14, (.iload_n 2, 1), (0, 0, 0)) := by decide +kernel
theorem xr_190_15 : X_row 190 15 = some (15, (.tableswitch 81 0 4 #[33, 40, 47, 54, 61], 33), (0, 0, 0)) := by decide +kernel
theorem xr_190_48 : X_row 190 48 = some (48, (.aload_n 0, 1), (0, 0, 0)) := by decide +kernel
theorem xr_190_49 : X_row 190 49 = some (49, (.getfield 222, 3), (11, 44, 88)) := by decide +kernel
theorem xr_190_52 : X_row 190 52 = some (52, (.iload_n 1, 1), (0, 0, 0)) := by decide +kernel
theorem xr_190_53 : X_row 190 53 = some (53, (.iaload, 1), (0, 0, 0)) := by decide +kernel
theorem xr_190_54 : X_row 190 54 = some (54, (.ireturn, 1), (0, 0, 0)) := by decide +kernel
theorem xr_190_55 : X_row 190 55 = some (55, (.aload_n 0, 1), (0, 0, 0)) := by decide +kernel
theorem xr_190_56 : X_row 190 56 = some (56, (.getfield 225, 3), (11, 45, 90)) := by decide +kernel
theorem xr_190_59 : X_row 190 59 = some (59, (.iload_n 1, 1), (0, 0, 0)) := by decide +kernel
theorem xr_190_60 : X_row 190 60 = some (60, (.iaload, 1), (0, 0, 0)) := by decide +kernel
theorem xr_190_61 : X_row 190 61 = some (61, (.ireturn, 1), (0, 0, 0)) := by decide +kernel
theorem xr_190_62 : X_row 190 62 = some (62, (.aload_n 0, 1), (0, 0, 0)) := by decide +kernel
theorem xr_190_63 : X_row 190 63 = some (63, (.getfield 228, 3), (11, 46, 92)) := by decide +kernel
theorem xr_190_66 : X_row 190 66 = some (66, (.iload_n 1, 1), (0, 0, 0)) := by decide +kernel
theorem xr_190_67 : X_row 190 67 = some (67, (.iaload, 1), (0, 0, 0)) := by decide +kernel
theorem xr_190_68 : X_row 190 68 = some (68, (.ireturn, 1), (0, 0, 0)) := by decide +kernel
theorem xr_190_69 : X_row 190 69 = some (69, (.aload_n 0, 1), (0, 0, 0)) := by decide +kernel
theorem xr_190_70 : X_row 190 70 = some (70, (.getfield 231, 3), (11, 47, 94)) := by decide +kernel
theorem xr_190_73 : X_row 190 73 = some (73, (.iload_n 1, 1), (0, 0, 0)) := by decide +kernel
theorem xr_190_74 : X_row 190 74 = some (74, (.iaload, 1), (0, 0, 0)) := by decide +kernel
theorem xr_190_75 : X_row 190 75 = some (75, (.ireturn, 1), (0, 0, 0)) := by decide +kernel
theorem xr_190_76 : X_row 190 76 = some (76, (.aload_n 0, 1), (0, 0, 0)) := by decide +kernel
theorem xr_190_77 : X_row 190 77 = some (77, (.getfield 231, 3), (11, 47, 94)) := by decide +kernel
theorem xr_190_80 : X_row 190 80 = some (80, (.iload_n 1, 1), (0, 0, 0)) := by decide +kernel
theorem xr_190_81 : X_row 190 81 = some (81, (.iaload, 1), (0, 0, 0)) := by decide +kernel
theorem xr_190_82 : X_row 190 82 = some (82, (.ifCond .ge 7, 3), (0, 0, 0)) := by decide +kernel
theorem xr_190_85 : X_row 190 85 = some (85, (.iconst (-1), 1), (0, 0, 0)) := by decide +kernel
theorem xr_190_86 : X_row 190 86 = some (86, (.goto 9, 3), (0, 0, 0)) := by decide +kernel
theorem xr_190_89 : X_row 190 89 = some (89, (.aload_n 0, 1), (0, 0, 0)) := by decide +kernel
theorem xr_190_90 : X_row 190 90 = some (90, (.getfield 234, 3), (11, 48, 96)) := by decide +kernel
theorem xr_190_93 : X_row 190 93 = some (93, (.iload_n 1, 1), (0, 0, 0)) := by decide +kernel
theorem xr_190_94 : X_row 190 94 = some (94, (.iaload, 1), (0, 0, 0)) := by decide +kernel
theorem xr_190_95 : X_row 190 95 = some (95, (.ireturn, 1), (0, 0, 0)) := by decide +kernel
theorem xr_190_96 : X_row 190 96 = some (96, (.iconst (-1), 1), (0, 0, 0)) := by decide +kernel
theorem xr_190_97 : X_row 190 97 = some (97, (.ireturn, 1), (0, 0, 0)) := by decide +kernel
theorem xr_191_0 : X_row 191 0 = some (0, (.aload_n 0, 1), (0, 0, 0)) := by decide +kernel
theorem xr_191_1 : X_row 191 1 = some (1, (.iload_n 1, 1), (0, 0, 0)) := by decide +kernel
theorem xr_191_2 : X_row 191 2 = some (2, (.invokevirtual 324, 3), (165, 50, 0)) := by decide +kernel
theorem xr_191_5 : X_row 191 5 = some (5, (.ifCond .eq 37, 3), (0, 0, 0)) := by decide +kernel
theorem xr_191_8 : X_row 191 8 = some (8, (.aload_n 0, 1), (0, 0, 0)) := by decide +kernel
theorem xr_191_9 : X_row 191 9 = some (9, (.getfield 156, 3), (11, 22, 44)) := by decide +kernel
theorem xr_191_12 : X_row 191 12 = some (12, (.bipush 30, 2), (0, 0, 0)) := by decide +kernel
theorem xr_191_14 : X_row 191 14 = some (14, (.aload_n 0, 1), (0, 0, 0)) := by decide +kernel
theorem xr_191_15 : X_row 191 15 = some (15, (.getfield 91, 3), (11, 4, 8)) := by decide +kernel
theorem xr_191_18 : X_row 191 18 = some (18, (.imul, 1), (0, 0, 0)) := by decide +kernel
theorem xr_191_19 : X_row 191 19 = some (19, (.iload_n 1, 1), (0, 0, 0)) := by decide +kernel
theorem xr_191_20 : X_row 191 20 = some (20, (.iadd, 1), (0, 0, 0)) := by decide +kernel
theorem xr_191_21 : X_row 191 21 = some (21, (.iaload, 1), (0, 0, 0)) := by decide +kernel
theorem xr_191_22 : X_row 191 22 = some (22, (.ifCond .ge 20, 3), (0, 0, 0)) := by decide +kernel
theorem xr_191_25 : X_row 191 25 = some (25, (.aload_n 0, 1), (0, 0, 0)) := by decide +kernel
theorem xr_191_26 : X_row 191 26 = some (26, (.getfield 153, 3), (11, 21, 42)) := by decide +kernel
theorem xr_191_29 : X_row 191 29 = some (29, (.bipush 30, 2), (0, 0, 0)) := by decide +kernel
theorem xr_191_31 : X_row 191 31 = some (31, (.aload_n 0, 1), (0, 0, 0)) := by decide +kernel
theorem xr_191_32 : X_row 191 32 = some (32, (.getfield 91, 3), (11, 4, 8)) := by decide +kernel
theorem xr_191_35 : X_row 191 35 = some (35, (.imul, 1), (0, 0, 0)) := by decide +kernel
theorem xr_191_36 : X_row 191 36 = some (36, (.iload_n 1, 1), (0, 0, 0)) := by decide +kernel
theorem xr_191_37 : X_row 191 37 = some (37, (.iadd, 1), (0, 0, 0)) := by decide +kernel
theorem xr_191_38 : X_row 191 38 = some (38, (.iaload, 1), (0, 0, 0)) := by decide +kernel
theorem xr_191_39 : X_row 191 39 = some (39, (.ifCond .le 5, 3), (0, 0, 0)) := by decide +kernel
theorem xr_191_42 : X_row 191 42 = some (42, (.iconst 0, 1), (0, 0, 0)) := by decide +kernel
theorem xr_191_43 : X_row 191 43 = some (43, (.ireturn, 1), (0, 0, 0)) := by decide +kernel
theorem xr_191_44 : X_row 191 44 = some (44, (.aload_n 0, 1), (0, 0, 0)) := by decide +kernel
theorem xr_191_45 : X_row 191 45 = some (45, (.getfield 273, 3), (11, 63, 126)) := by decide +kernel
theorem xr_191_48 : X_row 191 48 = some (48, (.iload_n 1, 1), (0, 0, 0)) := by decide +kernel
theorem xr_191_49 : X_row 191 49 = some (49, (.iconst 1, 1), (0, 0, 0)) := by decide +kernel
theorem xr_191_50 : X_row 191 50 = some (50, (.bastore, 1), (0, 0, 0)) := by decide +kernel
theorem xr_191_51 : X_row 191 51 = some (51, (.aload_n 0, 1), (0, 0, 0)) := by decide +kernel
theorem xr_191_52 : X_row 191 52 = some (52, (.getfield 276, 3), (11, 64, 128)) := by decide +kernel
theorem xr_191_55 : X_row 191 55 = some (55, (.iload_n 1, 1), (0, 0, 0)) := by decide +kernel
theorem xr_191_56 : X_row 191 56 = some (56, (.iload_n 2, 1), (0, 0, 0)) := by decide +kernel
theorem xr_191_57 : X_row 191 57 = some (57, (.iastore, 1), (0, 0, 0)) := by decide +kernel
theorem xr_191_58 : X_row 191 58 = some (58, (.iconst 1, 1), (0, 0, 0)) := by decide +kernel
theorem xr_191_59 : X_row 191 59 = some (59, (.ireturn, 1), (0, 0, 0)) := by decide +kernel
theorem xr_198_0 : X_row 198 0 = some (0, (.iload_n 1, 1), (0, 0, 0)) := by decide +kernel
theorem xr_198_1 : X_row 198 1 = some (1, (.ifCond .ne 21, 3), (0, 0, 0)) := by decide +kernel
theorem xr_198_4 : X_row 198 4 = some (4, (.aload_n 0, 1), (0, 0, 0)) := by decide +kernel
theorem xr_198_5 : X_row 198 5 = some (5, (.getfield 320, 3), (11, 68, 136)) := by decide +kernel
theorem xr_198_8 : X_row 198 8 = some (8, (.ifCond .eq 10, 3), (0, 0, 0)) := by decide +kernel
theorem xr_198_11 : X_row 198 11 = some (11, (.aload_n 0, 1), (0, 0, 0)) := by decide +kernel
theorem xr_198_12 : X_row 198 12 = some (12, (.getfield 399, 3), (11, 70, 140)) := by decide +kernel
theorem xr_198_15 : X_row 198 15 = some (15, (.goto 27, 3), (0, 0, 0)) := by decide +kernel
theorem xr_198_18 : X_row 198 18 = some (18, (.iconst 0, 1), (0, 0, 0)) := by decide +kernel
theorem xr_198_19 : X_row 198 19 = some (19, (.goto 23, 3), (0, 0, 0)) := by decide +kernel
theorem xr_198_22 : X_row 198 22 = some (22, (.iload_n 1, 1), (0, 0, 0)) := by decide +kernel
theorem xr_198_23 : X_row 198 23 = some (23, (.iconst 1, 1), (0, 0, 0)) := by decide +kernel
theorem xr_198_24 : X_row 198 24 = some (24, (.if_icmp .ne 17, 3), (0, 0, 0)) := by decide +kernel
theorem xr_198_27 : X_row 198 27 = some (27, (.aload_n 0, 1), (0, 0, 0)) := by decide +kernel
theorem xr_198_28 : X_row 198 28 = some (28, (.getfield 320, 3), (11, 68, 136)) := by decide +kernel
theorem xr_198_31 : X_row 198 31 = some (31, (.ifCond .eq 10, 3), (0, 0, 0)) := by decide +kernel
theorem xr_198_34 : X_row 198 34 = some (34, (.aload_n 0, 1), (0, 0, 0)) := by decide +kernel
theorem xr_198_35 : X_row 198 35 = some (35, (.getfield 402, 3), (11, 69, 138)) := by decide +kernel
theorem xr_198_38 : X_row 198 38 = some (38, (.goto 4, 3), (0, 0, 0)) := by decide +kernel
theorem xr_198_41 : X_row 198 41 = some (41, (.iconst (-1), 1), (0, 0, 0)) := by decide +kernel
theorem xr_198_42 : X_row 198 42 = some (42, (.ireturn, 1), (0, 0, 0)) := by decide +kernel
theorem xr_199_0 : X_row 199 0 = some (0, (.iconst 0, 1), (0, 0, 0)) := by decide +kernel
theorem xr_199_1 : X_row 199 1 = some (1, (.istore_n 1, 1), (0, 0, 0)) := by decide +kernel
theorem xr_199_2 : X_row 199 2 = some (2, (.iload_n 1, 1), (0, 0, 0)) := by decide +kernel
theorem xr_199_3 : X_row 199 3 = some (3, (.aload_n 0, 1), (0, 0, 0)) := by decide +kernel
theorem xr_199_4 : X_row 199 4 = some (4, (.getfield 138, 3), (11, 30, 60)) := by decide +kernel
theorem xr_199_7 : X_row 199 7 = some (7, (.if_icmp .ge 41, 3), (0, 0, 0)) := by decide +kernel
theorem xr_199_10 : X_row 199 10 = some (10, (.iload_n 1, 1), (0, 0, 0)) := by decide +kernel
theorem xr_199_11 : X_row 199 11 = some (11, (.istore_n 2, 1), (0, 0, 0)) := by decide +kernel
theorem xr_199_12 : X_row 199 12 = some (12, (.iload_n 2, 1), (0, 0, 0)) := by decide +kernel
theorem xr_199_13 : X_row 199 13 = some (13, (.aload_n 0, 1), (0, 0, 0)) := by decide +kernel
theorem xr_199_14 : X_row 199 14 = some (14, (.getfield 138, 3), (11, 30, 60)) := by decide +kernel
theorem xr_199_17 : X_row 199 17 = some (17, (.if_icmp .ge 25, 3), (0, 0, 0)) := by decide +kernel
theorem xr_199_20 : X_row 199 20 = some (20, (.aload_n 0, 1), (0, 0, 0)) := by decide +kernel
theorem xr_199_21 : X_row 199 21 = some (21, (.iload_n 1, 1), (0, 0, 0)) := by decide +kernel
theorem xr_199_22 : X_row 199 22 = some (22, (.iload_n 2, 1), (0, 0, 0)) := by decide +kernel
theorem xr_199_23 : X_row 199 23 = some (23, (.invokevirtual 420, 3), (200, 96, 0)) := by decide +kernel
theorem xr_199_26 : X_row 199 26 = some (26, (.ifCond .eq 10, 3), (0, 0, 0)) := by decide +kernel
theorem xr_199_29 : X_row 199 29 = some (29, (.bipush 100, 2), (0, 0, 0)) := by decide +kernel
theorem xr_199_31 : X_row 199 31 = some (31, (.iload_n 1, 1), (0, 0, 0)) := by decide +kernel
theorem xr_199_32 : X_row 199 32 = some (32, (.imul, 1), (0, 0, 0)) := by decide +kernel
theorem xr_199_33 : X_row 199 33 = some (33, (.iload_n 2, 1), (0, 0, 0)) := by decide +kernel
theorem xr_199_34 : X_row 199 34 = some (34, (.iadd, 1), (0, 0, 0)) := by decide +kernel
theorem xr_199_35 : X_row 199 35 = some (35, (.ireturn, 1), (0, 0, 0)) := by decide +kernel
theorem xr_199_36 : X_row 199 36 = some (36, (.iinc 2 1, 3), (0, 0, 0)) := by decide +kernel
theorem xr_199_39 : X_row 199 39 = some (39, (.goto (-27), 3), (0, 0, 0)) := by decide +kernel
theorem xr_199_42 : X_row 199 42 = some (42, (.iinc 1 1, 3), (0, 0, 0)) := by decide +kernel
theorem xr_199_45 : X_row 199 45 = some (45, (.goto (-43), 3), (0, 0, 0)) := by decide +kernel
theorem xr_199_48 : X_row 199 48 = some (48, (.iconst (-1), 1), (0, 0, 0)) := by decide +kernel
theorem xr_199_49 : X_row 199 49 = some (49, (.ireturn, 1), (0, 0, 0)) := by decide +kernel
theorem xr_200_0 : X_row 200 0 = some (0, (.bipush 30, 2), (0, 0, 0)) := by decide +kernel
theorem xr_200_2 : X_row 200 2 = some (2, (.aload_n 0, 1), (0, 0, 0)) := by decide +kernel
theorem xr_200_3 : X_row 200 3 = some (3, (.getfield 91, 3), (11, 4, 8)) := by decide +kernel
theorem xr_200_6 : X_row 200 6 = some (6, (.imul, 1), (0, 0, 0)) := by decide +kernel
theorem xr_200_7 : X_row 200 7 = some (7, (.iload_n 1, 1), (0, 0, 0)) := by decide +kernel
theorem xr_200_8 : X_row 200 8 = some (8, (.iadd, 1), (0, 0, 0)) := by decide +kernel
theorem xr_200_9 : X_row 200 9 = some (9, (.istore_n 3, 1), (0, 0, 0)) := by decide +kernel
theorem xr_200_10 : X_row 200 10 = some (10, (.bipush 30, 2), (0, 0, 0)) := by decide +kernel
theorem xr_200_12 : X_row 200 12 = some (12, (.aload_n 0, 1), (0, 0, 0)) := by decide +kernel
theorem xr_200_13 : X_row 200 13 = some (13, (.getfield 91, 3), (11, 4, 8)) := by decide +kernel
theorem xr_200_16 : X_row 200 16 = some (16, (.imul, 1), (0, 0, 0)) := by decide +kernel
theorem xr_200_17 : X_row 200 17 = some (17, (.iload_n 2, 1), (0, 0, 0)) := by decide +kernel
theorem xr_200_18 : X_row 200 18 = some (18, (.iadd, 1), (0, 0, 0)) := by decide +kernel
theorem xr_200_19 : X_row 200 19 = some (19, (.istore 4, 2), (0, 0, 0)) := by decide +kernel
theorem xr_200_21 : X_row 200 21 = some (21, (.iconst 0, 1), (0, 0, 0)) := by decide +kernel
theorem xr_200_22 : X_row 200 22 = some (22, (.istore 5, 2), (0, 0, 0)) := by decide +kernel
theorem xr_200_24 : X_row 200 24 = some (24, (.iload 5, 2), (0, 0, 0)) := by decide +kernel
theorem xr_200_26 : X_row 200 26 = some (26, (.aload_n 0, 1), (0, 0, 0)) := by decide +kernel
theorem xr_200_27 : X_row 200 27 = some (27, (.getfield 150, 3), (11, 20, 40)) := by decide +kernel
theorem xr_200_30 : X_row 200 30 = some (30, (.iload_n 3, 1), (0, 0, 0)) := by decide +kernel
theorem xr_200_31 : X_row 200 31 = some (31, (.iaload, 1), (0, 0, 0)) := by decide +kernel
theorem xr_200_32 : X_row 200 32 = some (32, (.if_icmp .ge 84, 3), (0, 0, 0)) := by decide +kernel
theorem xr_200_35 : X_row 200 35 = some (35, (.aload_n 0, 1), (0, 0, 0)) := by decide +kernel
theorem xr_200_36 : X_row 200 36 = some (36, (.getfield 168, 3), (11, 25, 50)) := by decide +kernel
theorem xr_200_39 : X_row 200 39 = some (39, (.bipush 8, 2), (0, 0, 0)) := by decide +kernel
theorem xr_200_41 : X_row 200 41 = some (41, (.iload_n 3, 1), (0, 0, 0)) := by decide +kernel
theorem xr_200_42 : X_row 200 42 = some (42, (.imul, 1), (0, 0, 0)) := by decide +kernel
theorem xr_200_43 : X_row 200 43 = some (43, (.iload 5, 2), (0, 0, 0)) := by decide +kernel
theorem xr_200_45 : X_row 200 45 = some (45, (.iadd, 1), (0, 0, 0)) := by decide +kernel
theorem xr_200_46 : X_row 200 46 = some (46, (.laload, 1), (0, 0, 0)) := by decide +kernel
theorem xr_200_47 : X_row 200 47 = some (47, (.lstore 6, 2), (0, 0, 0)) := by decide +kernel
theorem xr_200_49 : X_row 200 49 = some (49, (.iload_n 1, 1), (0, 0, 0)) := by decide +kernel
theorem xr_200_50 : X_row 200 50 = some (50, (.iload_n 2, 1), (0, 0, 0)) := by decide +kernel
theorem xr_200_51 : X_row 200 51 = some (51, (.if_icmp .ne 10, 3), (0, 0, 0)) := by decide +kernel
theorem xr_200_54 : X_row 200 54 = some (54, (.iload 5, 2), (0, 0, 0)) := by decide +kernel
theorem xr_200_56 : X_row 200 56 = some (56, (.iconst 1, 1), (0, 0, 0)) := by decide +kernel
theorem xr_200_57 : X_row 200 57 = some (57, (.iadd, 1), (0, 0, 0)) := by decide +kernel
theorem xr_200_58 : X_row 200 58 = some (58, (.goto 4, 3), (0, 0, 0)) := by decide +kernel
theorem xr_200_61 : X_row 200 61 = some (61, (.iconst 0, 1), (0, 0, 0)) := by decide +kernel
theorem xr_200_62 : X_row 200 62 = some (62, (.istore 8, 2), (0, 0, 0)) := by decide +kernel
theorem xr_200_64 : X_row 200 64 = some (64, (.iload 8, 2), (0, 0, 0)) := by decide +kernel
theorem xr_200_66 : X_row 200 66 = some (66, (.aload_n 0, 1), (0, 0, 0)) := by decide +kernel
theorem xr_200_67 : X_row 200 67 = some (67, (.getfield 150, 3), (11, 20, 40)) := by decide +kernel
theorem xr_200_70 : X_row 200 70 = some (70, (.iload 4, 2), (0, 0, 0)) := by decide +kernel
theorem xr_200_72 : X_row 200 72 = some (72, (.iaload, 1), (0, 0, 0)) := by decide +kernel
theorem xr_200_73 : X_row 200 73 = some (73, (.if_icmp .ge 37, 3), (0, 0, 0)) := by decide +kernel
theorem xr_200_76 : X_row 200 76 = some (76, (.lload 6, 2), (0, 0, 0)) := by decide +kernel
theorem xr_200_78 : X_row 200 78 = some (78, (.lconst 0, 1), (0, 0, 0)) := by decide +kernel
theorem xr_200_79 : X_row 200 79 = some (79, (.lcmp, 1), (0, 0, 0)) := by decide +kernel
theorem xr_200_80 : X_row 200 80 = some (80, (.ifCond .eq 24, 3), (0, 0, 0)) := by decide +kernel
theorem xr_200_83 : X_row 200 83 = some (83, (.lload 6, 2), (0, 0, 0)) := by decide +kernel
theorem xr_200_85 : X_row 200 85 = some (85, (.aload_n 0, 1), (0, 0, 0)) := by decide +kernel
theorem xr_200_86 : X_row 200 86 = some (86, (.getfield 168, 3), (11, 25, 50)) := by decide +kernel
theorem xr_200_89 : X_row 200 89 = some (89, (.bipush 8, 2), (0, 0, 0)) := by decide +kernel
theorem xr_200_91 : X_row 200 91 = some (91, (.iload 4, 2), (0, 0, 0)) := by decide +kernel
theorem xr_200_93 : X_row 200 93 = some (93, (.imul, 1), (0, 0, 0)) := by decide +kernel
theorem xr_200_94 : X_row 200 94 = some (94, (.iload 8, 2), (0, 0, 0)) := by decide +kernel
theorem xr_200_96 : X_row 200 96 = some (96, (.iadd, 1), (0, 0, 0)) := by decide +kernel
theorem xr_200_97 : X_row 200 97 = some (97, (.laload, 1), (0, 0, 0)) := by decide +kernel
theorem xr_200_98 : X_row 200 98 = some (98, (.lcmp, 1), (0, 0, 0)) := by decide +kernel
theorem xr_200_99 : X_row 200 99 = some (99, (.ifCond .ne 5, 3), (0, 0, 0)) := by decide +kernel
theorem xr_200_102 : X_row 200 102 = some (102, (.iconst 1, 1), (0, 0, 0)) := by decide +kernel
theorem xr_200_103 : X_row 200 103 = some (103, (.ireturn, 1), (0, 0, 0)) := by decide +kernel
theorem xr_200_104 : X_row 200 104 = some (104, (.iinc 8 1, 3), (0, 0, 0)) := by decide +kernel
theorem xr_200_107 : X_row 200 107 = some (107, (.goto (-43), 3), (0, 0, 0)) := by decide +kernel
theorem xr_200_110 : X_row 200 110 = some (110, (.iinc 5 1, 3), (0, 0, 0)) := by decide +kernel
theorem xr_200_113 : X_row 200 113 = some (113, (.goto (-89), 3), (0, 0, 0)) := by decide +kernel
theorem xr_200_116 : X_row 200 116 = some (116, (.iload_n 1, 1), (0, 0, 0)) := by decide +kernel
theorem xr_200_117 : X_row 200 117 = some (117, (.iload_n 2, 1), (0, 0, 0)) := by decide +kernel
theorem xr_200_118 : X_row 200 118 = some (118, (.if_icmp .ne 27, 3), (0, 0, 0)) := by decide +kernel
theorem xr_200_121 : X_row 200 121 = some (121, (.aload_n 0, 1), (0, 0, 0)) := by decide +kernel
theorem xr_200_122 : X_row 200 122 = some (122, (.iload_n 3, 1), (0, 0, 0)) := by decide +kernel
theorem xr_200_123 : X_row 200 123 = some (123, (.invokevirtual 162, 3), (160, 46, 0)) := by decide +kernel
theorem xr_200_126 : X_row 200 126 = some (126, (.iconst 3, 1), (0, 0, 0)) := by decide +kernel
theorem xr_200_127 : X_row 200 127 = some (127, (.if_icmp .ne 16, 3), (0, 0, 0)) := by decide +kernel
theorem xr_200_130 : X_row 200 130 = some (130, (.aload_n 0, 1), (0, 0, 0)) := by decide +kernel
theorem xr_200_131 : X_row 200 131 = some (131, (.getfield 144, 3), (11, 18, 36)) := by decide +kernel
theorem xr_200_134 : X_row 200 134 = some (134, (.iload_n 3, 1), (0, 0, 0)) := by decide +kernel
theorem xr_200_135 : X_row 200 135 = some (135, (.iaload, 1), (0, 0, 0)) := by decide +kernel
theorem xr_200_136 : X_row 200 136 = some (136, (.ifCond .ne 7, 3), (0, 0, 0)) := by decide +kernel
theorem xr_200_139 : X_row 200 139 = some (139, (.iconst 1, 1), (0, 0, 0)) := by decide +kernel
theorem xr_200_140 : X_row 200 140 = some (140, (.goto 4, 3), (0, 0, 0)) := by decide +kernel
theorem xr_200_143 : X_row 200 143 = some (143, (.iconst 0, 1), (0, 0, 0)) := by decide +kernel
theorem xr_200_144 : X_row 200 144 = some (144, (.ireturn, 1), (0, 0, 0)) := by decide +kernel
theorem xr_200_145 : X_row 200 145 = some (145, (.aload_n 0, 1), (0, 0, 0)) := by decide +kernel
theorem xr_200_146 : X_row 200 146 = some (146, (.iload_n 3, 1), (0, 0, 0)) := by decide +kernel
theorem xr_200_147 : X_row 200 147 = some (147, (.invokevirtual 162, 3), (160, 46, 0)) := by decide +kernel
theorem xr_200_150 : X_row 200 150 = some (150, (.ifCond .eq 52, 3), (0, 0, 0)) := by decide +kernel
theorem xr_200_153 : X_row 200 153 = some (153, (.aload_n 0, 1), (0, 0, 0)) := by decide +kernel
theorem xr_200_154 : X_row 200 154 = some (154, (.iload 4, 2), (0, 0, 0)) := by decide +kernel
theorem xr_200_156 : X_row 200 156 = some (156, (.invokevirtual 162, 3), (160, 46, 0)) := by decide +kernel
theorem xr_200_159 : X_row 200 159 = some (159, (.ifCond .eq 43, 3), (0, 0, 0)) := by decide +kernel
theorem xr_200_162 : X_row 200 162 = some (162, (.aload_n 0, 1), (0, 0, 0)) := by decide +kernel
theorem xr_200_163 : X_row 200 163 = some (163, (.aload_n 0, 1), (0, 0, 0)) := by decide +kernel
theorem xr_200_164 : X_row 200 164 = some (164, (.getfield 141, 3), (11, 17, 34)) := by decide +kernel
theorem xr_200_167 : X_row 200 167 = some (167, (.iload_n 3, 1), (0, 0, 0)) := by decide +kernel
theorem xr_200_168 : X_row 200 168 = some (168, (.iaload, 1), (0, 0, 0)) := by decide +kernel
theorem xr_200_169 : X_row 200 169 = some (169, (.aload_n 0, 1), (0, 0, 0)) := by decide +kernel
theorem xr_200_170 : X_row 200 170 = some (170, (.getfield 141, 3), (11, 17, 34)) := by decide +kernel
theorem xr_200_173 : X_row 200 173 = some (173, (.iload 4, 2), (0, 0, 0)) := by decide +kernel
theorem xr_200_175 : X_row 200 175 = some (175, (.iaload, 1), (0, 0, 0)) := by decide +kernel
theorem xr_200_176 : X_row 200 176 = some (176, (.invokevirtual 123, 3), (154, 32, 0)) := by decide +kernel
theorem xr_200_179 : X_row 200 179 = some (179, (.ifCond .ne 23, 3), (0, 0, 0)) := by decide +kernel
theorem xr_200_182 : X_row 200 182 = some (182, (.aload_n 0, 1), (0, 0, 0)) := by decide +kernel
theorem xr_200_183 : X_row 200 183 = some (183, (.aload_n 0, 1), (0, 0, 0)) := by decide +kernel
theorem xr_200_184 : X_row 200 184 = some (184, (.getfield 141, 3), (11, 17, 34)) := by decide +kernel
theorem xr_200_187 : X_row 200 187 = some (187, (.iload 4, 2), (0, 0, 0)) := by decide +kernel
theorem xr_200_189 : X_row 200 189 = some (189, (.iaload, 1), (0, 0, 0)) := by decide +kernel
theorem xr_200_190 : X_row 200 190 = some (190, (.aload_n 0, 1), (0, 0, 0)) := by decide +kernel
theorem xr_200_191 : X_row 200 191 = some (191, (.getfield 141, 3), (11, 17, 34)) := by decide +kernel
theorem xr_200_194 : X_row 200 194 = some (194, (.iload_n 3, 1), (0, 0, 0)) := by decide +kernel
theorem xr_200_195 : X_row 200 195 = some (195, (.iaload, 1), (0, 0, 0)) := by decide +kernel
theorem xr_200_196 : X_row 200 196 = some (196, (.invokevirtual 123, 3), (154, 32, 0)) := by decide +kernel
theorem xr_200_199 : X_row 200 199 = some (199, (.ifCond .eq 5, 3), (0, 0, 0)) := by decide +kernel
theorem xr_200_202 : X_row 200 202 = some (202, (.iconst 0, 1), (0, 0, 0)) := by decide +kernel
theorem xr_200_203 : X_row 200 203 = some (203, (.ireturn, 1), (0, 0, 0)) := by decide +kernel
theorem xr_200_204 : X_row 200 204 = some (204, (.aload_n 0, 1), (0, 0, 0)) := by decide +kernel
theorem xr_200_205 : X_row 200 205 = some (205, (.getfield 141, 3), (11, 17, 34)) := by decide +kernel
theorem xr_200_208 : X_row 200 208 = some (208, (.iload_n 3, 1), (0, 0, 0)) := by decide +kernel
theorem xr_200_209 : X_row 200 209 = some (209, (.iaload, 1), (0, 0, 0)) := by decide +kernel
theorem xr_200_210 : X_row 200 210 = some (210, (.aload_n 0, 1), (0, 0, 0)) := by decide +kernel
theorem xr_200_211 : X_row 200 211 = some (211, (.getfield 141, 3), (11, 17, 34)) := by decide +kernel
theorem xr_200_214 : X_row 200 214 = some (214, (.iload 4, 2), (0, 0, 0)) := by decide +kernel
theorem xr_200_216 : X_row 200 216 = some (216, (.iaload, 1), (0, 0, 0)) := by decide +kernel
theorem xr_200_217 : X_row 200 217 = some (217, (.if_icmp .ne 28, 3), (0, 0, 0)) := by decide +kernel
theorem xr_200_220 : X_row 200 220 = some (220, (.aload_n 0, 1), (0, 0, 0)) := by decide +kernel
theorem xr_200_221 : X_row 200 221 = some (221, (.getfield 144, 3), (11, 18, 36)) := by decide +kernel
theorem xr_200_224 : X_row 200 224 = some (224, (.iload_n 3, 1), (0, 0, 0)) := by decide +kernel
theorem xr_200_225 : X_row 200 225 = some (225, (.iaload, 1), (0, 0, 0)) := by decide +kernel
theorem xr_200_226 : X_row 200 226 = some (226, (.ifCond .eq 19, 3), (0, 0, 0)) := by decide +kernel
theorem xr_200_229 : X_row 200 229 = some (229, (.aload_n 0, 1), (0, 0, 0)) := by decide +kernel
theorem xr_200_230 : X_row 200 230 = some (230, (.getfield 144, 3), (11, 18, 36)) := by decide +kernel
theorem xr_200_233 : X_row 200 233 = some (233, (.iload_n 3, 1), (0, 0, 0)) := by decide +kernel
theorem xr_200_234 : X_row 200 234 = some (234, (.iaload, 1), (0, 0, 0)) := by decide +kernel
theorem xr_200_235 : X_row 200 235 = some (235, (.aload_n 0, 1), (0, 0, 0)) := by decide +kernel
theorem xr_200_236 : X_row 200 236 = some (236, (.getfield 144, 3), (11, 18, 36)) := by decide +kernel
theorem xr_200_239 : X_row 200 239 = some (239, (.iload 4, 2), (0, 0, 0)) := by decide +kernel
theorem xr_200_241 : X_row 200 241 = some (241, (.iaload, 1), (0, 0, 0)) := by decide +kernel
theorem xr_200_242 : X_row 200 242 = some (242, (.if_icmp .eq 7, 3), (0, 0, 0)) := by decide +kernel
theorem xr_200_245 : X_row 200 245 = some (245, (.iconst 1, 1), (0, 0, 0)) := by decide +kernel
theorem xr_200_246 : X_row 200 246 = some (246, (.goto 4, 3), (0, 0, 0)) := by decide +kernel
theorem xr_200_249 : X_row 200 249 = some (249, (.iconst 0, 1), (0, 0, 0)) := by decide +kernel
theorem xr_200_250 : X_row 200 250 = some (250, (.ireturn, 1), (0, 0, 0)) := by decide +kernel
theorem xr_201_0 : X_row 201 0 = some (0, (.aload_n 0, 1), (0, 0, 0)) := by decide +kernel
theorem xr_201_1 : X_row 201 1 = some (1, (.getfield 293, 3), (11, 1, 2)) := by decide +kernel
theorem xr_201_4 : X_row 201 4 = some (4, (.bipush 20, 2), (0, 0, 0)) := by decide +kernel
theorem xr_201_6 : X_row 201 6 = some (6, (.iadd, 1), (0, 0, 0)) := by decide +kernel
theorem xr_201_7 : X_row 201 7 = some (7, (.sipush 2000, 3), (0, 0, 0)) := by decide +kernel
theorem xr_201_10 : X_row 201 10 = some (10, (.if_icmp .le 5, 3), (0, 0, 0)) := by decide +kernel
theorem xr_201_13 : X_row 201 13 = some (13, (.iconst (-1), 1), (0, 0, 0)) := by decide +kernel
theorem xr_201_14 : X_row 201 14 = some (14, (.ireturn, 1), (0, 0, 0)) := by decide +kernel
theorem xr_201_15 : X_row 201 15 = some (15, (.iconst 0, 1), (0, 0, 0)) := by decide +kernel
theorem xr_201_16 : X_row 201 16 = some (16, (.istore 6, 2), (0, 0, 0)) := by decide +kernel
theorem xr_201_18 : X_row 201 18 = some (18, (.iload 6, 2), (0, 0, 0)) := by decide +kernel
theorem xr_201_20 : X_row 201 20 = some (20, (.bipush 20, 2), (0, 0, 0)) := by decide +kernel
theorem xr_201_22 : X_row 201 22 = some (22, (.if_icmp .ge 83, 3), (0, 0, 0)) := by decide +kernel
theorem xr_201_25 : X_row 201 25 = some (25, (.iload 6, 2), (0, 0, 0)) := by decide +kernel
theorem xr_201_27 : X_row 201 27 = some (27, (.iconst 4, 1), (0, 0, 0)) := by decide +kernel
theorem xr_201_28 : X_row 201 28 = some (28, (.if_icmp .ge 7, 3), (0, 0, 0)) := by decide +kernel
theorem xr_201_31 : X_row 201 31 = some (31, (.iload_n 1, 1), (0, 0, 0)) := by decide +kernel
theorem xr_201_32 : X_row 201 32 = some (32, (.goto 39, 3), (0, 0, 0)) := by decide +kernel
theorem xr_201_35 : X_row 201 35 = some (35, (.iload 6, 2), (0, 0, 0)) := by decide +kernel
theorem xr_201_37 : X_row 201 37 = some (37, (.bipush 8, 2), (0, 0, 0)) := by decide +kernel
theorem xr_201_39 : X_row 201 39 = some (39, (.if_icmp .ge 7, 3), (0, 0, 0)) := by decide +kernel
theorem xr_201_42 : X_row 201 42 = some (42, (.iload_n 2, 1), (0, 0, 0)) := by decide +kernel
theorem xr_201_43 : X_row 201 43 = some (43, (.goto 28, 3), (0, 0, 0)) := by decide +kernel
theorem xr_201_46 : X_row 201 46 = some (46, (.iload 6, 2), (0, 0, 0)) := by decide +kernel
theorem xr_201_48 : X_row 201 48 = some (48, (.bipush 12, 2), (0, 0, 0)) := by decide +kernel
theorem xr_201_50 : X_row 201 50 = some (50, (.if_icmp .ge 7, 3), (0, 0, 0)) := by decide +kernel
theorem xr_201_53 : X_row 201 53 = some (53, (.iload_n 3, 1), (0, 0, 0)) := by decide +kernel
theorem xr_201_54 : X_row 201 54 = some (54, (.goto 17, 3), (0, 0, 0)) := by decide +kernel
theorem xr_201_57 : X_row 201 57 = some (57, (.iload 6, 2), (0, 0, 0)) := by decide +kernel
theorem xr_201_59 : X_row 201 59 = some (59, (.bipush 16, 2), (0, 0, 0)) := by decide +kernel
theorem xr_201_61 : X_row 201 61 = some (61, (.if_icmp .ge 8, 3), (0, 0, 0)) := by decide +kernel
theorem xr_201_64 : X_row 201 64 = some (64, (.iload 4, 2), (0, 0, 0)) := by decide +kernel
theorem xr_201_66 : X_row 201 66 = some (66, (.goto 5, 3), (0, 0, 0)) := by decide +kernel
theorem xr_201_69 : X_row 201 69 = some (69, (.iload 5, 2), (0, 0, 0)) := by decide +kernel
theorem xr_201_71 : X_row 201 71 = some (71, (.istore 7, 2), (0, 0, 0)) := by decide +kernel
theorem xr_201_73 : X_row 201 73 = some (73, (.aload_n 0, 1), (0, 0, 0)) := by decide +kernel
theorem xr_201_74 : X_row 201 74 = some (74, (.getfield 188, 3), (11, 0, 0)) := by decide +kernel
theorem xr_201_77 : X_row 201 77 = some (77, (.aload_n 0, 1), (0, 0, 0)) := by decide +kernel
theorem xr_201_78 : X_row 201 78 = some (78, (.getfield 293, 3), (11, 1, 2)) := by decide +kernel
theorem xr_201_81 : X_row 201 81 = some (81, (.iload 6, 2), (0, 0, 0)) := by decide +kernel
theorem xr_201_83 : X_row 201 83 = some (83, (.iadd, 1), (0, 0, 0)) := by decide +kernel
theorem xr_201_84 : X_row 201 84 = some (84, (.iload 7, 2), (0, 0, 0)) := by decide +kernel
theorem xr_201_86 : X_row 201 86 = some (86, (.bipush 24, 2), (0, 0, 0)) := by decide +kernel
theorem xr_201_88 : X_row 201 88 = some (88, (.bipush 8, 2), (0, 0, 0)) := by decide +kernel
theorem xr_201_90 : X_row 201 90 = some (90, (.iload 6, 2), (0, 0, 0)) := by decide +kernel
theorem xr_201_92 : X_row 201 92 = some (92, (.iconst 3, 1), (0, 0, 0)) := by decide +kernel
theorem xr_201_93 : X_row 201 93 = some (93, (.iand, 1), (0, 0, 0)) := by decide +kernel
theorem xr_201_94 : X_row 201 94 = some (94, (.imul, 1), (0, 0, 0)) := by decide +kernel
theorem xr_201_95 : X_row 201 95 = some (95, (.isub, 1), (0, 0, 0)) := by decide +kernel
theorem xr_201_96 : X_row 201 96 = some (96, (.ishr, 1), (0, 0, 0)) := by decide +kernel
theorem xr_201_97 : X_row 201 97 = some (97, (.i2b, 1), (0, 0, 0)) := by decide +kernel
theorem xr_201_98 : X_row 201 98 = some (98, (.bastore, 1), (0, 0, 0)) := by decide +kernel
theorem xr_201_99 : X_row 201 99 = some (99, (.iinc 6 1, 3), (0, 0, 0)) := by decide +kernel
theorem xr_201_102 : X_row 201 102 = some (102, (.goto (-84), 3), (0, 0, 0)) := by decide +kernel
theorem xr_201_105 : X_row 201 105 = some (105, (.aload_n 0, 1), (0, 0, 0)) := by decide +kernel
theorem xr_201_106 : X_row 201 106 = some (106, (.dup, 1), (0, 0, 0)) := by decide +kernel
theorem xr_201_107 : X_row 201 107 = some (107, (.getfield 293, 3), (11, 1, 2)) := by decide +kernel
theorem xr_201_110 : X_row 201 110 = some (110, (.bipush 20, 2), (0, 0, 0)) := by decide +kernel
theorem xr_201_112 : X_row 201 112 = some (112, (.iadd, 1), (0, 0, 0)) := by decide +kernel
theorem xr_201_113 : X_row 201 113 = some (113, (.putfield 293, 3), (11, 1, 2)) := by decide +kernel
theorem xr_201_116 : X_row 201 116 = some (116, (.aload_n 0, 1), (0, 0, 0)) := by decide +kernel
theorem xr_201_117 : X_row 201 117 = some (117, (.getfield 293, 3), (11, 1, 2)) := by decide +kernel
theorem xr_201_120 : X_row 201 120 = some (120, (.ireturn, 1), (0, 0, 0)) := by decide +kernel
theorem xr_202_0 : X_row 202 0 = some (0, (.iload_n 1, 1), (0, 0, 0)) := by decide +kernel
theorem xr_202_1 : X_row 202 1 = some (1, (.ifCond .lt 11, 3), (0, 0, 0)) := by decide +kernel
theorem xr_202_4 : X_row 202 4 = some (4, (.iload_n 1, 1), (0, 0, 0)) := by decide +kernel
theorem xr_202_5 : X_row 202 5 = some (5, (.aload_n 0, 1), (0, 0, 0)) := by decide +kernel
theorem xr_202_6 : X_row 202 6 = some (6, (.getfield 293, 3), (11, 1, 2)) := by decide +kernel
theorem xr_202_9 : X_row 202 9 = some (9, (.if_icmp .le 5, 3), (0, 0, 0)) := by decide +kernel
theorem xr_202_12 : X_row 202 12 = some (12, (.iconst (-1), 1), (0, 0, 0)) := by decide +kernel
theorem xr_202_13 : X_row 202 13 = some (13, (.ireturn, 1), (0, 0, 0)) := by decide +kernel
theorem xr_202_14 : X_row 202 14 = some (14, (.aload_n 0, 1), (0, 0, 0)) := by decide +kernel
theorem xr_202_15 : X_row 202 15 = some (15, (.iload_n 1, 1), (0, 0, 0)) := by decide +kernel
theorem xr_202_16 : X_row 202 16 = some (16, (.putfield 293, 3), (11, 1, 2)) := by decide +kernel
theorem xr_202_19 : X_row 202 19 = some (19, (.iload_n 1, 1), (0, 0, 0)) := by decide +kernel
theorem xr_202_20 : X_row 202 20 = some (20, (.ireturn, 1), (0, 0, 0)) := by decide +kernel
theorem xn_163 : X_nL 163 = 2 := by decide +kernel
theorem xf_163 : X_na 163 = 1 ∧ X_ci 163 = 11 ∧ X_rt 163 = (some .int) := by decide +kernel
theorem xn_164 : X_nL 164 = 2 := by decide +kernel
theorem xf_164 : X_na 164 = 1 ∧ X_ci 164 = 11 ∧ X_rt 164 = (some .int) := by decide +kernel
theorem xn_165 : X_nL 165 = 2 := by decide +kernel
theorem xf_165 : X_na 165 = 1 ∧ X_ci 165 = 11 ∧ X_rt 165 = (some .boolean) := by decide +kernel
theorem xn_166 : X_nL 166 = 4 := by decide +kernel
theorem xf_166 : X_na 166 = 2 ∧ X_ci 166 = 11 ∧ X_rt 166 = (some .int) := by decide +kernel
theorem xn_167 : X_nL 167 = 3 := by decide +kernel
theorem xf_167 : X_na 167 = 2 ∧ X_ci 167 = 11 ∧ X_rt 167 = (some .int) := by decide +kernel
theorem xn_169 : X_nL 169 = 3 := by decide +kernel
theorem xf_169 : X_na 169 = 2 ∧ X_ci 169 = 11 ∧ X_rt 169 = (some .int) := by decide +kernel
theorem xn_190 : X_nL 190 = 3 := by decide +kernel
theorem xf_190 : X_na 190 = 2 ∧ X_ci 190 = 11 ∧ X_rt 190 = (some .int) := by decide +kernel
theorem xn_191 : X_nL 191 = 3 := by decide +kernel
theorem xf_191 : X_na 191 = 2 ∧ X_ci 191 = 11 ∧ X_rt 191 = (some .boolean) := by decide +kernel
theorem xn_198 : X_nL 198 = 2 := by decide +kernel
theorem xf_198 : X_na 198 = 1 ∧ X_ci 198 = 11 ∧ X_rt 198 = (some .int) := by decide +kernel
theorem xn_199 : X_nL 199 = 3 := by decide +kernel
theorem xf_199 : X_na 199 = 0 ∧ X_ci 199 = 11 ∧ X_rt 199 = (some .int) := by decide +kernel
theorem xn_200 : X_nL 200 = 9 := by decide +kernel
theorem xf_200 : X_na 200 = 2 ∧ X_ci 200 = 11 ∧ X_rt 200 = (some .boolean) := by decide +kernel
theorem xn_201 : X_nL 201 = 8 := by decide +kernel
theorem xf_201 : X_na 201 = 5 ∧ X_ci 201 = 11 ∧ X_rt 201 = (some .int) := by decide +kernel
theorem xn_202 : X_nL 202 = 2 := by decide +kernel
theorem xf_202 : X_na 202 = 1 ∧ X_ci 202 = 11 ∧ X_rt 202 = (some .int) := by decide +kernel
def X_fb2 (a b c d e k : Int) : Int := (((iI ((iI (if k < 4 then a else if k < 8 then b else if k < 12 then c else if k < 16 then d else e) >>> (iI (24 - 8 * (k % 4)) &&& 31)).toInt)).toInt8.toInt32).toInt)
theorem X_fb2_b {a b c d e k : Int} : X_by (X_fb2 a b c d e k) = X_fb a b c d e k := rfl
theorem r_feed (sc : X_Sc) (S : X_S) (tp : Int → Int) (o : Nat → Int) (nm : Int64) (b : Int) (rc : Int) (G : X_G) (tn : Int) (len : Int) (a : Int) (b_ : Int) (c : Int) (d : Int) (e : Int) (hO530 : S.1 530 = .inr (11, [.ref 531, .int (iI len), .ref 532, .int (iI (o 3)), .int (iI b), .int (iI (o 5)), .int (iI (o 6)), .int (iI (o 7)), .int (iI (o 8)), .int (iI (o 9)), .int (iI (o 10)), .int (iI (o 11)), .long nm, .ref 533, .ref 534, .ref 535, .ref 536, .ref 537, .ref 538, .ref 539, .ref 540, .ref 541, .ref 542, .ref 543, .ref 544, .ref 545, .ref 546, .ref 547, .int (iI rc), .int (iI (gk G)), .int (iI (gw G)), .int (iI (o 31)), .int (iI (o 32)), .int (iI (o 33)), .ref 548, .ref 549, .ref 550, .ref 551, .int (iI tn), .ref 552, .ref 553, .ref 554, .ref 555, .ref 556, .ref 557, .ref 558, .ref 559, .ref 560, .ref 561, .int (iI (o 49)), .ref 562, .ref 563, .ref 564, .ref 565, .ref 566, .ref 567, .ref 568, .ref 569, .int (iI (o 58)), .ref 570, .ref 571, .ref 572, .ref 573, .ref 574, .ref 575, .ref 576, .ref 577, .ref 578, .int (iI (o 68)), .int (iI (o 69)), .int (iI (o 70)), .ref 579])) (hA531 : S.1 531 = .inl (.byte, 2020, .inl fun k : Nat => iI (tp (k : Int)))) (hl : 0 ≤ len ∧ len ≤ 2000) : X_T sc 201 (0, [(0, .ref 530), (1, .int (iI a)), (2, .int (iI b_)), (3, .int (iI c)), (4, .int (iI d)), (5, .int (iI e))], [], S) (fun v S' => (v = some (.int (iI (-1))) ∧ 2000 < len + 20 ∧ S' = S) ∨ (∃ (tp1 : Int → Int), v = some (.int (iI (len + 20))) ∧ len + 20 ≤ 2000 ∧ (∀ q, 0 ≤ q → q < len → tp1 q = tp q) ∧ (∀ m, 0 ≤ m → m < 20 → tp1 (len + m) = X_fb a b_ c d e m) ∧ S'.1 530 = .inr (11, [.ref 531, .int (iI (len + 20)), .ref 532, .int (iI (o 3)), .int (iI b), .int (iI (o 5)), .int (iI (o 6)), .int (iI (o 7)), .int (iI (o 8)), .int (iI (o 9)), .int (iI (o 10)), .int (iI (o 11)), .long nm, .ref 533, .ref 534, .ref 535, .ref 536, .ref 537, .ref 538, .ref 539, .ref 540, .ref 541, .ref 542, .ref 543, .ref 544, .ref 545, .ref 546, .ref 547, .int (iI rc), .int (iI (gk G)), .int (iI (gw G)), .int (iI (o 31)), .int (iI (o 32)), .int (iI (o 33)), .ref 548, .ref 549, .ref 550, .ref 551, .int (iI tn), .ref 552, .ref 553, .ref 554, .ref 555, .ref 556, .ref 557, .ref 558, .ref 559, .ref 560, .ref 561, .int (iI (o 49)), .ref 562, .ref 563, .ref 564, .ref 565, .ref 566, .ref 567, .ref 568, .ref 569, .int (iI (o 58)), .ref 570, .ref 571, .ref 572, .ref 573, .ref 574, .ref 575, .ref 576, .ref 577, .ref 578, .int (iI (o 68)), .int (iI (o 69)), .int (iI (o 70)), .ref 579]) ∧ S'.1 531 = .inl (.byte, 2020, .inl fun k : Nat => iI (tp1 (k : Int))) ∧ (X_Fr (fun q => q = 530 ∨ q = 531) S S'))) := by
  refine X_QI (fun Q hQ => ?_)
  refine T_p xr_201_0 xn_201 (pc' := 1) (ls' := [(0, .ref 530), (1, .int (iI a)), (2, .int (iI b_)), (3, .int (iI c)), (4, .int (iI d)), (5, .int (iI e))]) (st' := [.ref 530]) rfl ?_
  refine T_get xr_201_1 hO530 rfl (v := .int (iI len)) rfl (pc' := 4) rfl ?_
  refine T_p xr_201_4 xn_201 (pc' := 6) (ls' := [(0, .ref 530), (1, .int (iI a)), (2, .int (iI b_)), (3, .int (iI c)), (4, .int (iI d)), (5, .int (iI e))]) (st' := [.int (iI 20), .int (iI len)]) rfl ?_
  refine T_ziadd xr_201_6 (z := len + 20) rfl (pc' := 7) rfl ?_
  refine T_p xr_201_7 xn_201 (pc' := 10) (ls' := [(0, .ref 530), (1, .int (iI a)), (2, .int (iI b_)), (3, .int (iI c)), (4, .int (iI d)), (5, .int (iI e))]) (st' := [.int (iI 2000), .int (iI (len + 20))]) rfl ?_
  refine T_zicmp_le xr_201_10 (t := 15) (pc' := 13) rfl rfl (fun c2268 => ?_) (fun c2268 => ?_)
  · skip
    have c2268 : (len + 20) ≤ 2000 := c2268
    refine T_p xr_201_15 xn_201 (pc' := 16) (ls' := [(0, .ref 530), (1, .int (iI a)), (2, .int (iI b_)), (3, .int (iI c)), (4, .int (iI d)), (5, .int (iI e))]) (st' := [.int (iI 0)]) rfl ?_
    refine T_p xr_201_16 xn_201 (pc' := 18) (ls' := [(6, .int (iI 0)), (0, .ref 530), (1, .int (iI a)), (2, .int (iI b_)), (3, .int (iI c)), (4, .int (iI d)), (5, .int (iI e))]) (st' := []) rfl ?_
    have L2269 : ∀ (m2271 : Nat) (S2274 : X_S) (k : Int) (tq : Int → Int) (htq : S2274.1 531 = .inl (.byte, 2020, .inl fun k : Nat => iI (tq (k : Int)))) (hF2273 : X_Fr (fun q => q = 531) S S2274) (hk : 0 ≤ k ∧ k ≤ 20) (ho : ∀ q, 0 ≤ q → q < len → tq q = tp q) (hi : ∀ m, 0 ≤ m → m < k → tq (len + m) = X_fb a b_ c d e m) (hm2272 : 20 - k < m2271), X_T sc 201 (18, [(6, .int (iI k)), (5, .int (iI e)), (4, .int (iI d)), (3, .int (iI c)), (2, .int (iI b_)), (1, .int (iI a)), (0, .ref 530)], [], S2274) Q := by
      intro m2271
      induction m2271 with
      | zero =>
        intro S2274 k tq htq hF2273 hk ho hi hm2272
        exact (show False by omega).elim
      | succ m2271 ih2270 =>
        intro S2274 k tq htq hF2273 hk ho hi hm2272
        refine T_p xr_201_18 xn_201 (pc' := 20) (ls' := [(6, .int (iI k)), (5, .int (iI e)), (4, .int (iI d)), (3, .int (iI c)), (2, .int (iI b_)), (1, .int (iI a)), (0, .ref 530)]) (st' := [.int (iI k)]) rfl ?_
        refine T_p xr_201_20 xn_201 (pc' := 22) (ls' := [(6, .int (iI k)), (5, .int (iI e)), (4, .int (iI d)), (3, .int (iI c)), (2, .int (iI b_)), (1, .int (iI a)), (0, .ref 530)]) (st' := [.int (iI 20), .int (iI k)]) rfl ?_
        refine T_zicmp_ge xr_201_22 (t := 105) (pc' := 25) rfl rfl (fun c2275 => ?_) (fun c2275 => ?_)
        · skip
          have c2275 : 20 ≤ k := c2275
          refine T_p xr_201_105 xn_201 (pc' := 106) (ls' := [(6, .int (iI k)), (5, .int (iI e)), (4, .int (iI d)), (3, .int (iI c)), (2, .int (iI b_)), (1, .int (iI a)), (0, .ref 530)]) (st' := [.ref 530]) rfl ?_
          refine T_p xr_201_106 xn_201 (pc' := 107) (ls' := [(6, .int (iI k)), (5, .int (iI e)), (4, .int (iI d)), (3, .int (iI c)), (2, .int (iI b_)), (1, .int (iI a)), (0, .ref 530)]) (st' := [.ref 530, .ref 530]) rfl ?_
          have h2276 := (hF2273.1 530 (by omega)).trans (hO530)
          refine T_get xr_201_107 h2276 rfl (v := .int (iI len)) rfl (pc' := 110) rfl ?_
          refine T_p xr_201_110 xn_201 (pc' := 112) (ls' := [(6, .int (iI k)), (5, .int (iI e)), (4, .int (iI d)), (3, .int (iI c)), (2, .int (iI b_)), (1, .int (iI a)), (0, .ref 530)]) (st' := [.int (iI 20), .int (iI len), .ref 530]) rfl ?_
          refine T_ziadd xr_201_112 (z := len + 20) rfl (pc' := 113) rfl ?_
          refine T_put xr_201_113 h2276 rfl (Nat.le_of_ble_eq_true rfl) rfl (fs' := [.ref 531, .int (iI (len + 20)), .ref 532, .int (iI (o 3)), .int (iI b), .int (iI (o 5)), .int (iI (o 6)), .int (iI (o 7)), .int (iI (o 8)), .int (iI (o 9)), .int (iI (o 10)), .int (iI (o 11)), .long nm, .ref 533, .ref 534, .ref 535, .ref 536, .ref 537, .ref 538, .ref 539, .ref 540, .ref 541, .ref 542, .ref 543, .ref 544, .ref 545, .ref 546, .ref 547, .int (iI rc), .int (iI (gk G)), .int (iI (gw G)), .int (iI (o 31)), .int (iI (o 32)), .int (iI (o 33)), .ref 548, .ref 549, .ref 550, .ref 551, .int (iI tn), .ref 552, .ref 553, .ref 554, .ref 555, .ref 556, .ref 557, .ref 558, .ref 559, .ref 560, .ref 561, .int (iI (o 49)), .ref 562, .ref 563, .ref 564, .ref 565, .ref 566, .ref 567, .ref 568, .ref 569, .int (iI (o 58)), .ref 570, .ref 571, .ref 572, .ref 573, .ref 574, .ref 575, .ref 576, .ref 577, .ref 578, .int (iI (o 68)), .int (iI (o 69)), .int (iI (o 70)), .ref 579]) rfl (pc' := 116) rfl (fun S2277 h2278 n2279 e2280 => ?_)
          refine T_p xr_201_116 xn_201 (pc' := 117) (ls' := [(6, .int (iI k)), (5, .int (iI e)), (4, .int (iI d)), (3, .int (iI c)), (2, .int (iI b_)), (1, .int (iI a)), (0, .ref 530)]) (st' := [.ref 530]) rfl ?_
          refine T_get xr_201_117 h2278 rfl (v := .int (iI (len + 20))) rfl (pc' := 120) rfl ?_
          refine T_iret xr_201_120 xf_201.2.2 rfl ?_
          refine hQ _ _ ?_
          have h2281 := (n2279 531 (by decide)).trans (htq)
          exact Or.inr ⟨tq, rfl, (by omega), ho, (fun m h1 h2 => hi m h1 (by omega)), h2278, h2281, ((X_Fr.rf).tr (X_Fr.mono ⟨hF2273.1, hF2273.2⟩ (fun q hq => (by omega)))).tr (X_Fr.of n2279 e2280 (by omega))⟩
        · skip
          have c2275 : ¬ (20 ≤ k) := c2275
          have J2282 : X_T sc 201 (71, [(6, .int (iI k)), (5, .int (iI e)), (4, .int (iI d)), (3, .int (iI c)), (2, .int (iI b_)), (1, .int (iI a)), (0, .ref 530)], [.int (iI (if k < 4 then a else if k < 8 then b_ else if k < 12 then c else if k < 16 then d else e))], S2274) Q := by
            refine T_p xr_201_71 xn_201 (pc' := 73) (ls' := [(7, .int (iI (if k < 4 then a else if k < 8 then b_ else if k < 12 then c else if k < 16 then d else e))), (6, .int (iI k)), (5, .int (iI e)), (4, .int (iI d)), (3, .int (iI c)), (2, .int (iI b_)), (1, .int (iI a)), (0, .ref 530)]) (st' := []) rfl ?_
            refine T_p xr_201_73 xn_201 (pc' := 74) (ls' := [(7, .int (iI (if k < 4 then a else if k < 8 then b_ else if k < 12 then c else if k < 16 then d else e))), (6, .int (iI k)), (5, .int (iI e)), (4, .int (iI d)), (3, .int (iI c)), (2, .int (iI b_)), (1, .int (iI a)), (0, .ref 530)]) (st' := [.ref 530]) rfl ?_
            have h2283 := (hF2273.1 530 (by omega)).trans (hO530)
            refine T_get xr_201_74 h2283 rfl (v := .ref 531) rfl (pc' := 77) rfl ?_
            refine T_p xr_201_77 xn_201 (pc' := 78) (ls' := [(7, .int (iI (if k < 4 then a else if k < 8 then b_ else if k < 12 then c else if k < 16 then d else e))), (6, .int (iI k)), (5, .int (iI e)), (4, .int (iI d)), (3, .int (iI c)), (2, .int (iI b_)), (1, .int (iI a)), (0, .ref 530)]) (st' := [.ref 530, .ref 531]) rfl ?_
            refine T_get xr_201_78 h2283 rfl (v := .int (iI len)) rfl (pc' := 81) rfl ?_
            refine T_p xr_201_81 xn_201 (pc' := 83) (ls' := [(7, .int (iI (if k < 4 then a else if k < 8 then b_ else if k < 12 then c else if k < 16 then d else e))), (6, .int (iI k)), (5, .int (iI e)), (4, .int (iI d)), (3, .int (iI c)), (2, .int (iI b_)), (1, .int (iI a)), (0, .ref 530)]) (st' := [.int (iI k), .int (iI len), .ref 531]) rfl ?_
            refine T_ziadd xr_201_83 (z := len + k) rfl (pc' := 84) rfl ?_
            refine T_p xr_201_84 xn_201 (pc' := 86) (ls' := [(7, .int (iI (if k < 4 then a else if k < 8 then b_ else if k < 12 then c else if k < 16 then d else e))), (6, .int (iI k)), (5, .int (iI e)), (4, .int (iI d)), (3, .int (iI c)), (2, .int (iI b_)), (1, .int (iI a)), (0, .ref 530)]) (st' := [.int (iI (if k < 4 then a else if k < 8 then b_ else if k < 12 then c else if k < 16 then d else e)), .int (iI (len + k)), .ref 531]) rfl ?_
            refine T_p xr_201_86 xn_201 (pc' := 88) (ls' := [(7, .int (iI (if k < 4 then a else if k < 8 then b_ else if k < 12 then c else if k < 16 then d else e))), (6, .int (iI k)), (5, .int (iI e)), (4, .int (iI d)), (3, .int (iI c)), (2, .int (iI b_)), (1, .int (iI a)), (0, .ref 530)]) (st' := [.int (iI 24), .int (iI (if k < 4 then a else if k < 8 then b_ else if k < 12 then c else if k < 16 then d else e)), .int (iI (len + k)), .ref 531]) rfl ?_
            refine T_p xr_201_88 xn_201 (pc' := 90) (ls' := [(7, .int (iI (if k < 4 then a else if k < 8 then b_ else if k < 12 then c else if k < 16 then d else e))), (6, .int (iI k)), (5, .int (iI e)), (4, .int (iI d)), (3, .int (iI c)), (2, .int (iI b_)), (1, .int (iI a)), (0, .ref 530)]) (st' := [.int (iI 8), .int (iI 24), .int (iI (if k < 4 then a else if k < 8 then b_ else if k < 12 then c else if k < 16 then d else e)), .int (iI (len + k)), .ref 531]) rfl ?_
            refine T_p xr_201_90 xn_201 (pc' := 92) (ls' := [(7, .int (iI (if k < 4 then a else if k < 8 then b_ else if k < 12 then c else if k < 16 then d else e))), (6, .int (iI k)), (5, .int (iI e)), (4, .int (iI d)), (3, .int (iI c)), (2, .int (iI b_)), (1, .int (iI a)), (0, .ref 530)]) (st' := [.int (iI k), .int (iI 8), .int (iI 24), .int (iI (if k < 4 then a else if k < 8 then b_ else if k < 12 then c else if k < 16 then d else e)), .int (iI (len + k)), .ref 531]) rfl ?_
            refine T_p xr_201_92 xn_201 (pc' := 93) (ls' := [(7, .int (iI (if k < 4 then a else if k < 8 then b_ else if k < 12 then c else if k < 16 then d else e))), (6, .int (iI k)), (5, .int (iI e)), (4, .int (iI d)), (3, .int (iI c)), (2, .int (iI b_)), (1, .int (iI a)), (0, .ref 530)]) (st' := [.int (iI 3), .int (iI k), .int (iI 8), .int (iI 24), .int (iI (if k < 4 then a else if k < 8 then b_ else if k < 12 then c else if k < 16 then d else e)), .int (iI (len + k)), .ref 531]) rfl ?_
            refine T_zop xr_201_93 (pc' := 94) rfl (z := (iI k &&& iI 3).toInt) (iI_of _) ?_
            refine T_zimul xr_201_94 (z := 8 * ((iI k &&& iI 3).toInt)) rfl (pc' := 95) rfl ?_
            refine T_zisub xr_201_95 (z := 24 - (8 * ((iI k &&& iI 3).toInt))) rfl (pc' := 96) rfl ?_
            refine T_zop xr_201_96 (pc' := 97) rfl (z := (iI (if k < 4 then a else if k < 8 then b_ else if k < 12 then c else if k < 16 then d else e) >>> (iI (24 - (8 * ((iI k &&& iI 3).toInt))) &&& 31)).toInt) (iI_of _) ?_
            refine T_zop xr_201_97 (pc' := 98) rfl (z := ((iI ((iI (if k < 4 then a else if k < 8 then b_ else if k < 12 then c else if k < 16 then d else e) >>> (iI (24 - (8 * ((iI k &&& iI 3).toInt))) &&& 31)).toInt)).toInt8.toInt32).toInt) (iI_of _) ?_
            refine T_ie (y := iI (X_fb2 a b_ c d e k)) (by
                  have h4 : (iI k &&& iI 3).toInt = k % 4 := by
                    rcases (show k = 0 ∨ k = 1 ∨ k = 2 ∨ k = 3 ∨ k = 4 ∨ k = 5 ∨ k = 6 ∨ k = 7 ∨ k = 8 ∨ k = 9 ∨ k = 10 ∨ k = 11 ∨ k = 12 ∨ k = 13 ∨ k = 14 ∨ k = 15 ∨ k = 16 ∨ k = 17 ∨ k = 18 ∨ k = 19 by omega) with h | h | h | h | h | h | h | h | h | h | h | h | h | h | h | h | h | h | h | h <;> subst h <;> decide
                  rw [h4]; rfl) ?_
            refine T_zbast xr_201_98 htq (pc' := 99) rfl (fun S2284 h2285 n2286 e2287 => ?_)
            refine T_ziinc xr_201_99 xn_201 (a := k) (z := k + 1) rfl (Nat.le_of_ble_eq_true rfl) (by omega) (ls' := [(6, .int (iI (k + 1))), (7, .int (iI (if k < 4 then a else if k < 8 then b_ else if k < 12 then c else if k < 16 then d else e))), (5, .int (iI e)), (4, .int (iI d)), (3, .int (iI c)), (2, .int (iI b_)), (1, .int (iI a)), (0, .ref 530)]) rfl (pc' := 102) rfl ?_
            refine T_p xr_201_102 xn_201 (pc' := 18) (ls' := [(6, .int (iI (k + 1))), (7, .int (iI (if k < 4 then a else if k < 8 then b_ else if k < 12 then c else if k < 16 then d else e))), (5, .int (iI e)), (4, .int (iI d)), (3, .int (iI c)), (2, .int (iI b_)), (1, .int (iI a)), (0, .ref 530)]) (st' := []) rfl ?_
            refine T_sub (ls := [(6, .int (iI (k + 1))), (5, .int (iI e)), (4, .int (iI d)), (3, .int (iI c)), (2, .int (iI b_)), (1, .int (iI a)), (0, .ref 530)]) ⟨rfl, rfl, rfl, rfl, rfl, rfl, rfl, trivial⟩ rfl rfl ?_
            exact ih2270 S2284 (k + 1) (X_ug tq (len + k) (X_by (X_fb2 a b_ c d e k))) h2285 (hF2273.tr ((X_Fr.rf).tr (X_Fr.of n2286 e2287 (by omega)))) (by omega) (fun q h1 h2 => by rw [X_ug_n _ _ (by omega)]; exact ho q h1 h2) (fun m h1 h2 => by
                  by_cases hm : m = k
                  · rw [hm, X_ug_s]; exact X_fb2_b
                  · rw [X_ug_n _ _ (by omega)]; exact hi m h1 (by omega)) (by omega)
          refine T_p xr_201_25 xn_201 (pc' := 27) (ls' := [(6, .int (iI k)), (5, .int (iI e)), (4, .int (iI d)), (3, .int (iI c)), (2, .int (iI b_)), (1, .int (iI a)), (0, .ref 530)]) (st' := [.int (iI k)]) rfl ?_
          refine T_p xr_201_27 xn_201 (pc' := 28) (ls' := [(6, .int (iI k)), (5, .int (iI e)), (4, .int (iI d)), (3, .int (iI c)), (2, .int (iI b_)), (1, .int (iI a)), (0, .ref 530)]) (st' := [.int (iI 4), .int (iI k)]) rfl ?_
          refine T_zicmp_ge xr_201_28 (t := 35) (pc' := 31) rfl rfl (fun c2288 => ?_) (fun c2288 => ?_)
          · skip
            have c2288 : 4 ≤ k := c2288
            refine T_p xr_201_35 xn_201 (pc' := 37) (ls' := [(6, .int (iI k)), (5, .int (iI e)), (4, .int (iI d)), (3, .int (iI c)), (2, .int (iI b_)), (1, .int (iI a)), (0, .ref 530)]) (st' := [.int (iI k)]) rfl ?_
            refine T_p xr_201_37 xn_201 (pc' := 39) (ls' := [(6, .int (iI k)), (5, .int (iI e)), (4, .int (iI d)), (3, .int (iI c)), (2, .int (iI b_)), (1, .int (iI a)), (0, .ref 530)]) (st' := [.int (iI 8), .int (iI k)]) rfl ?_
            refine T_zicmp_ge xr_201_39 (t := 46) (pc' := 42) rfl rfl (fun c2289 => ?_) (fun c2289 => ?_)
            · skip
              have c2289 : 8 ≤ k := c2289
              refine T_p xr_201_46 xn_201 (pc' := 48) (ls' := [(6, .int (iI k)), (5, .int (iI e)), (4, .int (iI d)), (3, .int (iI c)), (2, .int (iI b_)), (1, .int (iI a)), (0, .ref 530)]) (st' := [.int (iI k)]) rfl ?_
              refine T_p xr_201_48 xn_201 (pc' := 50) (ls' := [(6, .int (iI k)), (5, .int (iI e)), (4, .int (iI d)), (3, .int (iI c)), (2, .int (iI b_)), (1, .int (iI a)), (0, .ref 530)]) (st' := [.int (iI 12), .int (iI k)]) rfl ?_
              refine T_zicmp_ge xr_201_50 (t := 57) (pc' := 53) rfl rfl (fun c2290 => ?_) (fun c2290 => ?_)
              · skip
                have c2290 : 12 ≤ k := c2290
                refine T_p xr_201_57 xn_201 (pc' := 59) (ls' := [(6, .int (iI k)), (5, .int (iI e)), (4, .int (iI d)), (3, .int (iI c)), (2, .int (iI b_)), (1, .int (iI a)), (0, .ref 530)]) (st' := [.int (iI k)]) rfl ?_
                refine T_p xr_201_59 xn_201 (pc' := 61) (ls' := [(6, .int (iI k)), (5, .int (iI e)), (4, .int (iI d)), (3, .int (iI c)), (2, .int (iI b_)), (1, .int (iI a)), (0, .ref 530)]) (st' := [.int (iI 16), .int (iI k)]) rfl ?_
                refine T_zicmp_ge xr_201_61 (t := 69) (pc' := 64) rfl rfl (fun c2291 => ?_) (fun c2291 => ?_)
                · skip
                  have c2291 : 16 ≤ k := c2291
                  refine T_p xr_201_69 xn_201 (pc' := 71) (ls' := [(6, .int (iI k)), (5, .int (iI e)), (4, .int (iI d)), (3, .int (iI c)), (2, .int (iI b_)), (1, .int (iI a)), (0, .ref 530)]) (st' := [.int (iI e)]) rfl ?_
                  refine T_ie (y := iI (if k < 4 then a else if k < 8 then b_ else if k < 12 then c else if k < 16 then d else e)) (by refine congrArg iI (Eq.symm ?_); (repeat (first | rw [if_pos (by omega)] | rw [if_neg (by omega)]))) ?_
                  exact J2282
                · skip
                  have c2291 : ¬ (16 ≤ k) := c2291
                  refine T_p xr_201_64 xn_201 (pc' := 66) (ls' := [(6, .int (iI k)), (5, .int (iI e)), (4, .int (iI d)), (3, .int (iI c)), (2, .int (iI b_)), (1, .int (iI a)), (0, .ref 530)]) (st' := [.int (iI d)]) rfl ?_
                  refine T_p xr_201_66 xn_201 (pc' := 71) (ls' := [(6, .int (iI k)), (5, .int (iI e)), (4, .int (iI d)), (3, .int (iI c)), (2, .int (iI b_)), (1, .int (iI a)), (0, .ref 530)]) (st' := [.int (iI d)]) rfl ?_
                  refine T_ie (y := iI (if k < 4 then a else if k < 8 then b_ else if k < 12 then c else if k < 16 then d else e)) (by refine congrArg iI (Eq.symm ?_); (repeat (first | rw [if_pos (by omega)] | rw [if_neg (by omega)]))) ?_
                  exact J2282
              · skip
                have c2290 : ¬ (12 ≤ k) := c2290
                refine T_p xr_201_53 xn_201 (pc' := 54) (ls' := [(6, .int (iI k)), (5, .int (iI e)), (4, .int (iI d)), (3, .int (iI c)), (2, .int (iI b_)), (1, .int (iI a)), (0, .ref 530)]) (st' := [.int (iI c)]) rfl ?_
                refine T_p xr_201_54 xn_201 (pc' := 71) (ls' := [(6, .int (iI k)), (5, .int (iI e)), (4, .int (iI d)), (3, .int (iI c)), (2, .int (iI b_)), (1, .int (iI a)), (0, .ref 530)]) (st' := [.int (iI c)]) rfl ?_
                refine T_ie (y := iI (if k < 4 then a else if k < 8 then b_ else if k < 12 then c else if k < 16 then d else e)) (by refine congrArg iI (Eq.symm ?_); (repeat (first | rw [if_pos (by omega)] | rw [if_neg (by omega)]))) ?_
                exact J2282
            · skip
              have c2289 : ¬ (8 ≤ k) := c2289
              refine T_p xr_201_42 xn_201 (pc' := 43) (ls' := [(6, .int (iI k)), (5, .int (iI e)), (4, .int (iI d)), (3, .int (iI c)), (2, .int (iI b_)), (1, .int (iI a)), (0, .ref 530)]) (st' := [.int (iI b_)]) rfl ?_
              refine T_p xr_201_43 xn_201 (pc' := 71) (ls' := [(6, .int (iI k)), (5, .int (iI e)), (4, .int (iI d)), (3, .int (iI c)), (2, .int (iI b_)), (1, .int (iI a)), (0, .ref 530)]) (st' := [.int (iI b_)]) rfl ?_
              refine T_ie (y := iI (if k < 4 then a else if k < 8 then b_ else if k < 12 then c else if k < 16 then d else e)) (by refine congrArg iI (Eq.symm ?_); (repeat (first | rw [if_pos (by omega)] | rw [if_neg (by omega)]))) ?_
              exact J2282
          · skip
            have c2288 : ¬ (4 ≤ k) := c2288
            refine T_p xr_201_31 xn_201 (pc' := 32) (ls' := [(6, .int (iI k)), (5, .int (iI e)), (4, .int (iI d)), (3, .int (iI c)), (2, .int (iI b_)), (1, .int (iI a)), (0, .ref 530)]) (st' := [.int (iI a)]) rfl ?_
            refine T_p xr_201_32 xn_201 (pc' := 71) (ls' := [(6, .int (iI k)), (5, .int (iI e)), (4, .int (iI d)), (3, .int (iI c)), (2, .int (iI b_)), (1, .int (iI a)), (0, .ref 530)]) (st' := [.int (iI a)]) rfl ?_
            refine T_ie (y := iI (if k < 4 then a else if k < 8 then b_ else if k < 12 then c else if k < 16 then d else e)) (by refine congrArg iI (Eq.symm ?_); (repeat (first | rw [if_pos (by omega)] | rw [if_neg (by omega)]))) ?_
            exact J2282
    refine T_sub (ls := [(6, .int (iI 0)), (5, .int (iI e)), (4, .int (iI d)), (3, .int (iI c)), (2, .int (iI b_)), (1, .int (iI a)), (0, .ref 530)]) ⟨rfl, rfl, rfl, rfl, rfl, rfl, rfl, trivial⟩ rfl rfl ?_
    exact L2269 ((20 : Int) + 1).toNat S 0 tp hA531 ((X_Fr.rf)) (by omega) (fun q h1 h2 => rfl) (fun m h1 h2 => absurd h2 (by omega)) (by omega)
  · skip
    have c2268 : ¬ ((len + 20) ≤ 2000) := c2268
    refine T_p xr_201_13 xn_201 (pc' := 14) (ls' := [(0, .ref 530), (1, .int (iI a)), (2, .int (iI b_)), (3, .int (iI c)), (4, .int (iI d)), (5, .int (iI e))]) (st' := [.int (iI (-1))]) rfl ?_
    refine T_iret xr_201_14 xf_201.2.2 rfl ?_
    refine hQ _ _ ?_
    exact Or.inl ⟨rfl, (by omega), rfl⟩
theorem r_end (sc : X_Sc) (S : X_S) (o : Nat → Int) (nm : Int64) (b : Int) (rc : Int) (G : X_G) (tn : Int) (len : Int) (n : Int) (hO530 : S.1 530 = .inr (11, [.ref 531, .int (iI len), .ref 532, .int (iI (o 3)), .int (iI b), .int (iI (o 5)), .int (iI (o 6)), .int (iI (o 7)), .int (iI (o 8)), .int (iI (o 9)), .int (iI (o 10)), .int (iI (o 11)), .long nm, .ref 533, .ref 534, .ref 535, .ref 536, .ref 537, .ref 538, .ref 539, .ref 540, .ref 541, .ref 542, .ref 543, .ref 544, .ref 545, .ref 546, .ref 547, .int (iI rc), .int (iI (gk G)), .int (iI (gw G)), .int (iI (o 31)), .int (iI (o 32)), .int (iI (o 33)), .ref 548, .ref 549, .ref 550, .ref 551, .int (iI tn), .ref 552, .ref 553, .ref 554, .ref 555, .ref 556, .ref 557, .ref 558, .ref 559, .ref 560, .ref 561, .int (iI (o 49)), .ref 562, .ref 563, .ref 564, .ref 565, .ref 566, .ref 567, .ref 568, .ref 569, .int (iI (o 58)), .ref 570, .ref 571, .ref 572, .ref 573, .ref 574, .ref 575, .ref 576, .ref 577, .ref 578, .int (iI (o 68)), .int (iI (o 69)), .int (iI (o 70)), .ref 579])) (hl : 0 ≤ len ∧ len ≤ 2000) (hn : -2147483648 ≤ n ∧ n ≤ 2147483647) : X_T sc 202 (0, [(0, .ref 530), (1, .int (iI n))], [], S) (fun v S' => (v = some (.int (iI (-1))) ∧ (n < 0 ∨ len < n) ∧ S' = S) ∨ (v = some (.int (iI n)) ∧ (0 ≤ n ∧ n ≤ len) ∧ S'.1 530 = .inr (11, [.ref 531, .int (iI n), .ref 532, .int (iI (o 3)), .int (iI b), .int (iI (o 5)), .int (iI (o 6)), .int (iI (o 7)), .int (iI (o 8)), .int (iI (o 9)), .int (iI (o 10)), .int (iI (o 11)), .long nm, .ref 533, .ref 534, .ref 535, .ref 536, .ref 537, .ref 538, .ref 539, .ref 540, .ref 541, .ref 542, .ref 543, .ref 544, .ref 545, .ref 546, .ref 547, .int (iI rc), .int (iI (gk G)), .int (iI (gw G)), .int (iI (o 31)), .int (iI (o 32)), .int (iI (o 33)), .ref 548, .ref 549, .ref 550, .ref 551, .int (iI tn), .ref 552, .ref 553, .ref 554, .ref 555, .ref 556, .ref 557, .ref 558, .ref 559, .ref 560, .ref 561, .int (iI (o 49)), .ref 562, .ref 563, .ref 564, .ref 565, .ref 566, .ref 567, .ref 568, .ref 569, .int (iI (o 58)), .ref 570, .ref 571, .ref 572, .ref 573, .ref 574, .ref 575, .ref 576, .ref 577, .ref 578, .int (iI (o 68)), .int (iI (o 69)), .int (iI (o 70)), .ref 579]) ∧ X_Fr (fun q => q = 530) S S')) := by
  refine X_QI (fun Q hQ => ?_)
  refine T_p xr_202_0 xn_202 (pc' := 1) (ls' := [(0, .ref 530), (1, .int (iI n))]) (st' := [.int (iI n)]) rfl ?_
  refine T_zif_lt xr_202_1 (t := 12) (pc' := 4) rfl rfl (fun c2292 => ?_) (fun c2292 => ?_)
  · skip
    have c2292 : n < 0 := c2292
    refine T_p xr_202_12 xn_202 (pc' := 13) (ls' := [(0, .ref 530), (1, .int (iI n))]) (st' := [.int (iI (-1))]) rfl ?_
    refine T_iret xr_202_13 xf_202.2.2 rfl ?_
    refine hQ _ _ ?_
    exact Or.inl ⟨rfl, (by omega), rfl⟩
  · skip
    have c2292 : ¬ (n < 0) := c2292
    refine T_p xr_202_4 xn_202 (pc' := 5) (ls' := [(0, .ref 530), (1, .int (iI n))]) (st' := [.int (iI n)]) rfl ?_
    refine T_p xr_202_5 xn_202 (pc' := 6) (ls' := [(0, .ref 530), (1, .int (iI n))]) (st' := [.ref 530, .int (iI n)]) rfl ?_
    refine T_get xr_202_6 hO530 rfl (v := .int (iI len)) rfl (pc' := 9) rfl ?_
    refine T_zicmp_le xr_202_9 (t := 14) (pc' := 12) rfl rfl (fun c2293 => ?_) (fun c2293 => ?_)
    · skip
      have c2293 : n ≤ len := c2293
      refine T_p xr_202_14 xn_202 (pc' := 15) (ls' := [(0, .ref 530), (1, .int (iI n))]) (st' := [.ref 530]) rfl ?_
      refine T_p xr_202_15 xn_202 (pc' := 16) (ls' := [(0, .ref 530), (1, .int (iI n))]) (st' := [.int (iI n), .ref 530]) rfl ?_
      refine T_put xr_202_16 hO530 rfl (Nat.le_of_ble_eq_true rfl) rfl (fs' := [.ref 531, .int (iI n), .ref 532, .int (iI (o 3)), .int (iI b), .int (iI (o 5)), .int (iI (o 6)), .int (iI (o 7)), .int (iI (o 8)), .int (iI (o 9)), .int (iI (o 10)), .int (iI (o 11)), .long nm, .ref 533, .ref 534, .ref 535, .ref 536, .ref 537, .ref 538, .ref 539, .ref 540, .ref 541, .ref 542, .ref 543, .ref 544, .ref 545, .ref 546, .ref 547, .int (iI rc), .int (iI (gk G)), .int (iI (gw G)), .int (iI (o 31)), .int (iI (o 32)), .int (iI (o 33)), .ref 548, .ref 549, .ref 550, .ref 551, .int (iI tn), .ref 552, .ref 553, .ref 554, .ref 555, .ref 556, .ref 557, .ref 558, .ref 559, .ref 560, .ref 561, .int (iI (o 49)), .ref 562, .ref 563, .ref 564, .ref 565, .ref 566, .ref 567, .ref 568, .ref 569, .int (iI (o 58)), .ref 570, .ref 571, .ref 572, .ref 573, .ref 574, .ref 575, .ref 576, .ref 577, .ref 578, .int (iI (o 68)), .int (iI (o 69)), .int (iI (o 70)), .ref 579]) rfl (pc' := 19) rfl (fun S2294 h2295 n2296 e2297 => ?_)
      refine T_p xr_202_19 xn_202 (pc' := 20) (ls' := [(0, .ref 530), (1, .int (iI n))]) (st' := [.int (iI n)]) rfl ?_
      refine T_iret xr_202_20 xf_202.2.2 rfl ?_
      refine hQ _ _ ?_
      exact Or.inr ⟨rfl, (by omega), h2295, (X_Fr.rf).tr (X_Fr.of n2296 e2297 (by omega))⟩
    · skip
      have c2293 : ¬ (n ≤ len) := c2293
      refine T_p xr_202_12 xn_202 (pc' := 13) (ls' := [(0, .ref 530), (1, .int (iI n))]) (st' := [.int (iI (-1))]) rfl ?_
      refine T_iret xr_202_13 xf_202.2.2 rfl ?_
      refine hQ _ _ ?_
      exact Or.inl ⟨rfl, (by omega), rfl⟩
theorem r_fault (sc : X_Sc) (S : X_S) (o : Nat → Int) (nm : Int64) (b : Int) (rc : Int) (G : X_G) (tn : Int) (w : Int) (hO530 : S.1 530 = .inr (11, [.ref 531, .int (iI (o 1)), .ref 532, .int (iI (o 3)), .int (iI b), .int (iI (o 5)), .int (iI (o 6)), .int (iI (o 7)), .int (iI (o 8)), .int (iI (o 9)), .int (iI (o 10)), .int (iI (o 11)), .long nm, .ref 533, .ref 534, .ref 535, .ref 536, .ref 537, .ref 538, .ref 539, .ref 540, .ref 541, .ref 542, .ref 543, .ref 544, .ref 545, .ref 546, .ref 547, .int (iI rc), .int (iI (gk G)), .int (iI (gw G)), .int (iI (o 31)), .int (iI (o 32)), .int (iI (o 33)), .ref 548, .ref 549, .ref 550, .ref 551, .int (iI tn), .ref 552, .ref 553, .ref 554, .ref 555, .ref 556, .ref 557, .ref 558, .ref 559, .ref 560, .ref 561, .int (iI (o 49)), .ref 562, .ref 563, .ref 564, .ref 565, .ref 566, .ref 567, .ref 568, .ref 569, .int (iI (o 58)), .ref 570, .ref 571, .ref 572, .ref 573, .ref 574, .ref 575, .ref 576, .ref 577, .ref 578, .int (iI (o 68)), .int (iI (o 69)), .int (iI (o 70)), .ref 579])) (hw : -2147483648 ≤ w ∧ w ≤ 2147483647) : X_T sc 163 (0, [(0, .ref 530), (1, .int (iI w))], [], S) (fun v S' => ∃ (r : Int), v = some (.int (iI r)) ∧ S' = S) := by
  refine X_QI (fun Q hQ => ?_)
  refine T_p xr_163_0 xn_163 (pc' := 1) (ls' := [(0, .ref 530), (1, .int (iI w))]) (st' := [.int (iI w)]) rfl ?_
  refine T_zif_ne xr_163_1 (t := 11) (pc' := 4) rfl rfl (fun c2298 => ?_) (fun c2298 => ?_)
  · skip
    have c2298 : ¬ w = 0 := c2298
    refine T_p xr_163_11 xn_163 (pc' := 12) (ls' := [(0, .ref 530), (1, .int (iI w))]) (st' := [.int (iI w)]) rfl ?_
    refine T_p xr_163_12 xn_163 (pc' := 13) (ls' := [(0, .ref 530), (1, .int (iI w))]) (st' := [.int (iI 1), .int (iI w)]) rfl ?_
    refine T_zicmp_ne xr_163_13 (t := 23) (pc' := 16) rfl rfl (fun c2299 => ?_) (fun c2299 => ?_)
    · skip
      have c2299 : ¬ w = 1 := c2299
      refine T_p xr_163_23 xn_163 (pc' := 24) (ls' := [(0, .ref 530), (1, .int (iI w))]) (st' := [.int (iI (-1))]) rfl ?_
      refine T_iret xr_163_24 xf_163.2.2 rfl ?_
      refine hQ _ _ ?_
      exact ⟨(-1), rfl, rfl⟩
    · skip
      have c2299 : ¬ (¬ w = 1) := c2299
      refine T_p xr_163_16 xn_163 (pc' := 17) (ls' := [(0, .ref 530), (1, .int (iI w))]) (st' := [.ref 530]) rfl ?_
      refine T_get xr_163_17 hO530 rfl (v := .int (iI (o 6))) rfl (pc' := 20) rfl ?_
      refine T_p xr_163_20 xn_163 (pc' := 24) (ls' := [(0, .ref 530), (1, .int (iI w))]) (st' := [.int (iI (o 6))]) rfl ?_
      refine T_iret xr_163_24 xf_163.2.2 rfl ?_
      refine hQ _ _ ?_
      exact ⟨o 6, rfl, rfl⟩
  · skip
    have c2298 : ¬ (¬ w = 0) := c2298
    refine T_p xr_163_4 xn_163 (pc' := 5) (ls' := [(0, .ref 530), (1, .int (iI w))]) (st' := [.ref 530]) rfl ?_
    refine T_get xr_163_5 hO530 rfl (v := .int (iI (o 5))) rfl (pc' := 8) rfl ?_
    refine T_p xr_163_8 xn_163 (pc' := 24) (ls' := [(0, .ref 530), (1, .int (iI w))]) (st' := [.int (iI (o 5))]) rfl ?_
    refine T_iret xr_163_24 xf_163.2.2 rfl ?_
    refine hQ _ _ ?_
    exact ⟨o 5, rfl, rfl⟩
theorem r_about (sc : X_Sc) (S : X_S) (o : Nat → Int) (nm : Int64) (b : Int) (rc : Int) (G : X_G) (tn : Int) (nc : Int) (len : Int) (w : Int) (hO530 : S.1 530 = .inr (11, [.ref 531, .int (iI len), .ref 532, .int (iI (o 3)), .int (iI b), .int (iI (o 5)), .int (iI (o 6)), .int (iI (o 7)), .int (iI (o 8)), .int (iI (o 9)), .int (iI (o 10)), .int (iI (o 11)), .long nm, .ref 533, .ref 534, .ref 535, .ref 536, .ref 537, .ref 538, .ref 539, .ref 540, .ref 541, .ref 542, .ref 543, .ref 544, .ref 545, .ref 546, .ref 547, .int (iI rc), .int (iI (gk G)), .int (iI (gw G)), .int (iI (o 31)), .int (iI (o 32)), .int (iI (o 33)), .ref 548, .ref 549, .ref 550, .ref 551, .int (iI tn), .ref 552, .ref 553, .ref 554, .ref 555, .ref 556, .ref 557, .ref 558, .ref 559, .ref 560, .ref 561, .int (iI nc), .ref 562, .ref 563, .ref 564, .ref 565, .ref 566, .ref 567, .ref 568, .ref 569, .int (iI (o 58)), .ref 570, .ref 571, .ref 572, .ref 573, .ref 574, .ref 575, .ref 576, .ref 577, .ref 578, .int (iI (o 68)), .int (iI (o 69)), .int (iI (o 70)), .ref 579])) (hw : -2147483648 ≤ w ∧ w ≤ 2147483647) : X_T sc 164 (0, [(0, .ref 530), (1, .int (iI w))], [], S) (fun v S' => v = some (.int (iI (X_qAb rc (gk G) (gw G) tn nc len w))) ∧ S' = S) := by
  refine X_QI (fun Q hQ => ?_)
  refine T_p xr_164_0 xn_164 (pc' := 1) (ls' := [(0, .ref 530), (1, .int (iI w))]) (st' := [.int (iI w)]) rfl ?_
  rcases (show w = 0 ∨ w = 1 ∨ w = 2 ∨ w = 3 ∨ w = 4 ∨ w = 5 ∨ (w < 0 ∨ 5 < w) by omega) with cs2300 | cs2300 | cs2300 | cs2300 | cs2300 | cs2300 | cs2300
  · skip
    refine T_tsk xr_164_1 cs2300 (by decide) (by decide) (off := 39) rfl (t := 40) rfl ?_
    refine T_p xr_164_40 xn_164 (pc' := 41) (ls' := [(0, .ref 530), (1, .int (iI w))]) (st' := [.ref 530]) rfl ?_
    refine T_get xr_164_41 hO530 rfl (v := .int (iI rc)) rfl (pc' := 44) rfl ?_
    refine T_iret xr_164_44 xf_164.2.2 rfl ?_
    refine hQ _ _ ?_
    exact ⟨(by rw [show X_qAb rc (gk G) (gw G) tn nc len w = rc from by unfold X_qAb; (repeat (first | rw [if_pos (by omega)] | rw [if_neg (by omega)]))]), rfl⟩
  · skip
    refine T_tsk xr_164_1 cs2300 (by decide) (by decide) (off := 44) rfl (t := 45) rfl ?_
    refine T_p xr_164_45 xn_164 (pc' := 46) (ls' := [(0, .ref 530), (1, .int (iI w))]) (st' := [.ref 530]) rfl ?_
    refine T_get xr_164_46 hO530 rfl (v := .int (iI (gk G))) rfl (pc' := 49) rfl ?_
    refine T_iret xr_164_49 xf_164.2.2 rfl ?_
    refine hQ _ _ ?_
    exact ⟨(by rw [show X_qAb rc (gk G) (gw G) tn nc len w = gk G from by unfold X_qAb; (repeat (first | rw [if_pos (by omega)] | rw [if_neg (by omega)]))]), rfl⟩
  · skip
    refine T_tsk xr_164_1 cs2300 (by decide) (by decide) (off := 49) rfl (t := 50) rfl ?_
    refine T_p xr_164_50 xn_164 (pc' := 51) (ls' := [(0, .ref 530), (1, .int (iI w))]) (st' := [.ref 530]) rfl ?_
    refine T_get xr_164_51 hO530 rfl (v := .int (iI (gw G))) rfl (pc' := 54) rfl ?_
    refine T_iret xr_164_54 xf_164.2.2 rfl ?_
    refine hQ _ _ ?_
    exact ⟨(by rw [show X_qAb rc (gk G) (gw G) tn nc len w = gw G from by unfold X_qAb; (repeat (first | rw [if_pos (by omega)] | rw [if_neg (by omega)]))]), rfl⟩
  · skip
    refine T_tsk xr_164_1 cs2300 (by decide) (by decide) (off := 54) rfl (t := 55) rfl ?_
    refine T_p xr_164_55 xn_164 (pc' := 56) (ls' := [(0, .ref 530), (1, .int (iI w))]) (st' := [.ref 530]) rfl ?_
    refine T_get xr_164_56 hO530 rfl (v := .int (iI tn)) rfl (pc' := 59) rfl ?_
    refine T_iret xr_164_59 xf_164.2.2 rfl ?_
    refine hQ _ _ ?_
    exact ⟨(by rw [show X_qAb rc (gk G) (gw G) tn nc len w = tn from by unfold X_qAb; (repeat (first | rw [if_pos (by omega)] | rw [if_neg (by omega)]))]), rfl⟩
  · skip
    refine T_tsk xr_164_1 cs2300 (by decide) (by decide) (off := 59) rfl (t := 60) rfl ?_
    refine T_p xr_164_60 xn_164 (pc' := 61) (ls' := [(0, .ref 530), (1, .int (iI w))]) (st' := [.ref 530]) rfl ?_
    refine T_get xr_164_61 hO530 rfl (v := .int (iI nc)) rfl (pc' := 64) rfl ?_
    refine T_iret xr_164_64 xf_164.2.2 rfl ?_
    refine hQ _ _ ?_
    exact ⟨(by rw [show X_qAb rc (gk G) (gw G) tn nc len w = nc from by unfold X_qAb; (repeat (first | rw [if_pos (by omega)] | rw [if_neg (by omega)]))]), rfl⟩
  · skip
    refine T_tsk xr_164_1 cs2300 (by decide) (by decide) (off := 64) rfl (t := 65) rfl ?_
    refine T_p xr_164_65 xn_164 (pc' := 66) (ls' := [(0, .ref 530), (1, .int (iI w))]) (st' := [.ref 530]) rfl ?_
    refine T_get xr_164_66 hO530 rfl (v := .int (iI len)) rfl (pc' := 69) rfl ?_
    refine T_iret xr_164_69 xf_164.2.2 rfl ?_
    refine hQ _ _ ?_
    exact ⟨(by rw [show X_qAb rc (gk G) (gw G) tn nc len w = len from by unfold X_qAb; (repeat (first | rw [if_pos (by omega)] | rw [if_neg (by omega)]))]), rfl⟩
  · skip
    refine T_tsd xr_164_1 cs2300 (by omega) (t := 70) rfl ?_
    refine T_p xr_164_70 xn_164 (pc' := 71) (ls' := [(0, .ref 530), (1, .int (iI w))]) (st' := [.int (iI (-1))]) rfl ?_
    refine T_iret xr_164_71 xf_164.2.2 rfl ?_
    refine hQ _ _ ?_
    exact ⟨(by rw [show X_qAb rc (gk G) (gw G) tn nc len w = (-1) from by unfold X_qAb; (repeat (first | rw [if_pos (by omega)] | rw [if_neg (by omega)]))]), rfl⟩
theorem r_word (sc : X_Sc) (S : X_S) (wR : Int → Int) (wL : Int → Int) (wK : Int → Int) (wM : Int → Int) (wH : Int → Int) (wS : Int → Int) (eP : Int → Int64) (o : Nat → Int) (nm : Int64) (b : Int) (rc : Int) (G : X_G) (tn : Int) (w : Int) (wh : Int) (hO530 : S.1 530 = .inr (11, [.ref 531, .int (iI (o 1)), .ref 532, .int (iI (o 3)), .int (iI b), .int (iI (o 5)), .int (iI (o 6)), .int (iI (o 7)), .int (iI (o 8)), .int (iI (o 9)), .int (iI (o 10)), .int (iI (o 11)), .long nm, .ref 533, .ref 534, .ref 535, .ref 536, .ref 537, .ref 538, .ref 539, .ref 540, .ref 541, .ref 542, .ref 543, .ref 544, .ref 545, .ref 546, .ref 547, .int (iI rc), .int (iI (gk G)), .int (iI (gw G)), .int (iI (o 31)), .int (iI (o 32)), .int (iI (o 33)), .ref 548, .ref 549, .ref 550, .ref 551, .int (iI tn), .ref 552, .ref 553, .ref 554, .ref 555, .ref 556, .ref 557, .ref 558, .ref 559, .ref 560, .ref 561, .int (iI (o 49)), .ref 562, .ref 563, .ref 564, .ref 565, .ref 566, .ref 567, .ref 568, .ref 569, .int (iI (o 58)), .ref 570, .ref 571, .ref 572, .ref 573, .ref 574, .ref 575, .ref 576, .ref 577, .ref 578, .int (iI (o 68)), .int (iI (o 69)), .int (iI (o 70)), .ref 579])) (hA537 : S.1 537 = .inl (.int, 60, .inl fun k : Nat => iI (wR (k : Int)))) (hA538 : S.1 538 = .inl (.int, 60, .inl fun k : Nat => iI (wL (k : Int)))) (hA539 : S.1 539 = .inl (.int, 60, .inl fun k : Nat => iI (wK (k : Int)))) (hA540 : S.1 540 = .inl (.int, 60, .inl fun k : Nat => iI (wM (k : Int)))) (hA541 : S.1 541 = .inl (.int, 60, .inl fun k : Nat => iI (wH (k : Int)))) (hA542 : S.1 542 = .inl (.int, 60, .inl fun k : Nat => iI (wS (k : Int)))) (hA545 : S.1 545 = .inl (.long, 480, .inr (.inl fun k : Nat => eP (k : Int)))) (hbr : 0 ≤ b ∧ b ≤ 1) (hG : X_Gok G) (hWR : ∀ w, 0 ≤ w → w < gw G → wR (30 * b + w) = gD G w 0 0) (hWL : ∀ w, 0 ≤ w → w < gw G → wL (30 * b + w) = gD G w 1 0) (hWK : ∀ w, 0 ≤ w → w < gw G → wK (30 * b + w) = gD G w 2 0) (hWM : ∀ w, 0 ≤ w → w < gw G → wM (30 * b + w) = gD G w 3 0) (hWH : ∀ w, 0 ≤ w → w < gw G → wH (30 * b + w) = gD G w 4 0) (hWS : ∀ w, 0 ≤ w → w < gw G → wS (30 * b + w) = gD G w 5 0) (hEP : ∀ w, 0 ≤ w → w < gw G → ∀ e, 0 ≤ e → e < gD G w 3 0 → eP (8 * (30 * b + w) + e) = gW G w e) (hw : -2147483648 ≤ w ∧ w ≤ 2147483647) (hwh : -2147483648 ≤ wh ∧ wh ≤ 2147483647) : X_T sc 166 (0, [(0, .ref 530), (1, .int (iI w)), (2, .int (iI wh))], [], S) (fun v S' => v = some (.int (iI (X_qWd G w wh))) ∧ S' = S) := by
  have hc1 := hG.1
  refine X_QI (fun Q hQ => ?_)
  refine T_p xr_166_0 xn_166 (pc' := 1) (ls' := [(0, .ref 530), (1, .int (iI w)), (2, .int (iI wh))]) (st' := [.ref 530]) rfl ?_
  refine T_p xr_166_1 xn_166 (pc' := 2) (ls' := [(0, .ref 530), (1, .int (iI w)), (2, .int (iI wh))]) (st' := [.int (iI w), .ref 530]) rfl ?_
  refine T_cv (S := S) (q := 530) xr_166_2 xf_165.1 xf_165.2.1 xn_165 (as := [.int (iI w)]) (r := []) rfl hO530 (Nat.le_of_ble_eq_true rfl) (Nat.le_of_ble_eq_true rfl) (pc' := 5) rfl (ls' := [(0, .ref 530), (1, .int (iI w))]) rfl ?_
  refine T_p xr_165_0 xn_165 (pc' := 1) (ls' := [(0, .ref 530), (1, .int (iI w))]) (st' := [.int (iI w)]) rfl ?_
  refine T_zif_lt xr_165_1 (t := 16) (pc' := 4) rfl rfl (fun c2301 => ?_) (fun c2301 => ?_)
  · skip
    have c2301 : w < 0 := c2301
    refine T_p xr_165_16 xn_165 (pc' := 17) (ls' := [(0, .ref 530), (1, .int (iI w))]) (st' := [.int (iI 0)]) rfl ?_
    refine T_iret xr_165_17 xf_165.2.2 (by decide) ?_
    show X_T sc 166 (5, [(0, .ref 530), (1, .int (iI w)), (2, .int (iI wh))], [.int (iI 0)], S) _
    refine T_zif_nef xr_166_5 (t := 10) (pc' := 8) rfl rfl (by decide) ?_
    refine T_p xr_166_8 xn_166 (pc' := 9) (ls' := [(0, .ref 530), (1, .int (iI w)), (2, .int (iI wh))]) (st' := [.int (iI (-1))]) rfl ?_
    refine T_iret xr_166_9 xf_166.2.2 rfl ?_
    refine hQ _ _ ?_
    exact ⟨(by rw [show X_qWd G w wh = (-1) from by unfold X_qWd; (repeat (first | rw [if_pos (by omega)] | rw [if_neg (by omega)]))]), rfl⟩
  · skip
    have c2301 : ¬ (w < 0) := c2301
    refine T_p xr_165_4 xn_165 (pc' := 5) (ls' := [(0, .ref 530), (1, .int (iI w))]) (st' := [.int (iI w)]) rfl ?_
    refine T_p xr_165_5 xn_165 (pc' := 6) (ls' := [(0, .ref 530), (1, .int (iI w))]) (st' := [.ref 530, .int (iI w)]) rfl ?_
    refine T_get xr_165_6 hO530 rfl (v := .int (iI (gw G))) rfl (pc' := 9) rfl ?_
    refine T_zicmp_ge xr_165_9 (t := 16) (pc' := 12) rfl rfl (fun c2302 => ?_) (fun c2302 => ?_)
    · skip
      have c2302 : (gw G) ≤ w := c2302
      refine T_p xr_165_16 xn_165 (pc' := 17) (ls' := [(0, .ref 530), (1, .int (iI w))]) (st' := [.int (iI 0)]) rfl ?_
      refine T_iret xr_165_17 xf_165.2.2 (by decide) ?_
      show X_T sc 166 (5, [(0, .ref 530), (1, .int (iI w)), (2, .int (iI wh))], [.int (iI 0)], S) _
      refine T_zif_nef xr_166_5 (t := 10) (pc' := 8) rfl rfl (by decide) ?_
      refine T_p xr_166_8 xn_166 (pc' := 9) (ls' := [(0, .ref 530), (1, .int (iI w)), (2, .int (iI wh))]) (st' := [.int (iI (-1))]) rfl ?_
      refine T_iret xr_166_9 xf_166.2.2 rfl ?_
      refine hQ _ _ ?_
      exact ⟨(by rw [show X_qWd G w wh = (-1) from by unfold X_qWd; (repeat (first | rw [if_pos (by omega)] | rw [if_neg (by omega)]))]), rfl⟩
    · skip
      have c2302 : ¬ ((gw G) ≤ w) := c2302
      refine T_p xr_165_12 xn_165 (pc' := 13) (ls' := [(0, .ref 530), (1, .int (iI w))]) (st' := [.int (iI 1)]) rfl ?_
      refine T_p xr_165_13 xn_165 (pc' := 17) (ls' := [(0, .ref 530), (1, .int (iI w))]) (st' := [.int (iI 1)]) rfl ?_
      refine T_iret xr_165_17 xf_165.2.2 (by decide) ?_
      show X_T sc 166 (5, [(0, .ref 530), (1, .int (iI w)), (2, .int (iI wh))], [.int (iI 1)], S) _
      refine T_zif_net xr_166_5 (t := 10) rfl (by decide) ?_
      refine T_p xr_166_10 xn_166 (pc' := 12) (ls' := [(0, .ref 530), (1, .int (iI w)), (2, .int (iI wh))]) (st' := [.int (iI 30)]) rfl ?_
      refine T_p xr_166_12 xn_166 (pc' := 13) (ls' := [(0, .ref 530), (1, .int (iI w)), (2, .int (iI wh))]) (st' := [.ref 530, .int (iI 30)]) rfl ?_
      refine T_get xr_166_13 hO530 rfl (v := .int (iI b)) rfl (pc' := 16) rfl ?_
      refine T_zimul xr_166_16 (z := 30 * b) rfl (pc' := 17) rfl ?_
      refine T_p xr_166_17 xn_166 (pc' := 18) (ls' := [(0, .ref 530), (1, .int (iI w)), (2, .int (iI wh))]) (st' := [.int (iI w), .int (iI (30 * b))]) rfl ?_
      refine T_ziadd xr_166_18 (z := (30 * b) + w) rfl (pc' := 19) rfl ?_
      refine T_p xr_166_19 xn_166 (pc' := 20) (ls' := [(3, .int (iI ((30 * b) + w))), (0, .ref 530), (1, .int (iI w)), (2, .int (iI wh))]) (st' := []) rfl ?_
      refine T_p xr_166_20 xn_166 (pc' := 21) (ls' := [(3, .int (iI ((30 * b) + w))), (0, .ref 530), (1, .int (iI w)), (2, .int (iI wh))]) (st' := [.int (iI wh)]) rfl ?_
      rcases (show wh = 0 ∨ wh = 1 ∨ wh = 2 ∨ wh = 3 ∨ wh = 4 ∨ wh = 5 ∨ wh = 6 ∨ (wh < 0 ∨ 6 < wh) by omega) with cs2303 | cs2303 | cs2303 | cs2303 | cs2303 | cs2303 | cs2303 | cs2303
      · skip
        refine T_tsk xr_166_21 cs2303 (by decide) (by decide) (off := 43) rfl (t := 64) rfl ?_
        refine T_p xr_166_64 xn_166 (pc' := 65) (ls' := [(3, .int (iI ((30 * b) + w))), (0, .ref 530), (1, .int (iI w)), (2, .int (iI wh))]) (st' := [.ref 530]) rfl ?_
        refine T_get xr_166_65 hO530 rfl (v := .ref 537) rfl (pc' := 68) rfl ?_
        refine T_p xr_166_68 xn_166 (pc' := 69) (ls' := [(3, .int (iI ((30 * b) + w))), (0, .ref 530), (1, .int (iI w)), (2, .int (iI wh))]) (st' := [.int (iI ((30 * b) + w)), .ref 537]) rfl ?_
        refine T_ziald xr_166_69 hA537 (pc' := 70) rfl ?_
        refine T_ie (y := iI (gD G w 0 0)) (by rw [hWR w (by omega) (by omega)]) ?_
        refine T_iret xr_166_70 xf_166.2.2 rfl ?_
        refine hQ _ _ ?_
        exact ⟨(by rw [show X_qWd G w wh = gD G w 0 0 from by unfold X_qWd; (repeat (first | rw [if_pos (by omega)] | rw [if_neg (by omega)]))]), rfl⟩
      · skip
        refine T_tsk xr_166_21 cs2303 (by decide) (by decide) (off := 50) rfl (t := 71) rfl ?_
        refine T_p xr_166_71 xn_166 (pc' := 72) (ls' := [(3, .int (iI ((30 * b) + w))), (0, .ref 530), (1, .int (iI w)), (2, .int (iI wh))]) (st' := [.ref 530]) rfl ?_
        refine T_get xr_166_72 hO530 rfl (v := .ref 538) rfl (pc' := 75) rfl ?_
        refine T_p xr_166_75 xn_166 (pc' := 76) (ls' := [(3, .int (iI ((30 * b) + w))), (0, .ref 530), (1, .int (iI w)), (2, .int (iI wh))]) (st' := [.int (iI ((30 * b) + w)), .ref 538]) rfl ?_
        refine T_ziald xr_166_76 hA538 (pc' := 77) rfl ?_
        refine T_ie (y := iI (gD G w 1 0)) (by rw [hWL w (by omega) (by omega)]) ?_
        refine T_iret xr_166_77 xf_166.2.2 rfl ?_
        refine hQ _ _ ?_
        exact ⟨(by rw [show X_qWd G w wh = gD G w 1 0 from by unfold X_qWd; (repeat (first | rw [if_pos (by omega)] | rw [if_neg (by omega)]))]), rfl⟩
      · skip
        refine T_tsk xr_166_21 cs2303 (by decide) (by decide) (off := 57) rfl (t := 78) rfl ?_
        refine T_p xr_166_78 xn_166 (pc' := 79) (ls' := [(3, .int (iI ((30 * b) + w))), (0, .ref 530), (1, .int (iI w)), (2, .int (iI wh))]) (st' := [.ref 530]) rfl ?_
        refine T_get xr_166_79 hO530 rfl (v := .ref 539) rfl (pc' := 82) rfl ?_
        refine T_p xr_166_82 xn_166 (pc' := 83) (ls' := [(3, .int (iI ((30 * b) + w))), (0, .ref 530), (1, .int (iI w)), (2, .int (iI wh))]) (st' := [.int (iI ((30 * b) + w)), .ref 539]) rfl ?_
        refine T_ziald xr_166_83 hA539 (pc' := 84) rfl ?_
        refine T_ie (y := iI (gD G w 2 0)) (by rw [hWK w (by omega) (by omega)]) ?_
        refine T_iret xr_166_84 xf_166.2.2 rfl ?_
        refine hQ _ _ ?_
        exact ⟨(by rw [show X_qWd G w wh = gD G w 2 0 from by unfold X_qWd; (repeat (first | rw [if_pos (by omega)] | rw [if_neg (by omega)]))]), rfl⟩
      · skip
        refine T_tsk xr_166_21 cs2303 (by decide) (by decide) (off := 64) rfl (t := 85) rfl ?_
        refine T_p xr_166_85 xn_166 (pc' := 86) (ls' := [(3, .int (iI ((30 * b) + w))), (0, .ref 530), (1, .int (iI w)), (2, .int (iI wh))]) (st' := [.ref 530]) rfl ?_
        refine T_get xr_166_86 hO530 rfl (v := .ref 540) rfl (pc' := 89) rfl ?_
        refine T_p xr_166_89 xn_166 (pc' := 90) (ls' := [(3, .int (iI ((30 * b) + w))), (0, .ref 530), (1, .int (iI w)), (2, .int (iI wh))]) (st' := [.int (iI ((30 * b) + w)), .ref 540]) rfl ?_
        refine T_ziald xr_166_90 hA540 (pc' := 91) rfl ?_
        refine T_ie (y := iI (gD G w 3 0)) (by rw [hWM w (by omega) (by omega)]) ?_
        refine T_iret xr_166_91 xf_166.2.2 rfl ?_
        refine hQ _ _ ?_
        exact ⟨(by rw [show X_qWd G w wh = gD G w 3 0 from by unfold X_qWd; (repeat (first | rw [if_pos (by omega)] | rw [if_neg (by omega)]))]), rfl⟩
      · skip
        refine T_tsk xr_166_21 cs2303 (by decide) (by decide) (off := 71) rfl (t := 92) rfl ?_
        refine T_p xr_166_92 xn_166 (pc' := 93) (ls' := [(3, .int (iI ((30 * b) + w))), (0, .ref 530), (1, .int (iI w)), (2, .int (iI wh))]) (st' := [.ref 530]) rfl ?_
        refine T_get xr_166_93 hO530 rfl (v := .ref 541) rfl (pc' := 96) rfl ?_
        refine T_p xr_166_96 xn_166 (pc' := 97) (ls' := [(3, .int (iI ((30 * b) + w))), (0, .ref 530), (1, .int (iI w)), (2, .int (iI wh))]) (st' := [.int (iI ((30 * b) + w)), .ref 541]) rfl ?_
        refine T_ziald xr_166_97 hA541 (pc' := 98) rfl ?_
        refine T_ie (y := iI (gD G w 4 0)) (by rw [hWH w (by omega) (by omega)]) ?_
        refine T_iret xr_166_98 xf_166.2.2 rfl ?_
        refine hQ _ _ ?_
        exact ⟨(by rw [show X_qWd G w wh = gD G w 4 0 from by unfold X_qWd; (repeat (first | rw [if_pos (by omega)] | rw [if_neg (by omega)]))]), rfl⟩
      · skip
        refine T_tsk xr_166_21 cs2303 (by decide) (by decide) (off := 78) rfl (t := 99) rfl ?_
        refine T_p xr_166_99 xn_166 (pc' := 100) (ls' := [(3, .int (iI ((30 * b) + w))), (0, .ref 530), (1, .int (iI w)), (2, .int (iI wh))]) (st' := [.ref 530]) rfl ?_
        refine T_p xr_166_100 xn_166 (pc' := 101) (ls' := [(3, .int (iI ((30 * b) + w))), (0, .ref 530), (1, .int (iI w)), (2, .int (iI wh))]) (st' := [.int (iI ((30 * b) + w)), .ref 530]) rfl ?_
        refine T_cv (S := S) (q := 530) xr_166_101 xf_160.1 xf_160.2.1 xn_160 (as := [.int (iI ((30 * b) + w))]) (r := []) rfl hO530 (Nat.le_of_ble_eq_true rfl) (Nat.le_of_ble_eq_true rfl) (pc' := 104) rfl (ls' := [(0, .ref 530), (1, .int (iI ((30 * b) + w)))]) rfl ?_
        refine T_mono (r_ends2 sc S wM eP o nm b rc G tn w hO530 hA540 hA545 (by omega) hG hWM hEP (by omega)) (fun v2304 S2305 h2306 => ?_)
        rcases h2306 with ⟨hv2307, hf2308⟩
        rw [hv2307]
        rw [hf2308]
        have hen2309 := X_en_r (gD G w) (gW G w)
        show X_T sc 166 (104, [(3, .int (iI ((30 * b) + w))), (0, .ref 530), (1, .int (iI w)), (2, .int (iI wh))], [.int (iI (X_en (gD G w) (gW G w)))], S) _
        refine T_iret xr_166_104 xf_166.2.2 rfl ?_
        refine hQ _ _ ?_
        exact ⟨(by rw [show X_qWd G w wh = X_en (gD G w) (gW G w) from by unfold X_qWd; (repeat (first | rw [if_pos (by omega)] | rw [if_neg (by omega)]))]), rfl⟩
      · skip
        refine T_tsk xr_166_21 cs2303 (by decide) (by decide) (off := 84) rfl (t := 105) rfl ?_
        refine T_p xr_166_105 xn_166 (pc' := 106) (ls' := [(3, .int (iI ((30 * b) + w))), (0, .ref 530), (1, .int (iI w)), (2, .int (iI wh))]) (st' := [.ref 530]) rfl ?_
        refine T_get xr_166_106 hO530 rfl (v := .ref 542) rfl (pc' := 109) rfl ?_
        refine T_p xr_166_109 xn_166 (pc' := 110) (ls' := [(3, .int (iI ((30 * b) + w))), (0, .ref 530), (1, .int (iI w)), (2, .int (iI wh))]) (st' := [.int (iI ((30 * b) + w)), .ref 542]) rfl ?_
        refine T_ziald xr_166_110 hA542 (pc' := 111) rfl ?_
        refine T_ie (y := iI (gD G w 5 0)) (by rw [hWS w (by omega) (by omega)]) ?_
        refine T_iret xr_166_111 xf_166.2.2 rfl ?_
        refine hQ _ _ ?_
        exact ⟨(by rw [show X_qWd G w wh = gD G w 5 0 from by unfold X_qWd; (repeat (first | rw [if_pos (by omega)] | rw [if_neg (by omega)]))]), rfl⟩
      · skip
        refine T_tsd xr_166_21 cs2303 (by omega) (t := 112) rfl ?_
        refine T_p xr_166_112 xn_166 (pc' := 113) (ls' := [(3, .int (iI ((30 * b) + w))), (0, .ref 530), (1, .int (iI w)), (2, .int (iI wh))]) (st' := [.int (iI (-1))]) rfl ?_
        refine T_iret xr_166_113 xf_166.2.2 rfl ?_
        refine hQ _ _ ?_
        exact ⟨(by rw [show X_qWd G w wh = (-1) from by unfold X_qWd; (repeat (first | rw [if_pos (by omega)] | rw [if_neg (by omega)]))]), rfl⟩
theorem r_tighter (sc : X_Sc) (S : X_S) (tg : Int → Int) (o : Nat → Int) (nm : Int64) (b : Int) (rc : Int) (G : X_G) (tn : Int) (a : Int) (c : Int) (hO530 : S.1 530 = .inr (11, [.ref 531, .int (iI (o 1)), .ref 532, .int (iI (o 3)), .int (iI b), .int (iI (o 5)), .int (iI (o 6)), .int (iI (o 7)), .int (iI (o 8)), .int (iI (o 9)), .int (iI (o 10)), .int (iI (o 11)), .long nm, .ref 533, .ref 534, .ref 535, .ref 536, .ref 537, .ref 538, .ref 539, .ref 540, .ref 541, .ref 542, .ref 543, .ref 544, .ref 545, .ref 546, .ref 547, .int (iI rc), .int (iI (gk G)), .int (iI (gw G)), .int (iI (o 31)), .int (iI (o 32)), .int (iI (o 33)), .ref 548, .ref 549, .ref 550, .ref 551, .int (iI tn), .ref 552, .ref 553, .ref 554, .ref 555, .ref 556, .ref 557, .ref 558, .ref 559, .ref 560, .ref 561, .int (iI (o 49)), .ref 562, .ref 563, .ref 564, .ref 565, .ref 566, .ref 567, .ref 568, .ref 569, .int (iI (o 58)), .ref 570, .ref 571, .ref 572, .ref 573, .ref 574, .ref 575, .ref 576, .ref 577, .ref 578, .int (iI (o 68)), .int (iI (o 69)), .int (iI (o 70)), .ref 579])) (hA535 : S.1 535 = .inl (.boolean, 288, .inl fun k : Nat => iI (tg (k : Int)))) (hbr : 0 ≤ b ∧ b ≤ 1) (hTG : (∀ i j, 0 ≤ i → i < rc → 0 ≤ j → j < rc → tg (144 * b + 12 * i + j) = bI (X_bt (gl G i) j)) ∧ ∀ w, 0 ≤ w → w < gw G → gD G w 0 0 < rc) (hrc : 0 ≤ rc ∧ rc ≤ 12) (ha : -2147483648 ≤ a ∧ a ≤ 2147483647) (hc : -2147483648 ≤ c ∧ c ≤ 2147483647) : X_T sc 167 (0, [(0, .ref 530), (1, .int (iI a)), (2, .int (iI c))], [], S) (fun v S' => v = some (.int (iI (X_qTi G rc a c))) ∧ S' = S) := by
  refine X_QI (fun Q hQ => ?_)
  refine T_p xr_167_0 xn_167 (pc' := 1) (ls' := [(0, .ref 530), (1, .int (iI a)), (2, .int (iI c))]) (st' := [.int (iI a)]) rfl ?_
  refine T_zif_lt xr_167_1 (t := 24) (pc' := 4) rfl rfl (fun c2310 => ?_) (fun c2310 => ?_)
  · skip
    have c2310 : a < 0 := c2310
    refine T_p xr_167_24 xn_167 (pc' := 25) (ls' := [(0, .ref 530), (1, .int (iI a)), (2, .int (iI c))]) (st' := [.int (iI (-1))]) rfl ?_
    refine T_p xr_167_25 xn_167 (pc' := 42) (ls' := [(0, .ref 530), (1, .int (iI a)), (2, .int (iI c))]) (st' := [.int (iI (-1))]) rfl ?_
    refine T_iret xr_167_42 xf_167.2.2 rfl ?_
    refine hQ _ _ ?_
    exact ⟨(by rw [show X_qTi G rc a c = -1 from by unfold X_qTi; rw [if_neg (by omega)]]), rfl⟩
  · skip
    have c2310 : ¬ (a < 0) := c2310
    refine T_p xr_167_4 xn_167 (pc' := 5) (ls' := [(0, .ref 530), (1, .int (iI a)), (2, .int (iI c))]) (st' := [.int (iI a)]) rfl ?_
    refine T_p xr_167_5 xn_167 (pc' := 6) (ls' := [(0, .ref 530), (1, .int (iI a)), (2, .int (iI c))]) (st' := [.ref 530, .int (iI a)]) rfl ?_
    refine T_get xr_167_6 hO530 rfl (v := .int (iI rc)) rfl (pc' := 9) rfl ?_
    refine T_zicmp_ge xr_167_9 (t := 24) (pc' := 12) rfl rfl (fun c2311 => ?_) (fun c2311 => ?_)
    · skip
      have c2311 : rc ≤ a := c2311
      refine T_p xr_167_24 xn_167 (pc' := 25) (ls' := [(0, .ref 530), (1, .int (iI a)), (2, .int (iI c))]) (st' := [.int (iI (-1))]) rfl ?_
      refine T_p xr_167_25 xn_167 (pc' := 42) (ls' := [(0, .ref 530), (1, .int (iI a)), (2, .int (iI c))]) (st' := [.int (iI (-1))]) rfl ?_
      refine T_iret xr_167_42 xf_167.2.2 rfl ?_
      refine hQ _ _ ?_
      exact ⟨(by rw [show X_qTi G rc a c = -1 from by unfold X_qTi; rw [if_neg (by omega)]]), rfl⟩
    · skip
      have c2311 : ¬ (rc ≤ a) := c2311
      refine T_p xr_167_12 xn_167 (pc' := 13) (ls' := [(0, .ref 530), (1, .int (iI a)), (2, .int (iI c))]) (st' := [.int (iI c)]) rfl ?_
      refine T_zif_lt xr_167_13 (t := 24) (pc' := 16) rfl rfl (fun c2312 => ?_) (fun c2312 => ?_)
      · skip
        have c2312 : c < 0 := c2312
        refine T_p xr_167_24 xn_167 (pc' := 25) (ls' := [(0, .ref 530), (1, .int (iI a)), (2, .int (iI c))]) (st' := [.int (iI (-1))]) rfl ?_
        refine T_p xr_167_25 xn_167 (pc' := 42) (ls' := [(0, .ref 530), (1, .int (iI a)), (2, .int (iI c))]) (st' := [.int (iI (-1))]) rfl ?_
        refine T_iret xr_167_42 xf_167.2.2 rfl ?_
        refine hQ _ _ ?_
        exact ⟨(by rw [show X_qTi G rc a c = -1 from by unfold X_qTi; rw [if_neg (by omega)]]), rfl⟩
      · skip
        have c2312 : ¬ (c < 0) := c2312
        refine T_p xr_167_16 xn_167 (pc' := 17) (ls' := [(0, .ref 530), (1, .int (iI a)), (2, .int (iI c))]) (st' := [.int (iI c)]) rfl ?_
        refine T_p xr_167_17 xn_167 (pc' := 18) (ls' := [(0, .ref 530), (1, .int (iI a)), (2, .int (iI c))]) (st' := [.ref 530, .int (iI c)]) rfl ?_
        refine T_get xr_167_18 hO530 rfl (v := .int (iI rc)) rfl (pc' := 21) rfl ?_
        refine T_zicmp_lt xr_167_21 (t := 28) (pc' := 24) rfl rfl (fun c2313 => ?_) (fun c2313 => ?_)
        · skip
          have c2313 : c < rc := c2313
          refine T_p xr_167_28 xn_167 (pc' := 29) (ls' := [(0, .ref 530), (1, .int (iI a)), (2, .int (iI c))]) (st' := [.ref 530]) rfl ?_
          refine T_p xr_167_29 xn_167 (pc' := 30) (ls' := [(0, .ref 530), (1, .int (iI a)), (2, .int (iI c))]) (st' := [.int (iI a), .ref 530]) rfl ?_
          refine T_p xr_167_30 xn_167 (pc' := 31) (ls' := [(0, .ref 530), (1, .int (iI a)), (2, .int (iI c))]) (st' := [.int (iI c), .int (iI a), .ref 530]) rfl ?_
          refine T_cv (S := S) (q := 530) xr_167_31 xf_154.1 xf_154.2.1 xn_154 (as := [.int (iI a), .int (iI c)]) (r := []) rfl hO530 (Nat.le_of_ble_eq_true rfl) (Nat.le_of_ble_eq_true rfl) (pc' := 34) rfl (ls' := [(0, .ref 530), (1, .int (iI a)), (2, .int (iI c))]) rfl ?_
          refine T_p xr_154_0 xn_154 (pc' := 1) (ls' := [(0, .ref 530), (1, .int (iI a)), (2, .int (iI c))]) (st' := [.ref 530]) rfl ?_
          refine T_get xr_154_1 hO530 rfl (v := .ref 535) rfl (pc' := 4) rfl ?_
          refine T_p xr_154_4 xn_154 (pc' := 7) (ls' := [(0, .ref 530), (1, .int (iI a)), (2, .int (iI c))]) (st' := [.int (iI 144), .ref 535]) rfl ?_
          refine T_p xr_154_7 xn_154 (pc' := 8) (ls' := [(0, .ref 530), (1, .int (iI a)), (2, .int (iI c))]) (st' := [.ref 530, .int (iI 144), .ref 535]) rfl ?_
          refine T_get xr_154_8 hO530 rfl (v := .int (iI b)) rfl (pc' := 11) rfl ?_
          refine T_zimul xr_154_11 (z := 144 * b) rfl (pc' := 12) rfl ?_
          refine T_p xr_154_12 xn_154 (pc' := 14) (ls' := [(0, .ref 530), (1, .int (iI a)), (2, .int (iI c))]) (st' := [.int (iI 12), .int (iI (144 * b)), .ref 535]) rfl ?_
          refine T_p xr_154_14 xn_154 (pc' := 15) (ls' := [(0, .ref 530), (1, .int (iI a)), (2, .int (iI c))]) (st' := [.int (iI a), .int (iI 12), .int (iI (144 * b)), .ref 535]) rfl ?_
          refine T_zimul xr_154_15 (z := 12 * a) rfl (pc' := 16) rfl ?_
          refine T_ziadd xr_154_16 (z := (144 * b) + (12 * a)) rfl (pc' := 17) rfl ?_
          refine T_p xr_154_17 xn_154 (pc' := 18) (ls' := [(0, .ref 530), (1, .int (iI a)), (2, .int (iI c))]) (st' := [.int (iI c), .int (iI ((144 * b) + (12 * a))), .ref 535]) rfl ?_
          refine T_ziadd xr_154_18 (z := ((144 * b) + (12 * a)) + c) rfl (pc' := 19) rfl ?_
          refine T_zzald xr_154_19 hA535 (pc' := 20) rfl ?_
          refine T_ie (y := iI (bI (X_bt (gl G a) c))) (congrArg iI (hTG.1 a c (by omega) (by omega) (by omega) (by omega))) ?_
          refine T_iret xr_154_20 xf_154.2.2 (X_fit_b _) ?_
          show X_T sc 167 (34, [(0, .ref 530), (1, .int (iI a)), (2, .int (iI c))], [.int (iI (bI (X_bt (gl G a) c)))], S) _
          refine T_bif_eq xr_167_34 (t := 41) (pc' := 37) rfl rfl (fun c2314 => ?_) (fun c2314 => ?_)
          · skip
            have c2314 : ¬ (X_bt (gl G a) c) := c2314
            refine T_p xr_167_41 xn_167 (pc' := 42) (ls' := [(0, .ref 530), (1, .int (iI a)), (2, .int (iI c))]) (st' := [.int (iI 0)]) rfl ?_
            refine T_iret xr_167_42 xf_167.2.2 rfl ?_
            refine hQ _ _ ?_
            exact ⟨(by rw [show X_qTi G rc a c = 0 from by unfold X_qTi; rw [if_pos (by omega), bI_f (by first | assumption | exact Classical.not_not.mp (by assumption))]]), rfl⟩
          · skip
            have c2314 : (X_bt (gl G a) c) := c2314
            refine T_p xr_167_37 xn_167 (pc' := 38) (ls' := [(0, .ref 530), (1, .int (iI a)), (2, .int (iI c))]) (st' := [.int (iI 1)]) rfl ?_
            refine T_p xr_167_38 xn_167 (pc' := 42) (ls' := [(0, .ref 530), (1, .int (iI a)), (2, .int (iI c))]) (st' := [.int (iI 1)]) rfl ?_
            refine T_iret xr_167_42 xf_167.2.2 rfl ?_
            refine hQ _ _ ?_
            exact ⟨(by rw [show X_qTi G rc a c = 1 from by unfold X_qTi; rw [if_pos (by omega), bI_t (by first | assumption | exact Classical.not_not.mp (by assumption))]]), rfl⟩
        · skip
          have c2313 : ¬ (c < rc) := c2313
          refine T_p xr_167_24 xn_167 (pc' := 25) (ls' := [(0, .ref 530), (1, .int (iI a)), (2, .int (iI c))]) (st' := [.int (iI (-1))]) rfl ?_
          refine T_p xr_167_25 xn_167 (pc' := 42) (ls' := [(0, .ref 530), (1, .int (iI a)), (2, .int (iI c))]) (st' := [.int (iI (-1))]) rfl ?_
          refine T_iret xr_167_42 xf_167.2.2 rfl ?_
          refine hQ _ _ ?_
          exact ⟨(by rw [show X_qTi G rc a c = -1 from by unfold X_qTi; rw [if_neg (by omega)]]), rfl⟩
theorem r_under (sc : X_Sc) (S : X_S) (kU : Int → Int) (o : Nat → Int) (nm : Int64) (b : Int) (rc : Int) (G : X_G) (tn : Int) (a : Int) (c : Int) (hO530 : S.1 530 = .inr (11, [.ref 531, .int (iI (o 1)), .ref 532, .int (iI (o 3)), .int (iI b), .int (iI (o 5)), .int (iI (o 6)), .int (iI (o 7)), .int (iI (o 8)), .int (iI (o 9)), .int (iI (o 10)), .int (iI (o 11)), .long nm, .ref 533, .ref 534, .ref 535, .ref 536, .ref 537, .ref 538, .ref 539, .ref 540, .ref 541, .ref 542, .ref 543, .ref 544, .ref 545, .ref 546, .ref 547, .int (iI rc), .int (iI (gk G)), .int (iI (gw G)), .int (iI (o 31)), .int (iI (o 32)), .int (iI (o 33)), .ref 548, .ref 549, .ref 550, .ref 551, .int (iI tn), .ref 552, .ref 553, .ref 554, .ref 555, .ref 556, .ref 557, .ref 558, .ref 559, .ref 560, .ref 561, .int (iI (o 49)), .ref 562, .ref 563, .ref 564, .ref 565, .ref 566, .ref 567, .ref 568, .ref 569, .int (iI (o 58)), .ref 570, .ref 571, .ref 572, .ref 573, .ref 574, .ref 575, .ref 576, .ref 577, .ref 578, .int (iI (o 68)), .int (iI (o 69)), .int (iI (o 70)), .ref 579])) (hA536 : S.1 536 = .inl (.int, 22, .inl fun k : Nat => iI (kU (k : Int)))) (hbr : 0 ≤ b ∧ b ≤ 1) (hG : X_Gok G) (hKU : (∀ u, 0 ≤ u → u < 32 → (X_bt (ga G 0) u ↔ u = 0)) ∧ kU (11 * b) = -1 ∧ ∀ k, 1 ≤ k → k < gk G → (0 ≤ kU (11 * b + k) ∧ kU (11 * b + k) < k) ∧ ∀ u, 0 ≤ u → u < 32 → (X_bt (ga G k) u ↔ u = k ∨ X_bt (ga G (kU (11 * b + k))) u)) (ha : -2147483648 ≤ a ∧ a ≤ 2147483647) (hc : -2147483648 ≤ c ∧ c ≤ 2147483647) : X_T sc 169 (0, [(0, .ref 530), (1, .int (iI a)), (2, .int (iI c))], [], S) (fun v S' => v = some (.int (iI (X_qUn G a c))) ∧ S' = S) := by
  have hc1 := hG.2.1
  refine X_QI (fun Q hQ => ?_)
  refine T_p xr_169_0 xn_169 (pc' := 1) (ls' := [(0, .ref 530), (1, .int (iI a)), (2, .int (iI c))]) (st' := [.int (iI a)]) rfl ?_
  refine T_zif_lt xr_169_1 (t := 24) (pc' := 4) rfl rfl (fun c2315 => ?_) (fun c2315 => ?_)
  · skip
    have c2315 : a < 0 := c2315
    refine T_p xr_169_24 xn_169 (pc' := 25) (ls' := [(0, .ref 530), (1, .int (iI a)), (2, .int (iI c))]) (st' := [.int (iI (-1))]) rfl ?_
    refine T_p xr_169_25 xn_169 (pc' := 42) (ls' := [(0, .ref 530), (1, .int (iI a)), (2, .int (iI c))]) (st' := [.int (iI (-1))]) rfl ?_
    refine T_iret xr_169_42 xf_169.2.2 rfl ?_
    refine hQ _ _ ?_
    exact ⟨(by rw [show X_qUn G a c = -1 from by unfold X_qUn; rw [if_neg (by omega)]]), rfl⟩
  · skip
    have c2315 : ¬ (a < 0) := c2315
    refine T_p xr_169_4 xn_169 (pc' := 5) (ls' := [(0, .ref 530), (1, .int (iI a)), (2, .int (iI c))]) (st' := [.int (iI a)]) rfl ?_
    refine T_p xr_169_5 xn_169 (pc' := 6) (ls' := [(0, .ref 530), (1, .int (iI a)), (2, .int (iI c))]) (st' := [.ref 530, .int (iI a)]) rfl ?_
    refine T_get xr_169_6 hO530 rfl (v := .int (iI (gk G))) rfl (pc' := 9) rfl ?_
    refine T_zicmp_ge xr_169_9 (t := 24) (pc' := 12) rfl rfl (fun c2316 => ?_) (fun c2316 => ?_)
    · skip
      have c2316 : (gk G) ≤ a := c2316
      refine T_p xr_169_24 xn_169 (pc' := 25) (ls' := [(0, .ref 530), (1, .int (iI a)), (2, .int (iI c))]) (st' := [.int (iI (-1))]) rfl ?_
      refine T_p xr_169_25 xn_169 (pc' := 42) (ls' := [(0, .ref 530), (1, .int (iI a)), (2, .int (iI c))]) (st' := [.int (iI (-1))]) rfl ?_
      refine T_iret xr_169_42 xf_169.2.2 rfl ?_
      refine hQ _ _ ?_
      exact ⟨(by rw [show X_qUn G a c = -1 from by unfold X_qUn; rw [if_neg (by omega)]]), rfl⟩
    · skip
      have c2316 : ¬ ((gk G) ≤ a) := c2316
      refine T_p xr_169_12 xn_169 (pc' := 13) (ls' := [(0, .ref 530), (1, .int (iI a)), (2, .int (iI c))]) (st' := [.int (iI c)]) rfl ?_
      refine T_zif_lt xr_169_13 (t := 24) (pc' := 16) rfl rfl (fun c2317 => ?_) (fun c2317 => ?_)
      · skip
        have c2317 : c < 0 := c2317
        refine T_p xr_169_24 xn_169 (pc' := 25) (ls' := [(0, .ref 530), (1, .int (iI a)), (2, .int (iI c))]) (st' := [.int (iI (-1))]) rfl ?_
        refine T_p xr_169_25 xn_169 (pc' := 42) (ls' := [(0, .ref 530), (1, .int (iI a)), (2, .int (iI c))]) (st' := [.int (iI (-1))]) rfl ?_
        refine T_iret xr_169_42 xf_169.2.2 rfl ?_
        refine hQ _ _ ?_
        exact ⟨(by rw [show X_qUn G a c = -1 from by unfold X_qUn; rw [if_neg (by omega)]]), rfl⟩
      · skip
        have c2317 : ¬ (c < 0) := c2317
        refine T_p xr_169_16 xn_169 (pc' := 17) (ls' := [(0, .ref 530), (1, .int (iI a)), (2, .int (iI c))]) (st' := [.int (iI c)]) rfl ?_
        refine T_p xr_169_17 xn_169 (pc' := 18) (ls' := [(0, .ref 530), (1, .int (iI a)), (2, .int (iI c))]) (st' := [.ref 530, .int (iI c)]) rfl ?_
        refine T_get xr_169_18 hO530 rfl (v := .int (iI (gk G))) rfl (pc' := 21) rfl ?_
        refine T_zicmp_lt xr_169_21 (t := 28) (pc' := 24) rfl rfl (fun c2318 => ?_) (fun c2318 => ?_)
        · skip
          have c2318 : c < (gk G) := c2318
          refine T_p xr_169_28 xn_169 (pc' := 29) (ls' := [(0, .ref 530), (1, .int (iI a)), (2, .int (iI c))]) (st' := [.ref 530]) rfl ?_
          refine T_p xr_169_29 xn_169 (pc' := 30) (ls' := [(0, .ref 530), (1, .int (iI a)), (2, .int (iI c))]) (st' := [.int (iI a), .ref 530]) rfl ?_
          refine T_p xr_169_30 xn_169 (pc' := 31) (ls' := [(0, .ref 530), (1, .int (iI a)), (2, .int (iI c))]) (st' := [.int (iI c), .int (iI a), .ref 530]) rfl ?_
          refine T_cv (S := S) (q := 530) xr_169_31 xf_168.1 xf_168.2.1 xn_168 (as := [.int (iI a), .int (iI c)]) (r := []) rfl hO530 (Nat.le_of_ble_eq_true rfl) (Nat.le_of_ble_eq_true rfl) (pc' := 34) rfl (ls' := [(0, .ref 530), (1, .int (iI a)), (2, .int (iI c))]) rfl ?_
          refine T_mono (r_isUnder sc S kU o nm b rc G tn a c hO530 hA536 (by omega) hG hKU (by omega) (by omega)) (fun v2319 S2320 h2321 => ?_)
          rcases h2321 with ⟨hv2322, hf2323⟩
          rw [hv2322]
          rw [hf2323]
          show X_T sc 169 (34, [(0, .ref 530), (1, .int (iI a)), (2, .int (iI c))], [.int (iI (bI (X_bt (ga G a) c)))], S) _
          refine T_bif_eq xr_169_34 (t := 41) (pc' := 37) rfl rfl (fun c2324 => ?_) (fun c2324 => ?_)
          · skip
            have c2324 : ¬ (X_bt (ga G a) c) := c2324
            refine T_p xr_169_41 xn_169 (pc' := 42) (ls' := [(0, .ref 530), (1, .int (iI a)), (2, .int (iI c))]) (st' := [.int (iI 0)]) rfl ?_
            refine T_iret xr_169_42 xf_169.2.2 rfl ?_
            refine hQ _ _ ?_
            exact ⟨(by rw [show X_qUn G a c = 0 from by unfold X_qUn; rw [if_pos (by omega), bI_f (by first | assumption | exact Classical.not_not.mp (by assumption))]]), rfl⟩
          · skip
            have c2324 : (X_bt (ga G a) c) := c2324
            refine T_p xr_169_37 xn_169 (pc' := 38) (ls' := [(0, .ref 530), (1, .int (iI a)), (2, .int (iI c))]) (st' := [.int (iI 1)]) rfl ?_
            refine T_p xr_169_38 xn_169 (pc' := 42) (ls' := [(0, .ref 530), (1, .int (iI a)), (2, .int (iI c))]) (st' := [.int (iI 1)]) rfl ?_
            refine T_iret xr_169_42 xf_169.2.2 rfl ?_
            refine hQ _ _ ?_
            exact ⟨(by rw [show X_qUn G a c = 1 from by unfold X_qUn; rw [if_pos (by omega), bI_t (by first | assumption | exact Classical.not_not.mp (by assumption))]]), rfl⟩
        · skip
          have c2318 : ¬ (c < (gk G)) := c2318
          refine T_p xr_169_24 xn_169 (pc' := 25) (ls' := [(0, .ref 530), (1, .int (iI a)), (2, .int (iI c))]) (st' := [.int (iI (-1))]) rfl ?_
          refine T_p xr_169_25 xn_169 (pc' := 42) (ls' := [(0, .ref 530), (1, .int (iI a)), (2, .int (iI c))]) (st' := [.int (iI (-1))]) rfl ?_
          refine T_iret xr_169_42 xf_169.2.2 rfl ?_
          refine hQ _ _ ?_
          exact ⟨(by rw [show X_qUn G a c = -1 from by unfold X_qUn; rw [if_neg (by omega)]]), rfl⟩
theorem r_node (sc : X_Sc) (S : X_S) (nW : Int → Int) (nF : Int → Int) (nL : Int → Int) (nP : Int → Int) (nH : Int → Int) (o : Nat → Int) (nm : Int64) (b : Int) (rc : Int) (G : X_G) (tn : Int) (nc : Int) (N : Int → Int → Int) (n : Int) (wh : Int) (hO530 : S.1 530 = .inr (11, [.ref 531, .int (iI (o 1)), .ref 532, .int (iI (o 3)), .int (iI b), .int (iI (o 5)), .int (iI (o 6)), .int (iI (o 7)), .int (iI (o 8)), .int (iI (o 9)), .int (iI (o 10)), .int (iI (o 11)), .long nm, .ref 533, .ref 534, .ref 535, .ref 536, .ref 537, .ref 538, .ref 539, .ref 540, .ref 541, .ref 542, .ref 543, .ref 544, .ref 545, .ref 546, .ref 547, .int (iI rc), .int (iI (gk G)), .int (iI (gw G)), .int (iI (o 31)), .int (iI (o 32)), .int (iI (o 33)), .ref 548, .ref 549, .ref 550, .ref 551, .int (iI tn), .ref 552, .ref 553, .ref 554, .ref 555, .ref 556, .ref 557, .ref 558, .ref 559, .ref 560, .ref 561, .int (iI nc), .ref 562, .ref 563, .ref 564, .ref 565, .ref 566, .ref 567, .ref 568, .ref 569, .int (iI (o 58)), .ref 570, .ref 571, .ref 572, .ref 573, .ref 574, .ref 575, .ref 576, .ref 577, .ref 578, .int (iI (o 68)), .int (iI (o 69)), .int (iI (o 70)), .ref 579])) (hA557 : S.1 557 = .inl (.int, 40, .inl fun k : Nat => iI (nW (k : Int)))) (hA558 : S.1 558 = .inl (.int, 40, .inl fun k : Nat => iI (nF (k : Int)))) (hA559 : S.1 559 = .inl (.int, 40, .inl fun k : Nat => iI (nL (k : Int)))) (hA560 : S.1 560 = .inl (.int, 40, .inl fun k : Nat => iI (nP (k : Int)))) (hA561 : S.1 561 = .inl (.int, 40, .inl fun k : Nat => iI (nH (k : Int)))) (hn : -2147483648 ≤ n ∧ n ≤ 2147483647) (hwh : -2147483648 ≤ wh ∧ wh ≤ 2147483647) (hnc : 0 ≤ nc ∧ nc ≤ 30) (hnd : R_nd nc N nW nF nL nP nH) (hn4 : ∀ n, 0 ≤ n → n < nc → N 3 n < 0 → N 4 n = -1) (ht0 : X_tr0 N nc) : X_T sc 190 (0, [(0, .ref 530), (1, .int (iI n)), (2, .int (iI wh))], [], S) (fun v S' => v = some (.int (iI (X_qNd nc N n wh))) ∧ S' = S) := by
  refine X_QI (fun Q hQ => ?_)
  refine T_p xr_190_0 xn_190 (pc' := 1) (ls' := [(0, .ref 530), (1, .int (iI n)), (2, .int (iI wh))]) (st' := [.int (iI n)]) rfl ?_
  refine T_zif_lt xr_190_1 (t := 12) (pc' := 4) rfl rfl (fun c2325 => ?_) (fun c2325 => ?_)
  · skip
    have c2325 : n < 0 := c2325
    refine T_p xr_190_12 xn_190 (pc' := 13) (ls' := [(0, .ref 530), (1, .int (iI n)), (2, .int (iI wh))]) (st' := [.int (iI (-1))]) rfl ?_
    refine T_iret xr_190_13 xf_190.2.2 rfl ?_
    refine hQ _ _ ?_
    exact ⟨(by rw [show X_qNd nc N n wh = (-1) from by unfold X_qNd; (repeat (first | rw [if_pos (by omega)] | rw [if_neg (by omega)]))]), rfl⟩
  · skip
    have c2325 : ¬ (n < 0) := c2325
    refine T_p xr_190_4 xn_190 (pc' := 5) (ls' := [(0, .ref 530), (1, .int (iI n)), (2, .int (iI wh))]) (st' := [.int (iI n)]) rfl ?_
    refine T_p xr_190_5 xn_190 (pc' := 6) (ls' := [(0, .ref 530), (1, .int (iI n)), (2, .int (iI wh))]) (st' := [.ref 530, .int (iI n)]) rfl ?_
    refine T_get xr_190_6 hO530 rfl (v := .int (iI nc)) rfl (pc' := 9) rfl ?_
    refine T_zicmp_lt xr_190_9 (t := 14) (pc' := 12) rfl rfl (fun c2326 => ?_) (fun c2326 => ?_)
    · skip
      have c2326 : n < nc := c2326
      refine T_p xr_190_14 xn_190 (pc' := 15) (ls' := [(0, .ref 530), (1, .int (iI n)), (2, .int (iI wh))]) (st' := [.int (iI wh)]) rfl ?_
      rcases (show wh = 0 ∨ wh = 1 ∨ wh = 2 ∨ wh = 3 ∨ wh = 4 ∨ (wh < 0 ∨ 4 < wh) by omega) with cs2327 | cs2327 | cs2327 | cs2327 | cs2327 | cs2327
      · skip
        refine T_tsk xr_190_15 cs2327 (by decide) (by decide) (off := 33) rfl (t := 48) rfl ?_
        refine T_p xr_190_48 xn_190 (pc' := 49) (ls' := [(0, .ref 530), (1, .int (iI n)), (2, .int (iI wh))]) (st' := [.ref 530]) rfl ?_
        refine T_get xr_190_49 hO530 rfl (v := .ref 557) rfl (pc' := 52) rfl ?_
        refine T_p xr_190_52 xn_190 (pc' := 53) (ls' := [(0, .ref 530), (1, .int (iI n)), (2, .int (iI wh))]) (st' := [.int (iI n), .ref 557]) rfl ?_
        refine T_ziald xr_190_53 hA557 (pc' := 54) rfl ?_
        refine T_iret xr_190_54 xf_190.2.2 rfl ?_
        refine hQ _ _ ?_
        exact ⟨(by rw [show X_qNd nc N n wh = N 0 n from by unfold X_qNd; (repeat (first | rw [if_pos (by omega)] | rw [if_neg (by omega)]))]; rw [(hnd n (by omega) (by omega)).1]), rfl⟩
      · skip
        refine T_tsk xr_190_15 cs2327 (by decide) (by decide) (off := 40) rfl (t := 55) rfl ?_
        refine T_p xr_190_55 xn_190 (pc' := 56) (ls' := [(0, .ref 530), (1, .int (iI n)), (2, .int (iI wh))]) (st' := [.ref 530]) rfl ?_
        refine T_get xr_190_56 hO530 rfl (v := .ref 558) rfl (pc' := 59) rfl ?_
        refine T_p xr_190_59 xn_190 (pc' := 60) (ls' := [(0, .ref 530), (1, .int (iI n)), (2, .int (iI wh))]) (st' := [.int (iI n), .ref 558]) rfl ?_
        refine T_ziald xr_190_60 hA558 (pc' := 61) rfl ?_
        refine T_iret xr_190_61 xf_190.2.2 rfl ?_
        refine hQ _ _ ?_
        exact ⟨(by rw [show X_qNd nc N n wh = N 1 n from by unfold X_qNd; (repeat (first | rw [if_pos (by omega)] | rw [if_neg (by omega)]))]; rw [(hnd n (by omega) (by omega)).2.1]), rfl⟩
      · skip
        refine T_tsk xr_190_15 cs2327 (by decide) (by decide) (off := 47) rfl (t := 62) rfl ?_
        refine T_p xr_190_62 xn_190 (pc' := 63) (ls' := [(0, .ref 530), (1, .int (iI n)), (2, .int (iI wh))]) (st' := [.ref 530]) rfl ?_
        refine T_get xr_190_63 hO530 rfl (v := .ref 559) rfl (pc' := 66) rfl ?_
        refine T_p xr_190_66 xn_190 (pc' := 67) (ls' := [(0, .ref 530), (1, .int (iI n)), (2, .int (iI wh))]) (st' := [.int (iI n), .ref 559]) rfl ?_
        refine T_ziald xr_190_67 hA559 (pc' := 68) rfl ?_
        refine T_iret xr_190_68 xf_190.2.2 rfl ?_
        refine hQ _ _ ?_
        exact ⟨(by rw [show X_qNd nc N n wh = N 2 n from by unfold X_qNd; (repeat (first | rw [if_pos (by omega)] | rw [if_neg (by omega)]))]; rw [(hnd n (by omega) (by omega)).2.2.1]), rfl⟩
      · skip
        refine T_tsk xr_190_15 cs2327 (by decide) (by decide) (off := 54) rfl (t := 69) rfl ?_
        refine T_p xr_190_69 xn_190 (pc' := 70) (ls' := [(0, .ref 530), (1, .int (iI n)), (2, .int (iI wh))]) (st' := [.ref 530]) rfl ?_
        refine T_get xr_190_70 hO530 rfl (v := .ref 560) rfl (pc' := 73) rfl ?_
        refine T_p xr_190_73 xn_190 (pc' := 74) (ls' := [(0, .ref 530), (1, .int (iI n)), (2, .int (iI wh))]) (st' := [.int (iI n), .ref 560]) rfl ?_
        refine T_ziald xr_190_74 hA560 (pc' := 75) rfl ?_
        refine T_iret xr_190_75 xf_190.2.2 rfl ?_
        refine hQ _ _ ?_
        exact ⟨(by rw [show X_qNd nc N n wh = N 3 n from by unfold X_qNd; (repeat (first | rw [if_pos (by omega)] | rw [if_neg (by omega)]))]; rw [(hnd n (by omega) (by omega)).2.2.2.1]), rfl⟩
      · skip
        refine T_tsk xr_190_15 cs2327 (by decide) (by decide) (off := 61) rfl (t := 76) rfl ?_
        refine T_p xr_190_76 xn_190 (pc' := 77) (ls' := [(0, .ref 530), (1, .int (iI n)), (2, .int (iI wh))]) (st' := [.ref 530]) rfl ?_
        refine T_get xr_190_77 hO530 rfl (v := .ref 560) rfl (pc' := 80) rfl ?_
        refine T_p xr_190_80 xn_190 (pc' := 81) (ls' := [(0, .ref 530), (1, .int (iI n)), (2, .int (iI wh))]) (st' := [.int (iI n), .ref 560]) rfl ?_
        refine T_ziald xr_190_81 hA560 (pc' := 82) rfl ?_
        have htn := ht0 n (by omega) (by omega)
        refine T_ie (y := iI (N 3 n)) (by rw [(hnd n (by omega) (by omega)).2.2.2.1]) ?_
        refine T_zif_ge xr_190_82 (t := 89) (pc' := 85) rfl rfl (fun c2328 => ?_) (fun c2328 => ?_)
        · skip
          have c2328 : 0 ≤ (N 3 n) := c2328
          refine T_p xr_190_89 xn_190 (pc' := 90) (ls' := [(0, .ref 530), (1, .int (iI n)), (2, .int (iI wh))]) (st' := [.ref 530]) rfl ?_
          refine T_get xr_190_90 hO530 rfl (v := .ref 561) rfl (pc' := 93) rfl ?_
          refine T_p xr_190_93 xn_190 (pc' := 94) (ls' := [(0, .ref 530), (1, .int (iI n)), (2, .int (iI wh))]) (st' := [.int (iI n), .ref 561]) rfl ?_
          refine T_ziald xr_190_94 hA561 (pc' := 95) rfl ?_
          refine T_iret xr_190_95 xf_190.2.2 rfl ?_
          refine hQ _ _ ?_
          exact ⟨(by rw [show X_qNd nc N n wh = N 4 n from by unfold X_qNd; (repeat (first | rw [if_pos (by omega)] | rw [if_neg (by omega)]))]; rw [(hnd n (by omega) (by omega)).2.2.2.2]), rfl⟩
        · skip
          have c2328 : ¬ (0 ≤ (N 3 n)) := c2328
          refine T_p xr_190_85 xn_190 (pc' := 86) (ls' := [(0, .ref 530), (1, .int (iI n)), (2, .int (iI wh))]) (st' := [.int (iI (-1))]) rfl ?_
          refine T_p xr_190_86 xn_190 (pc' := 95) (ls' := [(0, .ref 530), (1, .int (iI n)), (2, .int (iI wh))]) (st' := [.int (iI (-1))]) rfl ?_
          refine T_iret xr_190_95 xf_190.2.2 rfl ?_
          refine hQ _ _ ?_
          exact ⟨(by rw [show X_qNd nc N n wh = N 4 n from by unfold X_qNd; (repeat (first | rw [if_pos (by omega)] | rw [if_neg (by omega)]))]; rw [hn4 n (by omega) (by omega) (by omega)]), rfl⟩
      · skip
        refine T_tsd xr_190_15 cs2327 (by omega) (t := 96) rfl ?_
        refine T_p xr_190_96 xn_190 (pc' := 97) (ls' := [(0, .ref 530), (1, .int (iI n)), (2, .int (iI wh))]) (st' := [.int (iI (-1))]) rfl ?_
        refine T_iret xr_190_97 xf_190.2.2 rfl ?_
        refine hQ _ _ ?_
        exact ⟨(by rw [show X_qNd nc N n wh = (-1) from by unfold X_qNd; (repeat (first | rw [if_pos (by omega)] | rw [if_neg (by omega)]))]), rfl⟩
    · skip
      have c2326 : ¬ (n < nc) := c2326
      refine T_p xr_190_12 xn_190 (pc' := 13) (ls' := [(0, .ref 530), (1, .int (iI n)), (2, .int (iI wh))]) (st' := [.int (iI (-1))]) rfl ?_
      refine T_iret xr_190_13 xf_190.2.2 rfl ?_
      refine hQ _ _ ?_
      exact ⟨(by rw [show X_qNd nc N n wh = (-1) from by unfold X_qNd; (repeat (first | rw [if_pos (by omega)] | rw [if_neg (by omega)]))]), rfl⟩
theorem r_worked (sc : X_Sc) (S : X_S) (o : Nat → Int) (nm : Int64) (b : Int) (rc : Int) (G : X_G) (tn : Int) (wk : Int) (f69 : Int) (f70 : Int) (rs : Int) (re : Int) (w : Int) (hO530 : S.1 530 = .inr (11, [.ref 531, .int (iI (o 1)), .ref 532, .int (iI (o 3)), .int (iI b), .int (iI (o 5)), .int (iI (o 6)), .int (iI (o 7)), .int (iI (o 8)), .int (iI (o 9)), .int (iI (o 10)), .int (iI (o 11)), .long nm, .ref 533, .ref 534, .ref 535, .ref 536, .ref 537, .ref 538, .ref 539, .ref 540, .ref 541, .ref 542, .ref 543, .ref 544, .ref 545, .ref 546, .ref 547, .int (iI rc), .int (iI (gk G)), .int (iI (gw G)), .int (iI (o 31)), .int (iI (o 32)), .int (iI (o 33)), .ref 548, .ref 549, .ref 550, .ref 551, .int (iI tn), .ref 552, .ref 553, .ref 554, .ref 555, .ref 556, .ref 557, .ref 558, .ref 559, .ref 560, .ref 561, .int (iI (o 49)), .ref 562, .ref 563, .ref 564, .ref 565, .ref 566, .ref 567, .ref 568, .ref 569, .int (iI (o 58)), .ref 570, .ref 571, .ref 572, .ref 573, .ref 574, .ref 575, .ref 576, .ref 577, .ref 578, .int (iI wk), .int (iI f69), .int (iI f70), .ref 579])) (hw : -2147483648 ≤ w ∧ w ≤ 2147483647) (hwk : (¬ wk = 0 ∧ f70 = rs ∧ f69 = re) ∨ (wk = 0 ∧ rs = 0 ∧ re = -1)) (hwr : 0 ≤ wk ∧ wk ≤ 1) : X_T sc 198 (0, [(0, .ref 530), (1, .int (iI w))], [], S) (fun v S' => v = some (.int (iI (if w = 0 then rs else if w = 1 then re else -1))) ∧ S' = S) := by
  refine X_QI (fun Q hQ => ?_)
  refine T_p xr_198_0 xn_198 (pc' := 1) (ls' := [(0, .ref 530), (1, .int (iI w))]) (st' := [.int (iI w)]) rfl ?_
  refine T_zif_ne xr_198_1 (t := 22) (pc' := 4) rfl rfl (fun c2329 => ?_) (fun c2329 => ?_)
  · skip
    have c2329 : ¬ w = 0 := c2329
    refine T_p xr_198_22 xn_198 (pc' := 23) (ls' := [(0, .ref 530), (1, .int (iI w))]) (st' := [.int (iI w)]) rfl ?_
    refine T_p xr_198_23 xn_198 (pc' := 24) (ls' := [(0, .ref 530), (1, .int (iI w))]) (st' := [.int (iI 1), .int (iI w)]) rfl ?_
    refine T_zicmp_ne xr_198_24 (t := 41) (pc' := 27) rfl rfl (fun c2330 => ?_) (fun c2330 => ?_)
    · skip
      have c2330 : ¬ w = 1 := c2330
      refine T_p xr_198_41 xn_198 (pc' := 42) (ls' := [(0, .ref 530), (1, .int (iI w))]) (st' := [.int (iI (-1))]) rfl ?_
      refine T_iret xr_198_42 xf_198.2.2 rfl ?_
      refine hQ _ _ ?_
      refine ⟨(by
            refine congrArg (fun z => some (Value.int (iI z))) ?_
            (repeat (first | rw [if_pos (by omega)] | rw [if_neg (by omega)])) <;> omega), rfl⟩
    · skip
      have c2330 : ¬ (¬ w = 1) := c2330
      refine T_p xr_198_27 xn_198 (pc' := 28) (ls' := [(0, .ref 530), (1, .int (iI w))]) (st' := [.ref 530]) rfl ?_
      refine T_get xr_198_28 hO530 rfl (v := .int (iI wk)) rfl (pc' := 31) rfl ?_
      refine T_zif_eq xr_198_31 (t := 41) (pc' := 34) rfl rfl (fun c2331 => ?_) (fun c2331 => ?_)
      · skip
        have c2331 : wk = 0 := c2331
        refine T_p xr_198_41 xn_198 (pc' := 42) (ls' := [(0, .ref 530), (1, .int (iI w))]) (st' := [.int (iI (-1))]) rfl ?_
        refine T_iret xr_198_42 xf_198.2.2 rfl ?_
        refine hQ _ _ ?_
        refine ⟨(by
              refine congrArg (fun z => some (Value.int (iI z))) ?_
              (repeat (first | rw [if_pos (by omega)] | rw [if_neg (by omega)])) <;> omega), rfl⟩
      · skip
        have c2331 : ¬ (wk = 0) := c2331
        refine T_p xr_198_34 xn_198 (pc' := 35) (ls' := [(0, .ref 530), (1, .int (iI w))]) (st' := [.ref 530]) rfl ?_
        refine T_get xr_198_35 hO530 rfl (v := .int (iI f69)) rfl (pc' := 38) rfl ?_
        refine T_p xr_198_38 xn_198 (pc' := 42) (ls' := [(0, .ref 530), (1, .int (iI w))]) (st' := [.int (iI f69)]) rfl ?_
        refine T_iret xr_198_42 xf_198.2.2 rfl ?_
        refine hQ _ _ ?_
        refine ⟨(by
              refine congrArg (fun z => some (Value.int (iI z))) ?_
              (repeat (first | rw [if_pos (by omega)] | rw [if_neg (by omega)])) <;> omega), rfl⟩
  · skip
    have c2329 : ¬ (¬ w = 0) := c2329
    refine T_p xr_198_4 xn_198 (pc' := 5) (ls' := [(0, .ref 530), (1, .int (iI w))]) (st' := [.ref 530]) rfl ?_
    refine T_get xr_198_5 hO530 rfl (v := .int (iI wk)) rfl (pc' := 8) rfl ?_
    refine T_zif_eq xr_198_8 (t := 18) (pc' := 11) rfl rfl (fun c2332 => ?_) (fun c2332 => ?_)
    · skip
      have c2332 : wk = 0 := c2332
      refine T_p xr_198_18 xn_198 (pc' := 19) (ls' := [(0, .ref 530), (1, .int (iI w))]) (st' := [.int (iI 0)]) rfl ?_
      refine T_p xr_198_19 xn_198 (pc' := 42) (ls' := [(0, .ref 530), (1, .int (iI w))]) (st' := [.int (iI 0)]) rfl ?_
      refine T_iret xr_198_42 xf_198.2.2 rfl ?_
      refine hQ _ _ ?_
      refine ⟨(by
            refine congrArg (fun z => some (Value.int (iI z))) ?_
            (repeat (first | rw [if_pos (by omega)] | rw [if_neg (by omega)])) <;> omega), rfl⟩
    · skip
      have c2332 : ¬ (wk = 0) := c2332
      refine T_p xr_198_11 xn_198 (pc' := 12) (ls' := [(0, .ref 530), (1, .int (iI w))]) (st' := [.ref 530]) rfl ?_
      refine T_get xr_198_12 hO530 rfl (v := .int (iI f70)) rfl (pc' := 15) rfl ?_
      refine T_p xr_198_15 xn_198 (pc' := 42) (ls' := [(0, .ref 530), (1, .int (iI w))]) (st' := [.int (iI f70)]) rfl ?_
      refine T_iret xr_198_42 xf_198.2.2 rfl ?_
      refine hQ _ _ ?_
      refine ⟨(by
            refine congrArg (fun z => some (Value.int (iI z))) ?_
            (repeat (first | rw [if_pos (by omega)] | rw [if_neg (by omega)])) <;> omega), rfl⟩
theorem r_bind (sc : X_Sc) (S : X_S) (wH : Int → Int) (wS : Int → Int) (bo : Int → Int) (va : Int → Int) (o : Nat → Int) (nm : Int64) (b : Int) (rc : Int) (G : X_G) (tn : Int) (w : Int) (vl : Int) (hO530 : S.1 530 = .inr (11, [.ref 531, .int (iI (o 1)), .ref 532, .int (iI (o 3)), .int (iI b), .int (iI (o 5)), .int (iI (o 6)), .int (iI (o 7)), .int (iI (o 8)), .int (iI (o 9)), .int (iI (o 10)), .int (iI (o 11)), .long nm, .ref 533, .ref 534, .ref 535, .ref 536, .ref 537, .ref 538, .ref 539, .ref 540, .ref 541, .ref 542, .ref 543, .ref 544, .ref 545, .ref 546, .ref 547, .int (iI rc), .int (iI (gk G)), .int (iI (gw G)), .int (iI (o 31)), .int (iI (o 32)), .int (iI (o 33)), .ref 548, .ref 549, .ref 550, .ref 551, .int (iI tn), .ref 552, .ref 553, .ref 554, .ref 555, .ref 556, .ref 557, .ref 558, .ref 559, .ref 560, .ref 561, .int (iI (o 49)), .ref 562, .ref 563, .ref 564, .ref 565, .ref 566, .ref 567, .ref 568, .ref 569, .int (iI (o 58)), .ref 570, .ref 571, .ref 572, .ref 573, .ref 574, .ref 575, .ref 576, .ref 577, .ref 578, .int (iI (o 68)), .int (iI (o 69)), .int (iI (o 70)), .ref 579])) (hA541 : S.1 541 = .inl (.int, 60, .inl fun k : Nat => iI (wH (k : Int)))) (hA542 : S.1 542 = .inl (.int, 60, .inl fun k : Nat => iI (wS (k : Int)))) (hA574 : S.1 574 = .inl (.boolean, 30, .inl fun k : Nat => iI (bo (k : Int)))) (hA575 : S.1 575 = .inl (.int, 30, .inl fun k : Nat => iI (va (k : Int)))) (hbr : 0 ≤ b ∧ b ≤ 1) (hG : X_Gok G) (hGs : X_Gst G) (hWH : ∀ w, 0 ≤ w → w < gw G → wH (30 * b + w) = gD G w 4 0) (hWS : ∀ w, 0 ≤ w → w < gw G → wS (30 * b + w) = gD G w 5 0) (hw : -2147483648 ≤ w ∧ w ≤ 2147483647) (hv : -2147483648 ≤ vl ∧ vl ≤ 2147483647) : X_T sc 191 (0, [(0, .ref 530), (1, .int (iI w)), (2, .int (iI vl))], [], S) (fun v S' => (v = some (.int (iI 0)) ∧ (¬ ((0 ≤ w ∧ w < gw G) ∧ gD G w 5 0 = -1 ∧ gD G w 4 0 ≤ 0)) ∧ S' = S) ∨ (v = some (.int (iI 1)) ∧ ((0 ≤ w ∧ w < gw G) ∧ gD G w 5 0 = -1 ∧ gD G w 4 0 ≤ 0) ∧ S'.1 574 = .inl (.boolean, 30, .inl fun k : Nat => iI ((X_ug bo w 1) (k : Int))) ∧ S'.1 575 = .inl (.int, 30, .inl fun k : Nat => iI ((X_ug va w vl) (k : Int))) ∧ (X_Fr (fun q => q = 574 ∨ q = 575) S S'))) := by
  have hc1 := hG.1
  have hst : ∀ w, 0 ≤ w → w < gw G → (gD G w 5 0 = -1 ∨ (0 ≤ gD G w 5 0 ∧ gD G w 5 0 ≤ 30)) ∧ 0 ≤ gD G w 4 0 ∧ gD G w 4 0 ≤ 4 := fun w h1 h2 => by
      have hz := (hG.2.2.2 w h1 h2).2.1
      refine ⟨?_, hz.1, hz.2.1⟩
      rcases hGs w h1 h2 with h | h
      · exact Or.inl h
      · exact Or.inr ⟨h.1.1, h.2.1⟩
  refine X_QI (fun Q hQ => ?_)
  refine T_p xr_191_0 xn_191 (pc' := 1) (ls' := [(0, .ref 530), (1, .int (iI w)), (2, .int (iI vl))]) (st' := [.ref 530]) rfl ?_
  refine T_p xr_191_1 xn_191 (pc' := 2) (ls' := [(0, .ref 530), (1, .int (iI w)), (2, .int (iI vl))]) (st' := [.int (iI w), .ref 530]) rfl ?_
  refine T_cv (S := S) (q := 530) xr_191_2 xf_165.1 xf_165.2.1 xn_165 (as := [.int (iI w)]) (r := []) rfl hO530 (Nat.le_of_ble_eq_true rfl) (Nat.le_of_ble_eq_true rfl) (pc' := 5) rfl (ls' := [(0, .ref 530), (1, .int (iI w))]) rfl ?_
  refine T_p xr_165_0 xn_165 (pc' := 1) (ls' := [(0, .ref 530), (1, .int (iI w))]) (st' := [.int (iI w)]) rfl ?_
  refine T_zif_lt xr_165_1 (t := 16) (pc' := 4) rfl rfl (fun c2333 => ?_) (fun c2333 => ?_)
  · skip
    have c2333 : w < 0 := c2333
    refine T_p xr_165_16 xn_165 (pc' := 17) (ls' := [(0, .ref 530), (1, .int (iI w))]) (st' := [.int (iI 0)]) rfl ?_
    refine T_iret xr_165_17 xf_165.2.2 (by decide) ?_
    show X_T sc 191 (5, [(0, .ref 530), (1, .int (iI w)), (2, .int (iI vl))], [.int (iI 0)], S) _
    refine T_zif_eqt xr_191_5 (t := 42) rfl (by decide) ?_
    refine T_p xr_191_42 xn_191 (pc' := 43) (ls' := [(0, .ref 530), (1, .int (iI w)), (2, .int (iI vl))]) (st' := [.int (iI 0)]) rfl ?_
    refine T_iret xr_191_43 xf_191.2.2 (by decide) ?_
    refine hQ _ _ ?_
    exact Or.inl ⟨rfl, (by omega), rfl⟩
  · skip
    have c2333 : ¬ (w < 0) := c2333
    refine T_p xr_165_4 xn_165 (pc' := 5) (ls' := [(0, .ref 530), (1, .int (iI w))]) (st' := [.int (iI w)]) rfl ?_
    refine T_p xr_165_5 xn_165 (pc' := 6) (ls' := [(0, .ref 530), (1, .int (iI w))]) (st' := [.ref 530, .int (iI w)]) rfl ?_
    refine T_get xr_165_6 hO530 rfl (v := .int (iI (gw G))) rfl (pc' := 9) rfl ?_
    refine T_zicmp_ge xr_165_9 (t := 16) (pc' := 12) rfl rfl (fun c2334 => ?_) (fun c2334 => ?_)
    · skip
      have c2334 : (gw G) ≤ w := c2334
      refine T_p xr_165_16 xn_165 (pc' := 17) (ls' := [(0, .ref 530), (1, .int (iI w))]) (st' := [.int (iI 0)]) rfl ?_
      refine T_iret xr_165_17 xf_165.2.2 (by decide) ?_
      show X_T sc 191 (5, [(0, .ref 530), (1, .int (iI w)), (2, .int (iI vl))], [.int (iI 0)], S) _
      refine T_zif_eqt xr_191_5 (t := 42) rfl (by decide) ?_
      refine T_p xr_191_42 xn_191 (pc' := 43) (ls' := [(0, .ref 530), (1, .int (iI w)), (2, .int (iI vl))]) (st' := [.int (iI 0)]) rfl ?_
      refine T_iret xr_191_43 xf_191.2.2 (by decide) ?_
      refine hQ _ _ ?_
      exact Or.inl ⟨rfl, (by omega), rfl⟩
    · skip
      have c2334 : ¬ ((gw G) ≤ w) := c2334
      refine T_p xr_165_12 xn_165 (pc' := 13) (ls' := [(0, .ref 530), (1, .int (iI w))]) (st' := [.int (iI 1)]) rfl ?_
      refine T_p xr_165_13 xn_165 (pc' := 17) (ls' := [(0, .ref 530), (1, .int (iI w))]) (st' := [.int (iI 1)]) rfl ?_
      refine T_iret xr_165_17 xf_165.2.2 (by decide) ?_
      show X_T sc 191 (5, [(0, .ref 530), (1, .int (iI w)), (2, .int (iI vl))], [.int (iI 1)], S) _
      refine T_zif_eqf xr_191_5 (t := 42) (pc' := 8) rfl rfl (by decide) ?_
      refine T_p xr_191_8 xn_191 (pc' := 9) (ls' := [(0, .ref 530), (1, .int (iI w)), (2, .int (iI vl))]) (st' := [.ref 530]) rfl ?_
      refine T_get xr_191_9 hO530 rfl (v := .ref 542) rfl (pc' := 12) rfl ?_
      refine T_p xr_191_12 xn_191 (pc' := 14) (ls' := [(0, .ref 530), (1, .int (iI w)), (2, .int (iI vl))]) (st' := [.int (iI 30), .ref 542]) rfl ?_
      refine T_p xr_191_14 xn_191 (pc' := 15) (ls' := [(0, .ref 530), (1, .int (iI w)), (2, .int (iI vl))]) (st' := [.ref 530, .int (iI 30), .ref 542]) rfl ?_
      refine T_get xr_191_15 hO530 rfl (v := .int (iI b)) rfl (pc' := 18) rfl ?_
      refine T_zimul xr_191_18 (z := 30 * b) rfl (pc' := 19) rfl ?_
      refine T_p xr_191_19 xn_191 (pc' := 20) (ls' := [(0, .ref 530), (1, .int (iI w)), (2, .int (iI vl))]) (st' := [.int (iI w), .int (iI (30 * b)), .ref 542]) rfl ?_
      refine T_ziadd xr_191_20 (z := (30 * b) + w) rfl (pc' := 21) rfl ?_
      refine T_ziald xr_191_21 hA542 (pc' := 22) rfl ?_
      have hsw := hst w (by omega) (by omega)
      refine T_ie (y := iI (gD G w 5 0)) (by rw [hWS w (by omega) (by omega)]) ?_
      refine T_zif_ge xr_191_22 (t := 42) (pc' := 25) rfl rfl (fun c2335 => ?_) (fun c2335 => ?_)
      · skip
        have c2335 : 0 ≤ (gD G w 5 0) := c2335
        refine T_p xr_191_42 xn_191 (pc' := 43) (ls' := [(0, .ref 530), (1, .int (iI w)), (2, .int (iI vl))]) (st' := [.int (iI 0)]) rfl ?_
        refine T_iret xr_191_43 xf_191.2.2 (by decide) ?_
        refine hQ _ _ ?_
        exact Or.inl ⟨rfl, (by omega), rfl⟩
      · skip
        have c2335 : ¬ (0 ≤ (gD G w 5 0)) := c2335
        refine T_p xr_191_25 xn_191 (pc' := 26) (ls' := [(0, .ref 530), (1, .int (iI w)), (2, .int (iI vl))]) (st' := [.ref 530]) rfl ?_
        refine T_get xr_191_26 hO530 rfl (v := .ref 541) rfl (pc' := 29) rfl ?_
        refine T_p xr_191_29 xn_191 (pc' := 31) (ls' := [(0, .ref 530), (1, .int (iI w)), (2, .int (iI vl))]) (st' := [.int (iI 30), .ref 541]) rfl ?_
        refine T_p xr_191_31 xn_191 (pc' := 32) (ls' := [(0, .ref 530), (1, .int (iI w)), (2, .int (iI vl))]) (st' := [.ref 530, .int (iI 30), .ref 541]) rfl ?_
        refine T_get xr_191_32 hO530 rfl (v := .int (iI b)) rfl (pc' := 35) rfl ?_
        refine T_zimul xr_191_35 (z := 30 * b) rfl (pc' := 36) rfl ?_
        refine T_p xr_191_36 xn_191 (pc' := 37) (ls' := [(0, .ref 530), (1, .int (iI w)), (2, .int (iI vl))]) (st' := [.int (iI w), .int (iI (30 * b)), .ref 541]) rfl ?_
        refine T_ziadd xr_191_37 (z := (30 * b) + w) rfl (pc' := 38) rfl ?_
        refine T_ziald xr_191_38 hA541 (pc' := 39) rfl ?_
        refine T_ie (y := iI (gD G w 4 0)) (by rw [hWH w (by omega) (by omega)]) ?_
        refine T_zif_le xr_191_39 (t := 44) (pc' := 42) rfl rfl (fun c2336 => ?_) (fun c2336 => ?_)
        · skip
          have c2336 : (gD G w 4 0) ≤ 0 := c2336
          refine T_p xr_191_44 xn_191 (pc' := 45) (ls' := [(0, .ref 530), (1, .int (iI w)), (2, .int (iI vl))]) (st' := [.ref 530]) rfl ?_
          refine T_get xr_191_45 hO530 rfl (v := .ref 574) rfl (pc' := 48) rfl ?_
          refine T_p xr_191_48 xn_191 (pc' := 49) (ls' := [(0, .ref 530), (1, .int (iI w)), (2, .int (iI vl))]) (st' := [.int (iI w), .ref 574]) rfl ?_
          refine T_p xr_191_49 xn_191 (pc' := 50) (ls' := [(0, .ref 530), (1, .int (iI w)), (2, .int (iI vl))]) (st' := [.int (iI 1), .int (iI w), .ref 574]) rfl ?_
          refine T_zzast xr_191_50 hA574 (pc' := 51) rfl (fun S2337 h2338 n2339 e2340 => ?_)
          refine T_p xr_191_51 xn_191 (pc' := 52) (ls' := [(0, .ref 530), (1, .int (iI w)), (2, .int (iI vl))]) (st' := [.ref 530]) rfl ?_
          have h2341 := (n2339 530 (by decide)).trans (hO530)
          refine T_get xr_191_52 h2341 rfl (v := .ref 575) rfl (pc' := 55) rfl ?_
          refine T_p xr_191_55 xn_191 (pc' := 56) (ls' := [(0, .ref 530), (1, .int (iI w)), (2, .int (iI vl))]) (st' := [.int (iI w), .ref 575]) rfl ?_
          refine T_p xr_191_56 xn_191 (pc' := 57) (ls' := [(0, .ref 530), (1, .int (iI w)), (2, .int (iI vl))]) (st' := [.int (iI vl), .int (iI w), .ref 575]) rfl ?_
          have h2342 := (n2339 575 (by decide)).trans (hA575)
          refine T_ziast xr_191_57 h2342 (pc' := 58) rfl (fun S2343 h2344 n2345 e2346 => ?_)
          refine T_p xr_191_58 xn_191 (pc' := 59) (ls' := [(0, .ref 530), (1, .int (iI w)), (2, .int (iI vl))]) (st' := [.int (iI 1)]) rfl ?_
          refine T_iret xr_191_59 xf_191.2.2 (by decide) ?_
          refine hQ _ _ ?_
          have h2347 := (n2345 574 (by decide)).trans (h2338)
          exact Or.inr ⟨rfl, (by omega), h2347, h2344, ((X_Fr.rf).tr (X_Fr.of n2339 e2340 (by omega))).tr (X_Fr.of n2345 e2346 (by omega))⟩
        · skip
          have c2336 : ¬ ((gD G w 4 0) ≤ 0) := c2336
          refine T_p xr_191_42 xn_191 (pc' := 43) (ls' := [(0, .ref 530), (1, .int (iI w)), (2, .int (iI vl))]) (st' := [.int (iI 0)]) rfl ?_
          refine T_iret xr_191_43 xf_191.2.2 (by decide) ?_
          refine hQ _ _ ?_
          exact Or.inl ⟨rfl, (by omega), rfl⟩
set_option maxHeartbeats 1600000 in
theorem r_isAgainst (sc : X_Sc) (S : X_S) (tg : Int → Int) (wR : Int → Int) (wL : Int → Int) (wM : Int → Int) (eP : Int → Int64) (o : Nat → Int) (nm : Int64) (b : Int) (rc : Int) (G : X_G) (tn : Int) (x : Int) (y : Int) (hO530 : S.1 530 = .inr (11, [.ref 531, .int (iI (o 1)), .ref 532, .int (iI (o 3)), .int (iI b), .int (iI (o 5)), .int (iI (o 6)), .int (iI (o 7)), .int (iI (o 8)), .int (iI (o 9)), .int (iI (o 10)), .int (iI (o 11)), .long nm, .ref 533, .ref 534, .ref 535, .ref 536, .ref 537, .ref 538, .ref 539, .ref 540, .ref 541, .ref 542, .ref 543, .ref 544, .ref 545, .ref 546, .ref 547, .int (iI rc), .int (iI (gk G)), .int (iI (gw G)), .int (iI (o 31)), .int (iI (o 32)), .int (iI (o 33)), .ref 548, .ref 549, .ref 550, .ref 551, .int (iI tn), .ref 552, .ref 553, .ref 554, .ref 555, .ref 556, .ref 557, .ref 558, .ref 559, .ref 560, .ref 561, .int (iI (o 49)), .ref 562, .ref 563, .ref 564, .ref 565, .ref 566, .ref 567, .ref 568, .ref 569, .int (iI (o 58)), .ref 570, .ref 571, .ref 572, .ref 573, .ref 574, .ref 575, .ref 576, .ref 577, .ref 578, .int (iI (o 68)), .int (iI (o 69)), .int (iI (o 70)), .ref 579])) (hA535 : S.1 535 = .inl (.boolean, 288, .inl fun k : Nat => iI (tg (k : Int)))) (hA537 : S.1 537 = .inl (.int, 60, .inl fun k : Nat => iI (wR (k : Int)))) (hA538 : S.1 538 = .inl (.int, 60, .inl fun k : Nat => iI (wL (k : Int)))) (hA540 : S.1 540 = .inl (.int, 60, .inl fun k : Nat => iI (wM (k : Int)))) (hA545 : S.1 545 = .inl (.long, 480, .inr (.inl fun k : Nat => eP (k : Int)))) (hbr : 0 ≤ b ∧ b ≤ 1) (hG : X_Gok G) (hTG : (∀ i j, 0 ≤ i → i < rc → 0 ≤ j → j < rc → tg (144 * b + 12 * i + j) = bI (X_bt (gl G i) j)) ∧ ∀ w, 0 ≤ w → w < gw G → gD G w 0 0 < rc) (hWR : ∀ w, 0 ≤ w → w < gw G → wR (30 * b + w) = gD G w 0 0) (hWL : ∀ w, 0 ≤ w → w < gw G → wL (30 * b + w) = gD G w 1 0) (hWM : ∀ w, 0 ≤ w → w < gw G → wM (30 * b + w) = gD G w 3 0) (hEP : ∀ w, 0 ≤ w → w < gw G → ∀ e, 0 ≤ e → e < gD G w 3 0 → eP (8 * (30 * b + w) + e) = gW G w e) (hx : 0 ≤ x ∧ x < gw G) (hy : 0 ≤ y ∧ y < gw G) : X_T sc 200 (0, [(0, .ref 530), (1, .int (iI x)), (2, .int (iI y))], [], S) (fun v S' => v = some (.int (iI (bI (X_ag (gl G) (gD G) (gW G) x y)))) ∧ S' = S) := by
  have hc1 := hG.1
  have hgx := hG.2.2.2 x hx.1 hx.2
  have hgy := hG.2.2.2 y hy.1 hy.2
  have hsx := hgx.1
  have hsy := hgy.1
  have hrx := hTG.2 x hx.1 hx.2
  have hry := hTG.2 y hy.1 hy.2
  have hrx2 := hgx.2.2.2.1
  have hlx := hgx.2.2.2.2.1
  have hly := hgy.2.2.2.2.1
  have hry2 := hgy.2.2.2.1
  have hex := X_en_r (gD G x) (gW G x)
  have hey := X_en_r (gD G y) (gW G y)
  refine X_QI (fun Q hQ => ?_)
  refine T_p xr_200_0 xn_200 (pc' := 2) (ls' := [(0, .ref 530), (1, .int (iI x)), (2, .int (iI y))]) (st' := [.int (iI 30)]) rfl ?_
  refine T_p xr_200_2 xn_200 (pc' := 3) (ls' := [(0, .ref 530), (1, .int (iI x)), (2, .int (iI y))]) (st' := [.ref 530, .int (iI 30)]) rfl ?_
  refine T_get xr_200_3 hO530 rfl (v := .int (iI b)) rfl (pc' := 6) rfl ?_
  refine T_zimul xr_200_6 (z := 30 * b) rfl (pc' := 7) rfl ?_
  refine T_p xr_200_7 xn_200 (pc' := 8) (ls' := [(0, .ref 530), (1, .int (iI x)), (2, .int (iI y))]) (st' := [.int (iI x), .int (iI (30 * b))]) rfl ?_
  refine T_ziadd xr_200_8 (z := (30 * b) + x) rfl (pc' := 9) rfl ?_
  refine T_p xr_200_9 xn_200 (pc' := 10) (ls' := [(3, .int (iI ((30 * b) + x))), (0, .ref 530), (1, .int (iI x)), (2, .int (iI y))]) (st' := []) rfl ?_
  refine T_p xr_200_10 xn_200 (pc' := 12) (ls' := [(3, .int (iI ((30 * b) + x))), (0, .ref 530), (1, .int (iI x)), (2, .int (iI y))]) (st' := [.int (iI 30)]) rfl ?_
  refine T_p xr_200_12 xn_200 (pc' := 13) (ls' := [(3, .int (iI ((30 * b) + x))), (0, .ref 530), (1, .int (iI x)), (2, .int (iI y))]) (st' := [.ref 530, .int (iI 30)]) rfl ?_
  refine T_get xr_200_13 hO530 rfl (v := .int (iI b)) rfl (pc' := 16) rfl ?_
  refine T_zimul xr_200_16 (z := 30 * b) rfl (pc' := 17) rfl ?_
  refine T_p xr_200_17 xn_200 (pc' := 18) (ls' := [(3, .int (iI ((30 * b) + x))), (0, .ref 530), (1, .int (iI x)), (2, .int (iI y))]) (st' := [.int (iI y), .int (iI (30 * b))]) rfl ?_
  refine T_ziadd xr_200_18 (z := (30 * b) + y) rfl (pc' := 19) rfl ?_
  refine T_p xr_200_19 xn_200 (pc' := 21) (ls' := [(4, .int (iI ((30 * b) + y))), (3, .int (iI ((30 * b) + x))), (0, .ref 530), (1, .int (iI x)), (2, .int (iI y))]) (st' := []) rfl ?_
  refine T_p xr_200_21 xn_200 (pc' := 22) (ls' := [(4, .int (iI ((30 * b) + y))), (3, .int (iI ((30 * b) + x))), (0, .ref 530), (1, .int (iI x)), (2, .int (iI y))]) (st' := [.int (iI 0)]) rfl ?_
  refine T_p xr_200_22 xn_200 (pc' := 24) (ls' := [(5, .int (iI 0)), (4, .int (iI ((30 * b) + y))), (3, .int (iI ((30 * b) + x))), (0, .ref 530), (1, .int (iI x)), (2, .int (iI y))]) (st' := []) rfl ?_
  have L2348 : ∀ (m2350 : Nat) (e : Int) (he : 0 ≤ e ∧ e ≤ gD G x 3 0) (hno : ∀ e1 m1, 0 ≤ e1 → e1 < e → 0 ≤ m1 → m1 < gD G y 3 0 → (x = y → e1 < m1) → ¬ gW G x e1 = 0 → ¬ gW G x e1 = gW G y m1) (hm2351 : gD G x 3 0 - e < m2350), X_T sc 200 (24, [(5, .int (iI e)), (4, .int (iI (30 * b + y))), (3, .int (iI (30 * b + x))), (2, .int (iI y)), (1, .int (iI x)), (0, .ref 530)], [], S) Q := by
    intro m2350
    induction m2350 with
    | zero =>
      intro e he hno hm2351
      exact (show False by omega).elim
    | succ m2350 ih2349 =>
      intro e he hno hm2351
      refine T_p xr_200_24 xn_200 (pc' := 26) (ls' := [(5, .int (iI e)), (4, .int (iI (30 * b + y))), (3, .int (iI (30 * b + x))), (2, .int (iI y)), (1, .int (iI x)), (0, .ref 530)]) (st' := [.int (iI e)]) rfl ?_
      refine T_p xr_200_26 xn_200 (pc' := 27) (ls' := [(5, .int (iI e)), (4, .int (iI (30 * b + y))), (3, .int (iI (30 * b + x))), (2, .int (iI y)), (1, .int (iI x)), (0, .ref 530)]) (st' := [.ref 530, .int (iI e)]) rfl ?_
      refine T_get xr_200_27 hO530 rfl (v := .ref 540) rfl (pc' := 30) rfl ?_
      refine T_p xr_200_30 xn_200 (pc' := 31) (ls' := [(5, .int (iI e)), (4, .int (iI (30 * b + y))), (3, .int (iI (30 * b + x))), (2, .int (iI y)), (1, .int (iI x)), (0, .ref 530)]) (st' := [.int (iI (30 * b + x)), .ref 540, .int (iI e)]) rfl ?_
      refine T_ziald xr_200_31 hA540 (pc' := 32) rfl ?_
      refine T_ie (y := iI (gD G x 3 0)) (by rw [hWM x (by omega) (by omega)]) ?_
      refine T_zicmp_ge xr_200_32 (t := 116) (pc' := 35) rfl rfl (fun c2353 => ?_) (fun c2353 => ?_)
      · skip
        have c2353 : (gD G x 3 0) ≤ e := c2353
        have hnt1 : x = y → ¬ X_h2 (gD G x) (gW G x) := by
          rintro hxy ⟨e1, k1, g1, g2, g3, g4, g5⟩
          exact hno e1 k1 g1 (by omega) (by omega) (by rw [← hxy]; exact g3) (fun _ => g2) (fun z => g4 ⟨g1, by omega, z⟩) (by rw [← hxy]; exact g5)
        have hnt2 : ¬ x = y → ¬ X_sp (gD G x) (gW G x) (gD G y) (gW G y) := by
          rintro hxy ⟨e1, g1, g2, g3, k1, g4, g5, g7⟩
          exact hno e1 k1 g1 (by omega) g4 g5 (fun z => absurd z hxy) (fun z => g3 ⟨g1, g2, z⟩) g7.symm
        refine T_p xr_200_116 xn_200 (pc' := 117) (ls' := [(5, .int (iI e)), (4, .int (iI (30 * b + y))), (3, .int (iI (30 * b + x))), (2, .int (iI y)), (1, .int (iI x)), (0, .ref 530)]) (st' := [.int (iI x)]) rfl ?_
        refine T_p xr_200_117 xn_200 (pc' := 118) (ls' := [(5, .int (iI e)), (4, .int (iI (30 * b + y))), (3, .int (iI (30 * b + x))), (2, .int (iI y)), (1, .int (iI x)), (0, .ref 530)]) (st' := [.int (iI y), .int (iI x)]) rfl ?_
        refine T_zicmp_ne xr_200_118 (t := 145) (pc' := 121) rfl rfl (fun c2354 => ?_) (fun c2354 => ?_)
        · skip
          have c2354 : ¬ x = y := c2354
          refine T_p xr_200_145 xn_200 (pc' := 146) (ls' := [(5, .int (iI e)), (4, .int (iI (30 * b + y))), (3, .int (iI (30 * b + x))), (2, .int (iI y)), (1, .int (iI x)), (0, .ref 530)]) (st' := [.ref 530]) rfl ?_
          refine T_p xr_200_146 xn_200 (pc' := 147) (ls' := [(5, .int (iI e)), (4, .int (iI (30 * b + y))), (3, .int (iI (30 * b + x))), (2, .int (iI y)), (1, .int (iI x)), (0, .ref 530)]) (st' := [.int (iI (30 * b + x)), .ref 530]) rfl ?_
          refine T_cv (S := S) (q := 530) xr_200_147 xf_160.1 xf_160.2.1 xn_160 (as := [.int (iI (30 * b + x))]) (r := []) rfl hO530 (Nat.le_of_ble_eq_true rfl) (Nat.le_of_ble_eq_true rfl) (pc' := 150) rfl (ls' := [(0, .ref 530), (1, .int (iI (30 * b + x)))]) rfl ?_
          refine T_mono (r_ends2 sc S wM eP o nm b rc G tn x hO530 hA540 hA545 (by omega) hG hWM hEP (by omega)) (fun v2355 S2356 h2357 => ?_)
          rcases h2357 with ⟨hv2358, hf2359⟩
          rw [hv2358]
          rw [hf2359]
          have hen2360 := X_en_r (gD G x) (gW G x)
          show X_T sc 200 (150, [(5, .int (iI e)), (4, .int (iI (30 * b + y))), (3, .int (iI (30 * b + x))), (2, .int (iI y)), (1, .int (iI x)), (0, .ref 530)], [.int (iI (X_en (gD G x) (gW G x)))], S) _
          refine T_zif_eq xr_200_150 (t := 202) (pc' := 153) rfl rfl (fun c2361 => ?_) (fun c2361 => ?_)
          · skip
            have c2361 : (X_en (gD G x) (gW G x)) = 0 := c2361
            refine T_p xr_200_202 xn_200 (pc' := 203) (ls' := [(5, .int (iI e)), (4, .int (iI (30 * b + y))), (3, .int (iI (30 * b + x))), (2, .int (iI y)), (1, .int (iI x)), (0, .ref 530)]) (st' := [.int (iI 0)]) rfl ?_
            refine T_iret xr_200_203 xf_200.2.2 (by decide) ?_
            refine hQ _ _ ?_
            exact ⟨(by rw [bI_f (by unfold X_ag; rintro (⟨h1, h2 | ⟨h2, h3⟩⟩ | ⟨h1, h2 | ⟨h2, h3, h4, h5, h6⟩⟩) <;> first | omega | exact hnt1 h1 h2 | exact hnt2 h1 h2 | contradiction | exact absurd ⟨by omega, by assumption, by omega⟩ h4)]), rfl⟩
          · skip
            have c2361 : ¬ ((X_en (gD G x) (gW G x)) = 0) := c2361
            refine T_p xr_200_153 xn_200 (pc' := 154) (ls' := [(5, .int (iI e)), (4, .int (iI (30 * b + y))), (3, .int (iI (30 * b + x))), (2, .int (iI y)), (1, .int (iI x)), (0, .ref 530)]) (st' := [.ref 530]) rfl ?_
            refine T_p xr_200_154 xn_200 (pc' := 156) (ls' := [(5, .int (iI e)), (4, .int (iI (30 * b + y))), (3, .int (iI (30 * b + x))), (2, .int (iI y)), (1, .int (iI x)), (0, .ref 530)]) (st' := [.int (iI (30 * b + y)), .ref 530]) rfl ?_
            refine T_cv (S := S) (q := 530) xr_200_156 xf_160.1 xf_160.2.1 xn_160 (as := [.int (iI (30 * b + y))]) (r := []) rfl hO530 (Nat.le_of_ble_eq_true rfl) (Nat.le_of_ble_eq_true rfl) (pc' := 159) rfl (ls' := [(0, .ref 530), (1, .int (iI (30 * b + y)))]) rfl ?_
            refine T_mono (r_ends2 sc S wM eP o nm b rc G tn y hO530 hA540 hA545 (by omega) hG hWM hEP (by omega)) (fun v2362 S2363 h2364 => ?_)
            rcases h2364 with ⟨hv2365, hf2366⟩
            rw [hv2365]
            rw [hf2366]
            have hen2367 := X_en_r (gD G y) (gW G y)
            show X_T sc 200 (159, [(5, .int (iI e)), (4, .int (iI (30 * b + y))), (3, .int (iI (30 * b + x))), (2, .int (iI y)), (1, .int (iI x)), (0, .ref 530)], [.int (iI (X_en (gD G y) (gW G y)))], S) _
            refine T_zif_eq xr_200_159 (t := 202) (pc' := 162) rfl rfl (fun c2368 => ?_) (fun c2368 => ?_)
            · skip
              have c2368 : (X_en (gD G y) (gW G y)) = 0 := c2368
              refine T_p xr_200_202 xn_200 (pc' := 203) (ls' := [(5, .int (iI e)), (4, .int (iI (30 * b + y))), (3, .int (iI (30 * b + x))), (2, .int (iI y)), (1, .int (iI x)), (0, .ref 530)]) (st' := [.int (iI 0)]) rfl ?_
              refine T_iret xr_200_203 xf_200.2.2 (by decide) ?_
              refine hQ _ _ ?_
              exact ⟨(by rw [bI_f (by unfold X_ag; rintro (⟨h1, h2 | ⟨h2, h3⟩⟩ | ⟨h1, h2 | ⟨h2, h3, h4, h5, h6⟩⟩) <;> first | omega | exact hnt1 h1 h2 | exact hnt2 h1 h2 | contradiction | exact absurd ⟨by omega, by assumption, by omega⟩ h4)]), rfl⟩
            · skip
              have c2368 : ¬ ((X_en (gD G y) (gW G y)) = 0) := c2368
              refine T_p xr_200_162 xn_200 (pc' := 163) (ls' := [(5, .int (iI e)), (4, .int (iI (30 * b + y))), (3, .int (iI (30 * b + x))), (2, .int (iI y)), (1, .int (iI x)), (0, .ref 530)]) (st' := [.ref 530]) rfl ?_
              refine T_p xr_200_163 xn_200 (pc' := 164) (ls' := [(5, .int (iI e)), (4, .int (iI (30 * b + y))), (3, .int (iI (30 * b + x))), (2, .int (iI y)), (1, .int (iI x)), (0, .ref 530)]) (st' := [.ref 530, .ref 530]) rfl ?_
              refine T_get xr_200_164 hO530 rfl (v := .ref 537) rfl (pc' := 167) rfl ?_
              refine T_p xr_200_167 xn_200 (pc' := 168) (ls' := [(5, .int (iI e)), (4, .int (iI (30 * b + y))), (3, .int (iI (30 * b + x))), (2, .int (iI y)), (1, .int (iI x)), (0, .ref 530)]) (st' := [.int (iI (30 * b + x)), .ref 537, .ref 530]) rfl ?_
              refine T_ziald xr_200_168 hA537 (pc' := 169) rfl ?_
              refine T_ie (y := iI (gD G x 0 0)) (by rw [hWR x (by omega) (by omega)]) ?_
              refine T_p xr_200_169 xn_200 (pc' := 170) (ls' := [(5, .int (iI e)), (4, .int (iI (30 * b + y))), (3, .int (iI (30 * b + x))), (2, .int (iI y)), (1, .int (iI x)), (0, .ref 530)]) (st' := [.ref 530, .int (iI (gD G x 0 0)), .ref 530]) rfl ?_
              refine T_get xr_200_170 hO530 rfl (v := .ref 537) rfl (pc' := 173) rfl ?_
              refine T_p xr_200_173 xn_200 (pc' := 175) (ls' := [(5, .int (iI e)), (4, .int (iI (30 * b + y))), (3, .int (iI (30 * b + x))), (2, .int (iI y)), (1, .int (iI x)), (0, .ref 530)]) (st' := [.int (iI (30 * b + y)), .ref 537, .int (iI (gD G x 0 0)), .ref 530]) rfl ?_
              refine T_ziald xr_200_175 hA537 (pc' := 176) rfl ?_
              refine T_ie (y := iI (gD G y 0 0)) (by rw [hWR y (by omega) (by omega)]) ?_
              refine T_cv (S := S) (q := 530) xr_200_176 xf_154.1 xf_154.2.1 xn_154 (as := [.int (iI (gD G x 0 0)), .int (iI (gD G y 0 0))]) (r := []) rfl hO530 (Nat.le_of_ble_eq_true rfl) (Nat.le_of_ble_eq_true rfl) (pc' := 179) rfl (ls' := [(0, .ref 530), (1, .int (iI (gD G x 0 0))), (2, .int (iI (gD G y 0 0)))]) rfl ?_
              refine T_p xr_154_0 xn_154 (pc' := 1) (ls' := [(0, .ref 530), (1, .int (iI (gD G x 0 0))), (2, .int (iI (gD G y 0 0)))]) (st' := [.ref 530]) rfl ?_
              refine T_get xr_154_1 hO530 rfl (v := .ref 535) rfl (pc' := 4) rfl ?_
              refine T_p xr_154_4 xn_154 (pc' := 7) (ls' := [(0, .ref 530), (1, .int (iI (gD G x 0 0))), (2, .int (iI (gD G y 0 0)))]) (st' := [.int (iI 144), .ref 535]) rfl ?_
              refine T_p xr_154_7 xn_154 (pc' := 8) (ls' := [(0, .ref 530), (1, .int (iI (gD G x 0 0))), (2, .int (iI (gD G y 0 0)))]) (st' := [.ref 530, .int (iI 144), .ref 535]) rfl ?_
              refine T_get xr_154_8 hO530 rfl (v := .int (iI b)) rfl (pc' := 11) rfl ?_
              refine T_zimul xr_154_11 (z := 144 * b) rfl (pc' := 12) rfl ?_
              refine T_p xr_154_12 xn_154 (pc' := 14) (ls' := [(0, .ref 530), (1, .int (iI (gD G x 0 0))), (2, .int (iI (gD G y 0 0)))]) (st' := [.int (iI 12), .int (iI (144 * b)), .ref 535]) rfl ?_
              refine T_p xr_154_14 xn_154 (pc' := 15) (ls' := [(0, .ref 530), (1, .int (iI (gD G x 0 0))), (2, .int (iI (gD G y 0 0)))]) (st' := [.int (iI (gD G x 0 0)), .int (iI 12), .int (iI (144 * b)), .ref 535]) rfl ?_
              refine T_zimul xr_154_15 (z := 12 * (gD G x 0 0)) rfl (pc' := 16) rfl ?_
              refine T_ziadd xr_154_16 (z := (144 * b) + (12 * (gD G x 0 0))) rfl (pc' := 17) rfl ?_
              refine T_p xr_154_17 xn_154 (pc' := 18) (ls' := [(0, .ref 530), (1, .int (iI (gD G x 0 0))), (2, .int (iI (gD G y 0 0)))]) (st' := [.int (iI (gD G y 0 0)), .int (iI ((144 * b) + (12 * (gD G x 0 0)))), .ref 535]) rfl ?_
              refine T_ziadd xr_154_18 (z := ((144 * b) + (12 * (gD G x 0 0))) + (gD G y 0 0)) rfl (pc' := 19) rfl ?_
              refine T_zzald xr_154_19 hA535 (pc' := 20) rfl ?_
              refine T_ie (y := iI (bI (X_bt (gl G (gD G x 0 0)) (gD G y 0 0)))) (congrArg iI (hTG.1 (gD G x 0 0) (gD G y 0 0) (by omega) (by omega) (by omega) (by omega))) ?_
              refine T_iret xr_154_20 xf_154.2.2 (X_fit_b _) ?_
              show X_T sc 200 (179, [(5, .int (iI e)), (4, .int (iI (30 * b + y))), (3, .int (iI (30 * b + x))), (2, .int (iI y)), (1, .int (iI x)), (0, .ref 530)], [.int (iI (bI (X_bt (gl G (gD G x 0 0)) (gD G y 0 0))))], S) _
              refine T_bif_ne xr_200_179 (t := 202) (pc' := 182) rfl rfl (fun c2369 => ?_) (fun c2369 => ?_)
              · skip
                have c2369 : (X_bt (gl G (gD G x 0 0)) (gD G y 0 0)) := c2369
                refine T_p xr_200_202 xn_200 (pc' := 203) (ls' := [(5, .int (iI e)), (4, .int (iI (30 * b + y))), (3, .int (iI (30 * b + x))), (2, .int (iI y)), (1, .int (iI x)), (0, .ref 530)]) (st' := [.int (iI 0)]) rfl ?_
                refine T_iret xr_200_203 xf_200.2.2 (by decide) ?_
                refine hQ _ _ ?_
                exact ⟨(by rw [bI_f (by unfold X_ag; rintro (⟨h1, h2 | ⟨h2, h3⟩⟩ | ⟨h1, h2 | ⟨h2, h3, h4, h5, h6⟩⟩) <;> first | omega | exact hnt1 h1 h2 | exact hnt2 h1 h2 | contradiction | exact absurd ⟨by omega, by assumption, by omega⟩ h4)]), rfl⟩
              · skip
                have c2369 : ¬ (X_bt (gl G (gD G x 0 0)) (gD G y 0 0)) := c2369
                refine T_p xr_200_182 xn_200 (pc' := 183) (ls' := [(5, .int (iI e)), (4, .int (iI (30 * b + y))), (3, .int (iI (30 * b + x))), (2, .int (iI y)), (1, .int (iI x)), (0, .ref 530)]) (st' := [.ref 530]) rfl ?_
                refine T_p xr_200_183 xn_200 (pc' := 184) (ls' := [(5, .int (iI e)), (4, .int (iI (30 * b + y))), (3, .int (iI (30 * b + x))), (2, .int (iI y)), (1, .int (iI x)), (0, .ref 530)]) (st' := [.ref 530, .ref 530]) rfl ?_
                refine T_get xr_200_184 hO530 rfl (v := .ref 537) rfl (pc' := 187) rfl ?_
                refine T_p xr_200_187 xn_200 (pc' := 189) (ls' := [(5, .int (iI e)), (4, .int (iI (30 * b + y))), (3, .int (iI (30 * b + x))), (2, .int (iI y)), (1, .int (iI x)), (0, .ref 530)]) (st' := [.int (iI (30 * b + y)), .ref 537, .ref 530]) rfl ?_
                refine T_ziald xr_200_189 hA537 (pc' := 190) rfl ?_
                refine T_ie (y := iI (gD G y 0 0)) (by rw [hWR y (by omega) (by omega)]) ?_
                refine T_p xr_200_190 xn_200 (pc' := 191) (ls' := [(5, .int (iI e)), (4, .int (iI (30 * b + y))), (3, .int (iI (30 * b + x))), (2, .int (iI y)), (1, .int (iI x)), (0, .ref 530)]) (st' := [.ref 530, .int (iI (gD G y 0 0)), .ref 530]) rfl ?_
                refine T_get xr_200_191 hO530 rfl (v := .ref 537) rfl (pc' := 194) rfl ?_
                refine T_p xr_200_194 xn_200 (pc' := 195) (ls' := [(5, .int (iI e)), (4, .int (iI (30 * b + y))), (3, .int (iI (30 * b + x))), (2, .int (iI y)), (1, .int (iI x)), (0, .ref 530)]) (st' := [.int (iI (30 * b + x)), .ref 537, .int (iI (gD G y 0 0)), .ref 530]) rfl ?_
                refine T_ziald xr_200_195 hA537 (pc' := 196) rfl ?_
                refine T_ie (y := iI (gD G x 0 0)) (by rw [hWR x (by omega) (by omega)]) ?_
                refine T_cv (S := S) (q := 530) xr_200_196 xf_154.1 xf_154.2.1 xn_154 (as := [.int (iI (gD G y 0 0)), .int (iI (gD G x 0 0))]) (r := []) rfl hO530 (Nat.le_of_ble_eq_true rfl) (Nat.le_of_ble_eq_true rfl) (pc' := 199) rfl (ls' := [(0, .ref 530), (1, .int (iI (gD G y 0 0))), (2, .int (iI (gD G x 0 0)))]) rfl ?_
                refine T_p xr_154_0 xn_154 (pc' := 1) (ls' := [(0, .ref 530), (1, .int (iI (gD G y 0 0))), (2, .int (iI (gD G x 0 0)))]) (st' := [.ref 530]) rfl ?_
                refine T_get xr_154_1 hO530 rfl (v := .ref 535) rfl (pc' := 4) rfl ?_
                refine T_p xr_154_4 xn_154 (pc' := 7) (ls' := [(0, .ref 530), (1, .int (iI (gD G y 0 0))), (2, .int (iI (gD G x 0 0)))]) (st' := [.int (iI 144), .ref 535]) rfl ?_
                refine T_p xr_154_7 xn_154 (pc' := 8) (ls' := [(0, .ref 530), (1, .int (iI (gD G y 0 0))), (2, .int (iI (gD G x 0 0)))]) (st' := [.ref 530, .int (iI 144), .ref 535]) rfl ?_
                refine T_get xr_154_8 hO530 rfl (v := .int (iI b)) rfl (pc' := 11) rfl ?_
                refine T_zimul xr_154_11 (z := 144 * b) rfl (pc' := 12) rfl ?_
                refine T_p xr_154_12 xn_154 (pc' := 14) (ls' := [(0, .ref 530), (1, .int (iI (gD G y 0 0))), (2, .int (iI (gD G x 0 0)))]) (st' := [.int (iI 12), .int (iI (144 * b)), .ref 535]) rfl ?_
                refine T_p xr_154_14 xn_154 (pc' := 15) (ls' := [(0, .ref 530), (1, .int (iI (gD G y 0 0))), (2, .int (iI (gD G x 0 0)))]) (st' := [.int (iI (gD G y 0 0)), .int (iI 12), .int (iI (144 * b)), .ref 535]) rfl ?_
                refine T_zimul xr_154_15 (z := 12 * (gD G y 0 0)) rfl (pc' := 16) rfl ?_
                refine T_ziadd xr_154_16 (z := (144 * b) + (12 * (gD G y 0 0))) rfl (pc' := 17) rfl ?_
                refine T_p xr_154_17 xn_154 (pc' := 18) (ls' := [(0, .ref 530), (1, .int (iI (gD G y 0 0))), (2, .int (iI (gD G x 0 0)))]) (st' := [.int (iI (gD G x 0 0)), .int (iI ((144 * b) + (12 * (gD G y 0 0)))), .ref 535]) rfl ?_
                refine T_ziadd xr_154_18 (z := ((144 * b) + (12 * (gD G y 0 0))) + (gD G x 0 0)) rfl (pc' := 19) rfl ?_
                refine T_zzald xr_154_19 hA535 (pc' := 20) rfl ?_
                refine T_ie (y := iI (bI (X_bt (gl G (gD G y 0 0)) (gD G x 0 0)))) (congrArg iI (hTG.1 (gD G y 0 0) (gD G x 0 0) (by omega) (by omega) (by omega) (by omega))) ?_
                refine T_iret xr_154_20 xf_154.2.2 (X_fit_b _) ?_
                show X_T sc 200 (199, [(5, .int (iI e)), (4, .int (iI (30 * b + y))), (3, .int (iI (30 * b + x))), (2, .int (iI y)), (1, .int (iI x)), (0, .ref 530)], [.int (iI (bI (X_bt (gl G (gD G y 0 0)) (gD G x 0 0))))], S) _
                refine T_bif_eq xr_200_199 (t := 204) (pc' := 202) rfl rfl (fun c2370 => ?_) (fun c2370 => ?_)
                · skip
                  have c2370 : ¬ (X_bt (gl G (gD G y 0 0)) (gD G x 0 0)) := c2370
                  refine T_p xr_200_204 xn_200 (pc' := 205) (ls' := [(5, .int (iI e)), (4, .int (iI (30 * b + y))), (3, .int (iI (30 * b + x))), (2, .int (iI y)), (1, .int (iI x)), (0, .ref 530)]) (st' := [.ref 530]) rfl ?_
                  refine T_get xr_200_205 hO530 rfl (v := .ref 537) rfl (pc' := 208) rfl ?_
                  refine T_p xr_200_208 xn_200 (pc' := 209) (ls' := [(5, .int (iI e)), (4, .int (iI (30 * b + y))), (3, .int (iI (30 * b + x))), (2, .int (iI y)), (1, .int (iI x)), (0, .ref 530)]) (st' := [.int (iI (30 * b + x)), .ref 537]) rfl ?_
                  refine T_ziald xr_200_209 hA537 (pc' := 210) rfl ?_
                  refine T_ie (y := iI (gD G x 0 0)) (by rw [hWR x (by omega) (by omega)]) ?_
                  refine T_p xr_200_210 xn_200 (pc' := 211) (ls' := [(5, .int (iI e)), (4, .int (iI (30 * b + y))), (3, .int (iI (30 * b + x))), (2, .int (iI y)), (1, .int (iI x)), (0, .ref 530)]) (st' := [.ref 530, .int (iI (gD G x 0 0))]) rfl ?_
                  refine T_get xr_200_211 hO530 rfl (v := .ref 537) rfl (pc' := 214) rfl ?_
                  refine T_p xr_200_214 xn_200 (pc' := 216) (ls' := [(5, .int (iI e)), (4, .int (iI (30 * b + y))), (3, .int (iI (30 * b + x))), (2, .int (iI y)), (1, .int (iI x)), (0, .ref 530)]) (st' := [.int (iI (30 * b + y)), .ref 537, .int (iI (gD G x 0 0))]) rfl ?_
                  refine T_ziald xr_200_216 hA537 (pc' := 217) rfl ?_
                  refine T_ie (y := iI (gD G y 0 0)) (by rw [hWR y (by omega) (by omega)]) ?_
                  refine T_zicmp_ne xr_200_217 (t := 245) (pc' := 220) rfl rfl (fun c2371 => ?_) (fun c2371 => ?_)
                  · skip
                    have c2371 : ¬ (gD G x 0 0) = (gD G y 0 0) := c2371
                    refine T_p xr_200_245 xn_200 (pc' := 246) (ls' := [(5, .int (iI e)), (4, .int (iI (30 * b + y))), (3, .int (iI (30 * b + x))), (2, .int (iI y)), (1, .int (iI x)), (0, .ref 530)]) (st' := [.int (iI 1)]) rfl ?_
                    refine T_p xr_200_246 xn_200 (pc' := 250) (ls' := [(5, .int (iI e)), (4, .int (iI (30 * b + y))), (3, .int (iI (30 * b + x))), (2, .int (iI y)), (1, .int (iI x)), (0, .ref 530)]) (st' := [.int (iI 1)]) rfl ?_
                    refine T_iret xr_200_250 xf_200.2.2 (by decide) ?_
                    refine hQ _ _ ?_
                    refine ⟨(by rw [bI_t (by unfold X_ag; first
                            | (by_cases hxy : x = y
                               · refine Or.inl ⟨hxy, Or.inl ⟨e, m, by omega, by omega, by rw [hxy]; omega, (show ¬ X_hl (gD G x) (gW G x) e from fun z => absurd z.2.2 (show ¬ gW G x e = iL 0 by assumption)), ?_⟩⟩
                                 have hq : gW G x e = gW G y m := by first | assumption | exact Classical.not_not.mp (by assumption)
                                 rw [hq, hxy]
                               · refine Or.inr ⟨hxy, Or.inl ⟨e, by omega, by omega, (show ¬ X_hl (gD G x) (gW G x) e from fun z => absurd z.2.2 (show ¬ gW G x e = iL 0 by assumption)), m, by omega, by omega, ?_⟩⟩
                                 exact (show gW G x e = gW G y m by first | assumption | exact Classical.not_not.mp (by assumption)).symm)
                            | exact Or.inl ⟨by omega, Or.inr ⟨by omega, by omega⟩⟩
                            | exact Or.inr ⟨by omega, Or.inr ⟨by assumption, by assumption, fun z => by omega, by assumption, by assumption⟩⟩)]), rfl⟩
                  · skip
                    have c2371 : ¬ (¬ (gD G x 0 0) = (gD G y 0 0)) := c2371
                    refine T_p xr_200_220 xn_200 (pc' := 221) (ls' := [(5, .int (iI e)), (4, .int (iI (30 * b + y))), (3, .int (iI (30 * b + x))), (2, .int (iI y)), (1, .int (iI x)), (0, .ref 530)]) (st' := [.ref 530]) rfl ?_
                    refine T_get xr_200_221 hO530 rfl (v := .ref 538) rfl (pc' := 224) rfl ?_
                    refine T_p xr_200_224 xn_200 (pc' := 225) (ls' := [(5, .int (iI e)), (4, .int (iI (30 * b + y))), (3, .int (iI (30 * b + x))), (2, .int (iI y)), (1, .int (iI x)), (0, .ref 530)]) (st' := [.int (iI (30 * b + x)), .ref 538]) rfl ?_
                    refine T_ziald xr_200_225 hA538 (pc' := 226) rfl ?_
                    refine T_ie (y := iI (gD G x 1 0)) (by rw [hWL x (by omega) (by omega)]) ?_
                    refine T_zif_eq xr_200_226 (t := 245) (pc' := 229) rfl rfl (fun c2372 => ?_) (fun c2372 => ?_)
                    · skip
                      have c2372 : (gD G x 1 0) = 0 := c2372
                      refine T_p xr_200_245 xn_200 (pc' := 246) (ls' := [(5, .int (iI e)), (4, .int (iI (30 * b + y))), (3, .int (iI (30 * b + x))), (2, .int (iI y)), (1, .int (iI x)), (0, .ref 530)]) (st' := [.int (iI 1)]) rfl ?_
                      refine T_p xr_200_246 xn_200 (pc' := 250) (ls' := [(5, .int (iI e)), (4, .int (iI (30 * b + y))), (3, .int (iI (30 * b + x))), (2, .int (iI y)), (1, .int (iI x)), (0, .ref 530)]) (st' := [.int (iI 1)]) rfl ?_
                      refine T_iret xr_200_250 xf_200.2.2 (by decide) ?_
                      refine hQ _ _ ?_
                      refine ⟨(by rw [bI_t (by unfold X_ag; first
                              | (by_cases hxy : x = y
                                 · refine Or.inl ⟨hxy, Or.inl ⟨e, m, by omega, by omega, by rw [hxy]; omega, (show ¬ X_hl (gD G x) (gW G x) e from fun z => absurd z.2.2 (show ¬ gW G x e = iL 0 by assumption)), ?_⟩⟩
                                   have hq : gW G x e = gW G y m := by first | assumption | exact Classical.not_not.mp (by assumption)
                                   rw [hq, hxy]
                                 · refine Or.inr ⟨hxy, Or.inl ⟨e, by omega, by omega, (show ¬ X_hl (gD G x) (gW G x) e from fun z => absurd z.2.2 (show ¬ gW G x e = iL 0 by assumption)), m, by omega, by omega, ?_⟩⟩
                                   exact (show gW G x e = gW G y m by first | assumption | exact Classical.not_not.mp (by assumption)).symm)
                              | exact Or.inl ⟨by omega, Or.inr ⟨by omega, by omega⟩⟩
                              | exact Or.inr ⟨by omega, Or.inr ⟨by assumption, by assumption, fun z => by omega, by assumption, by assumption⟩⟩)]), rfl⟩
                    · skip
                      have c2372 : ¬ ((gD G x 1 0) = 0) := c2372
                      refine T_p xr_200_229 xn_200 (pc' := 230) (ls' := [(5, .int (iI e)), (4, .int (iI (30 * b + y))), (3, .int (iI (30 * b + x))), (2, .int (iI y)), (1, .int (iI x)), (0, .ref 530)]) (st' := [.ref 530]) rfl ?_
                      refine T_get xr_200_230 hO530 rfl (v := .ref 538) rfl (pc' := 233) rfl ?_
                      refine T_p xr_200_233 xn_200 (pc' := 234) (ls' := [(5, .int (iI e)), (4, .int (iI (30 * b + y))), (3, .int (iI (30 * b + x))), (2, .int (iI y)), (1, .int (iI x)), (0, .ref 530)]) (st' := [.int (iI (30 * b + x)), .ref 538]) rfl ?_
                      refine T_ziald xr_200_234 hA538 (pc' := 235) rfl ?_
                      refine T_ie (y := iI (gD G x 1 0)) (by rw [hWL x (by omega) (by omega)]) ?_
                      refine T_p xr_200_235 xn_200 (pc' := 236) (ls' := [(5, .int (iI e)), (4, .int (iI (30 * b + y))), (3, .int (iI (30 * b + x))), (2, .int (iI y)), (1, .int (iI x)), (0, .ref 530)]) (st' := [.ref 530, .int (iI (gD G x 1 0))]) rfl ?_
                      refine T_get xr_200_236 hO530 rfl (v := .ref 538) rfl (pc' := 239) rfl ?_
                      refine T_p xr_200_239 xn_200 (pc' := 241) (ls' := [(5, .int (iI e)), (4, .int (iI (30 * b + y))), (3, .int (iI (30 * b + x))), (2, .int (iI y)), (1, .int (iI x)), (0, .ref 530)]) (st' := [.int (iI (30 * b + y)), .ref 538, .int (iI (gD G x 1 0))]) rfl ?_
                      refine T_ziald xr_200_241 hA538 (pc' := 242) rfl ?_
                      refine T_ie (y := iI (gD G y 1 0)) (by rw [hWL y (by omega) (by omega)]) ?_
                      refine T_zicmp_eq xr_200_242 (t := 249) (pc' := 245) rfl rfl (fun c2373 => ?_) (fun c2373 => ?_)
                      · skip
                        have c2373 : (gD G x 1 0) = (gD G y 1 0) := c2373
                        refine T_p xr_200_249 xn_200 (pc' := 250) (ls' := [(5, .int (iI e)), (4, .int (iI (30 * b + y))), (3, .int (iI (30 * b + x))), (2, .int (iI y)), (1, .int (iI x)), (0, .ref 530)]) (st' := [.int (iI 0)]) rfl ?_
                        refine T_iret xr_200_250 xf_200.2.2 (by decide) ?_
                        refine hQ _ _ ?_
                        exact ⟨(by rw [bI_f (by unfold X_ag; rintro (⟨h1, h2 | ⟨h2, h3⟩⟩ | ⟨h1, h2 | ⟨h2, h3, h4, h5, h6⟩⟩) <;> first | omega | exact hnt1 h1 h2 | exact hnt2 h1 h2 | contradiction | exact absurd ⟨by omega, by assumption, by omega⟩ h4)]), rfl⟩
                      · skip
                        have c2373 : ¬ ((gD G x 1 0) = (gD G y 1 0)) := c2373
                        refine T_p xr_200_245 xn_200 (pc' := 246) (ls' := [(5, .int (iI e)), (4, .int (iI (30 * b + y))), (3, .int (iI (30 * b + x))), (2, .int (iI y)), (1, .int (iI x)), (0, .ref 530)]) (st' := [.int (iI 1)]) rfl ?_
                        refine T_p xr_200_246 xn_200 (pc' := 250) (ls' := [(5, .int (iI e)), (4, .int (iI (30 * b + y))), (3, .int (iI (30 * b + x))), (2, .int (iI y)), (1, .int (iI x)), (0, .ref 530)]) (st' := [.int (iI 1)]) rfl ?_
                        refine T_iret xr_200_250 xf_200.2.2 (by decide) ?_
                        refine hQ _ _ ?_
                        refine ⟨(by rw [bI_t (by unfold X_ag; first
                                | (by_cases hxy : x = y
                                   · refine Or.inl ⟨hxy, Or.inl ⟨e, m, by omega, by omega, by rw [hxy]; omega, (show ¬ X_hl (gD G x) (gW G x) e from fun z => absurd z.2.2 (show ¬ gW G x e = iL 0 by assumption)), ?_⟩⟩
                                     have hq : gW G x e = gW G y m := by first | assumption | exact Classical.not_not.mp (by assumption)
                                     rw [hq, hxy]
                                   · refine Or.inr ⟨hxy, Or.inl ⟨e, by omega, by omega, (show ¬ X_hl (gD G x) (gW G x) e from fun z => absurd z.2.2 (show ¬ gW G x e = iL 0 by assumption)), m, by omega, by omega, ?_⟩⟩
                                     exact (show gW G x e = gW G y m by first | assumption | exact Classical.not_not.mp (by assumption)).symm)
                                | exact Or.inl ⟨by omega, Or.inr ⟨by omega, by omega⟩⟩
                                | exact Or.inr ⟨by omega, Or.inr ⟨by assumption, by assumption, fun z => by omega, by assumption, by assumption⟩⟩)]), rfl⟩
                · skip
                  have c2370 : (X_bt (gl G (gD G y 0 0)) (gD G x 0 0)) := c2370
                  refine T_p xr_200_202 xn_200 (pc' := 203) (ls' := [(5, .int (iI e)), (4, .int (iI (30 * b + y))), (3, .int (iI (30 * b + x))), (2, .int (iI y)), (1, .int (iI x)), (0, .ref 530)]) (st' := [.int (iI 0)]) rfl ?_
                  refine T_iret xr_200_203 xf_200.2.2 (by decide) ?_
                  refine hQ _ _ ?_
                  exact ⟨(by rw [bI_f (by unfold X_ag; rintro (⟨h1, h2 | ⟨h2, h3⟩⟩ | ⟨h1, h2 | ⟨h2, h3, h4, h5, h6⟩⟩) <;> first | omega | exact hnt1 h1 h2 | exact hnt2 h1 h2 | contradiction | exact absurd ⟨by omega, by assumption, by omega⟩ h4)]), rfl⟩
        · skip
          have c2354 : ¬ (¬ x = y) := c2354
          refine T_p xr_200_121 xn_200 (pc' := 122) (ls' := [(5, .int (iI e)), (4, .int (iI (30 * b + y))), (3, .int (iI (30 * b + x))), (2, .int (iI y)), (1, .int (iI x)), (0, .ref 530)]) (st' := [.ref 530]) rfl ?_
          refine T_p xr_200_122 xn_200 (pc' := 123) (ls' := [(5, .int (iI e)), (4, .int (iI (30 * b + y))), (3, .int (iI (30 * b + x))), (2, .int (iI y)), (1, .int (iI x)), (0, .ref 530)]) (st' := [.int (iI (30 * b + x)), .ref 530]) rfl ?_
          refine T_cv (S := S) (q := 530) xr_200_123 xf_160.1 xf_160.2.1 xn_160 (as := [.int (iI (30 * b + x))]) (r := []) rfl hO530 (Nat.le_of_ble_eq_true rfl) (Nat.le_of_ble_eq_true rfl) (pc' := 126) rfl (ls' := [(0, .ref 530), (1, .int (iI (30 * b + x)))]) rfl ?_
          refine T_mono (r_ends2 sc S wM eP o nm b rc G tn x hO530 hA540 hA545 (by omega) hG hWM hEP (by omega)) (fun v2374 S2375 h2376 => ?_)
          rcases h2376 with ⟨hv2377, hf2378⟩
          rw [hv2377]
          rw [hf2378]
          have hen2379 := X_en_r (gD G x) (gW G x)
          show X_T sc 200 (126, [(5, .int (iI e)), (4, .int (iI (30 * b + y))), (3, .int (iI (30 * b + x))), (2, .int (iI y)), (1, .int (iI x)), (0, .ref 530)], [.int (iI (X_en (gD G x) (gW G x)))], S) _
          refine T_p xr_200_126 xn_200 (pc' := 127) (ls' := [(5, .int (iI e)), (4, .int (iI (30 * b + y))), (3, .int (iI (30 * b + x))), (2, .int (iI y)), (1, .int (iI x)), (0, .ref 530)]) (st' := [.int (iI 3), .int (iI (X_en (gD G x) (gW G x)))]) rfl ?_
          refine T_zicmp_ne xr_200_127 (t := 143) (pc' := 130) rfl rfl (fun c2380 => ?_) (fun c2380 => ?_)
          · skip
            have c2380 : ¬ (X_en (gD G x) (gW G x)) = 3 := c2380
            refine T_p xr_200_143 xn_200 (pc' := 144) (ls' := [(5, .int (iI e)), (4, .int (iI (30 * b + y))), (3, .int (iI (30 * b + x))), (2, .int (iI y)), (1, .int (iI x)), (0, .ref 530)]) (st' := [.int (iI 0)]) rfl ?_
            refine T_iret xr_200_144 xf_200.2.2 (by decide) ?_
            refine hQ _ _ ?_
            exact ⟨(by rw [bI_f (by unfold X_ag; rintro (⟨h1, h2 | ⟨h2, h3⟩⟩ | ⟨h1, h2 | ⟨h2, h3, h4, h5, h6⟩⟩) <;> first | omega | exact hnt1 h1 h2 | exact hnt2 h1 h2 | contradiction | exact absurd ⟨by omega, by assumption, by omega⟩ h4)]), rfl⟩
          · skip
            have c2380 : ¬ (¬ (X_en (gD G x) (gW G x)) = 3) := c2380
            refine T_p xr_200_130 xn_200 (pc' := 131) (ls' := [(5, .int (iI e)), (4, .int (iI (30 * b + y))), (3, .int (iI (30 * b + x))), (2, .int (iI y)), (1, .int (iI x)), (0, .ref 530)]) (st' := [.ref 530]) rfl ?_
            refine T_get xr_200_131 hO530 rfl (v := .ref 538) rfl (pc' := 134) rfl ?_
            refine T_p xr_200_134 xn_200 (pc' := 135) (ls' := [(5, .int (iI e)), (4, .int (iI (30 * b + y))), (3, .int (iI (30 * b + x))), (2, .int (iI y)), (1, .int (iI x)), (0, .ref 530)]) (st' := [.int (iI (30 * b + x)), .ref 538]) rfl ?_
            refine T_ziald xr_200_135 hA538 (pc' := 136) rfl ?_
            refine T_ie (y := iI (gD G x 1 0)) (by rw [hWL x (by omega) (by omega)]) ?_
            refine T_zif_ne xr_200_136 (t := 143) (pc' := 139) rfl rfl (fun c2381 => ?_) (fun c2381 => ?_)
            · skip
              have c2381 : ¬ (gD G x 1 0) = 0 := c2381
              refine T_p xr_200_143 xn_200 (pc' := 144) (ls' := [(5, .int (iI e)), (4, .int (iI (30 * b + y))), (3, .int (iI (30 * b + x))), (2, .int (iI y)), (1, .int (iI x)), (0, .ref 530)]) (st' := [.int (iI 0)]) rfl ?_
              refine T_iret xr_200_144 xf_200.2.2 (by decide) ?_
              refine hQ _ _ ?_
              exact ⟨(by rw [bI_f (by unfold X_ag; rintro (⟨h1, h2 | ⟨h2, h3⟩⟩ | ⟨h1, h2 | ⟨h2, h3, h4, h5, h6⟩⟩) <;> first | omega | exact hnt1 h1 h2 | exact hnt2 h1 h2 | contradiction | exact absurd ⟨by omega, by assumption, by omega⟩ h4)]), rfl⟩
            · skip
              have c2381 : ¬ (¬ (gD G x 1 0) = 0) := c2381
              refine T_p xr_200_139 xn_200 (pc' := 140) (ls' := [(5, .int (iI e)), (4, .int (iI (30 * b + y))), (3, .int (iI (30 * b + x))), (2, .int (iI y)), (1, .int (iI x)), (0, .ref 530)]) (st' := [.int (iI 1)]) rfl ?_
              refine T_p xr_200_140 xn_200 (pc' := 144) (ls' := [(5, .int (iI e)), (4, .int (iI (30 * b + y))), (3, .int (iI (30 * b + x))), (2, .int (iI y)), (1, .int (iI x)), (0, .ref 530)]) (st' := [.int (iI 1)]) rfl ?_
              refine T_iret xr_200_144 xf_200.2.2 (by decide) ?_
              refine hQ _ _ ?_
              refine ⟨(by rw [bI_t (by unfold X_ag; first
                      | (by_cases hxy : x = y
                         · refine Or.inl ⟨hxy, Or.inl ⟨e, m, by omega, by omega, by rw [hxy]; omega, (show ¬ X_hl (gD G x) (gW G x) e from fun z => absurd z.2.2 (show ¬ gW G x e = iL 0 by assumption)), ?_⟩⟩
                           have hq : gW G x e = gW G y m := by first | assumption | exact Classical.not_not.mp (by assumption)
                           rw [hq, hxy]
                         · refine Or.inr ⟨hxy, Or.inl ⟨e, by omega, by omega, (show ¬ X_hl (gD G x) (gW G x) e from fun z => absurd z.2.2 (show ¬ gW G x e = iL 0 by assumption)), m, by omega, by omega, ?_⟩⟩
                           exact (show gW G x e = gW G y m by first | assumption | exact Classical.not_not.mp (by assumption)).symm)
                      | exact Or.inl ⟨by omega, Or.inr ⟨by omega, by omega⟩⟩
                      | exact Or.inr ⟨by omega, Or.inr ⟨by assumption, by assumption, fun z => by omega, by assumption, by assumption⟩⟩)]), rfl⟩
      · skip
        have c2353 : ¬ ((gD G x 3 0) ≤ e) := c2353
        refine T_p xr_200_35 xn_200 (pc' := 36) (ls' := [(5, .int (iI e)), (4, .int (iI (30 * b + y))), (3, .int (iI (30 * b + x))), (2, .int (iI y)), (1, .int (iI x)), (0, .ref 530)]) (st' := [.ref 530]) rfl ?_
        refine T_get xr_200_36 hO530 rfl (v := .ref 545) rfl (pc' := 39) rfl ?_
        refine T_p xr_200_39 xn_200 (pc' := 41) (ls' := [(5, .int (iI e)), (4, .int (iI (30 * b + y))), (3, .int (iI (30 * b + x))), (2, .int (iI y)), (1, .int (iI x)), (0, .ref 530)]) (st' := [.int (iI 8), .ref 545]) rfl ?_
        refine T_p xr_200_41 xn_200 (pc' := 42) (ls' := [(5, .int (iI e)), (4, .int (iI (30 * b + y))), (3, .int (iI (30 * b + x))), (2, .int (iI y)), (1, .int (iI x)), (0, .ref 530)]) (st' := [.int (iI (30 * b + x)), .int (iI 8), .ref 545]) rfl ?_
        refine T_zimul xr_200_42 (z := 8 * (30 * b + x)) rfl (pc' := 43) rfl ?_
        refine T_p xr_200_43 xn_200 (pc' := 45) (ls' := [(5, .int (iI e)), (4, .int (iI (30 * b + y))), (3, .int (iI (30 * b + x))), (2, .int (iI y)), (1, .int (iI x)), (0, .ref 530)]) (st' := [.int (iI e), .int (iI (8 * (30 * b + x))), .ref 545]) rfl ?_
        refine T_ziadd xr_200_45 (z := (8 * (30 * b + x)) + e) rfl (pc' := 46) rfl ?_
        refine T_zlald xr_200_46 hA545 (pc' := 47) rfl ?_
        refine T_le (y := (gW G x e)) (by rw [← hEP x hx.1 hx.2 e (by omega) (by omega)]) ?_
        refine T_p xr_200_47 xn_200 (pc' := 49) (ls' := [(6, .long (gW G x e)), (5, .int (iI e)), (4, .int (iI (30 * b + y))), (3, .int (iI (30 * b + x))), (2, .int (iI y)), (1, .int (iI x)), (0, .ref 530)]) (st' := []) rfl ?_
        obtain ⟨m0, hm0⟩ : ∃ m0 : Int, m0 = if x = y then e + 1 else 0 := ⟨_, rfl⟩
        have hm1 : (x = y → m0 = e + 1) ∧ (¬ x = y → m0 = 0) := ⟨fun h => by rw [hm0, if_pos h], fun h => by rw [hm0, if_neg h]⟩
        have J2382 : X_T sc 200 (62, [(6, .long (gW G x e)), (5, .int (iI e)), (4, .int (iI (30 * b + y))), (3, .int (iI (30 * b + x))), (2, .int (iI y)), (1, .int (iI x)), (0, .ref 530)], [.int (iI m0)], S) Q := by
          refine T_p xr_200_62 xn_200 (pc' := 64) (ls' := [(8, .int (iI m0)), (6, .long (gW G x e)), (5, .int (iI e)), (4, .int (iI (30 * b + y))), (3, .int (iI (30 * b + x))), (2, .int (iI y)), (1, .int (iI x)), (0, .ref 530)]) (st' := []) rfl ?_
          have L2383 : ∀ (m2385 : Nat) (m : Int) (hm : m0 ≤ m ∧ 0 ≤ m ∧ m ≤ 8) (hnm : ∀ m1, m0 ≤ m1 → m1 < m → ¬ gW G x e = 0 → ¬ gW G x e = gW G y m1) (hm2386 : gD G y 3 0 + 9 - m < m2385), X_T sc 200 (64, [(8, .int (iI m)), (6, .long (gW G x e)), (5, .int (iI e)), (4, .int (iI (30 * b + y))), (3, .int (iI (30 * b + x))), (2, .int (iI y)), (1, .int (iI x)), (0, .ref 530)], [], S) Q := by
            intro m2385
            induction m2385 with
            | zero =>
              intro m hm hnm hm2386
              exact (show False by omega).elim
            | succ m2385 ih2384 =>
              intro m hm hnm hm2386
              refine T_p xr_200_64 xn_200 (pc' := 66) (ls' := [(8, .int (iI m)), (6, .long (gW G x e)), (5, .int (iI e)), (4, .int (iI (30 * b + y))), (3, .int (iI (30 * b + x))), (2, .int (iI y)), (1, .int (iI x)), (0, .ref 530)]) (st' := [.int (iI m)]) rfl ?_
              refine T_p xr_200_66 xn_200 (pc' := 67) (ls' := [(8, .int (iI m)), (6, .long (gW G x e)), (5, .int (iI e)), (4, .int (iI (30 * b + y))), (3, .int (iI (30 * b + x))), (2, .int (iI y)), (1, .int (iI x)), (0, .ref 530)]) (st' := [.ref 530, .int (iI m)]) rfl ?_
              refine T_get xr_200_67 hO530 rfl (v := .ref 540) rfl (pc' := 70) rfl ?_
              refine T_p xr_200_70 xn_200 (pc' := 72) (ls' := [(8, .int (iI m)), (6, .long (gW G x e)), (5, .int (iI e)), (4, .int (iI (30 * b + y))), (3, .int (iI (30 * b + x))), (2, .int (iI y)), (1, .int (iI x)), (0, .ref 530)]) (st' := [.int (iI (30 * b + y)), .ref 540, .int (iI m)]) rfl ?_
              refine T_ziald xr_200_72 hA540 (pc' := 73) rfl ?_
              refine T_ie (y := iI (gD G y 3 0)) (by rw [hWM y (by omega) (by omega)]) ?_
              refine T_zicmp_ge xr_200_73 (t := 110) (pc' := 76) rfl rfl (fun c2388 => ?_) (fun c2388 => ?_)
              · skip
                have c2388 : (gD G y 3 0) ≤ m := c2388
                refine T_ziinc xr_200_110 xn_200 (a := e) (z := e + 1) rfl (Nat.le_of_ble_eq_true rfl) (by omega) (ls' := [(5, .int (iI (e + 1))), (8, .int (iI m)), (6, .long (gW G x e)), (4, .int (iI (30 * b + y))), (3, .int (iI (30 * b + x))), (2, .int (iI y)), (1, .int (iI x)), (0, .ref 530)]) rfl (pc' := 113) rfl ?_
                refine T_p xr_200_113 xn_200 (pc' := 24) (ls' := [(5, .int (iI (e + 1))), (8, .int (iI m)), (6, .long (gW G x e)), (4, .int (iI (30 * b + y))), (3, .int (iI (30 * b + x))), (2, .int (iI y)), (1, .int (iI x)), (0, .ref 530)]) (st' := []) rfl ?_
                refine T_sub (ls := [(5, .int (iI (e + 1))), (4, .int (iI (30 * b + y))), (3, .int (iI (30 * b + x))), (2, .int (iI y)), (1, .int (iI x)), (0, .ref 530)]) ⟨rfl, rfl, rfl, rfl, rfl, rfl, trivial⟩ rfl rfl ?_
                exact ih2349 (e + 1)  (by omega) (fun e1 m1 h1 h2 h3 h4 h5 h6 => by
                      by_cases hh : e1 = e
                      · subst hh; exact hnm m1 (by
                          by_cases hxy : x = y
                          · have := h5 hxy; omega
                          · omega) (by omega) h6
                      · exact hno e1 m1 h1 (by omega) h3 h4 h5 h6) (by omega)
              · skip
                have c2388 : ¬ ((gD G y 3 0) ≤ m) := c2388
                refine T_p xr_200_76 xn_200 (pc' := 78) (ls' := [(8, .int (iI m)), (6, .long (gW G x e)), (5, .int (iI e)), (4, .int (iI (30 * b + y))), (3, .int (iI (30 * b + x))), (2, .int (iI y)), (1, .int (iI x)), (0, .ref 530)]) (st' := [.long (gW G x e)]) rfl ?_
                refine T_p xr_200_78 xn_200 (pc' := 79) (ls' := [(8, .int (iI m)), (6, .long (gW G x e)), (5, .int (iI e)), (4, .int (iI (30 * b + y))), (3, .int (iI (30 * b + x))), (2, .int (iI y)), (1, .int (iI x)), (0, .ref 530)]) (st' := [.long (iL 0), .long (gW G x e)]) rfl ?_
                refine T_lc_eq xr_200_79 xr_200_80 (t := 104) (pc' := 83) rfl rfl (fun c2389 => ?_) (fun c2389 => ?_)
                · skip
                  have c2389 : (gW G x e) = (iL 0) := c2389
                  refine T_ziinc xr_200_104 xn_200 (a := m) (z := m + 1) rfl (Nat.le_of_ble_eq_true rfl) (by omega) (ls' := [(8, .int (iI (m + 1))), (6, .long (gW G x e)), (5, .int (iI e)), (4, .int (iI (30 * b + y))), (3, .int (iI (30 * b + x))), (2, .int (iI y)), (1, .int (iI x)), (0, .ref 530)]) rfl (pc' := 107) rfl ?_
                  refine T_p xr_200_107 xn_200 (pc' := 64) (ls' := [(8, .int (iI (m + 1))), (6, .long (gW G x e)), (5, .int (iI e)), (4, .int (iI (30 * b + y))), (3, .int (iI (30 * b + x))), (2, .int (iI y)), (1, .int (iI x)), (0, .ref 530)]) (st' := []) rfl ?_
                  exact ih2384 (m + 1)  (by omega) (fun m1 h1 h2 h3 => by
                        by_cases hh : m1 = m
                        · subst hh; first | assumption | exact absurd (by assumption) h3
                        · exact hnm m1 h1 (by omega) h3) (by omega)
                · skip
                  have c2389 : ¬ ((gW G x e) = (iL 0)) := c2389
                  refine T_p xr_200_83 xn_200 (pc' := 85) (ls' := [(8, .int (iI m)), (6, .long (gW G x e)), (5, .int (iI e)), (4, .int (iI (30 * b + y))), (3, .int (iI (30 * b + x))), (2, .int (iI y)), (1, .int (iI x)), (0, .ref 530)]) (st' := [.long (gW G x e)]) rfl ?_
                  refine T_p xr_200_85 xn_200 (pc' := 86) (ls' := [(8, .int (iI m)), (6, .long (gW G x e)), (5, .int (iI e)), (4, .int (iI (30 * b + y))), (3, .int (iI (30 * b + x))), (2, .int (iI y)), (1, .int (iI x)), (0, .ref 530)]) (st' := [.ref 530, .long (gW G x e)]) rfl ?_
                  refine T_get xr_200_86 hO530 rfl (v := .ref 545) rfl (pc' := 89) rfl ?_
                  refine T_p xr_200_89 xn_200 (pc' := 91) (ls' := [(8, .int (iI m)), (6, .long (gW G x e)), (5, .int (iI e)), (4, .int (iI (30 * b + y))), (3, .int (iI (30 * b + x))), (2, .int (iI y)), (1, .int (iI x)), (0, .ref 530)]) (st' := [.int (iI 8), .ref 545, .long (gW G x e)]) rfl ?_
                  refine T_p xr_200_91 xn_200 (pc' := 93) (ls' := [(8, .int (iI m)), (6, .long (gW G x e)), (5, .int (iI e)), (4, .int (iI (30 * b + y))), (3, .int (iI (30 * b + x))), (2, .int (iI y)), (1, .int (iI x)), (0, .ref 530)]) (st' := [.int (iI (30 * b + y)), .int (iI 8), .ref 545, .long (gW G x e)]) rfl ?_
                  refine T_zimul xr_200_93 (z := 8 * (30 * b + y)) rfl (pc' := 94) rfl ?_
                  refine T_p xr_200_94 xn_200 (pc' := 96) (ls' := [(8, .int (iI m)), (6, .long (gW G x e)), (5, .int (iI e)), (4, .int (iI (30 * b + y))), (3, .int (iI (30 * b + x))), (2, .int (iI y)), (1, .int (iI x)), (0, .ref 530)]) (st' := [.int (iI m), .int (iI (8 * (30 * b + y))), .ref 545, .long (gW G x e)]) rfl ?_
                  refine T_ziadd xr_200_96 (z := (8 * (30 * b + y)) + m) rfl (pc' := 97) rfl ?_
                  refine T_zlald xr_200_97 hA545 (pc' := 98) rfl ?_
                  refine T_le (y := (gW G y m)) (by rw [← hEP y hy.1 hy.2 m (by omega) (by omega)]) ?_
                  refine T_lc_ne xr_200_98 xr_200_99 (t := 104) (pc' := 102) rfl rfl (fun c2390 => ?_) (fun c2390 => ?_)
                  · skip
                    have c2390 : ¬ (gW G x e) = (gW G y m) := c2390
                    refine T_ziinc xr_200_104 xn_200 (a := m) (z := m + 1) rfl (Nat.le_of_ble_eq_true rfl) (by omega) (ls' := [(8, .int (iI (m + 1))), (6, .long (gW G x e)), (5, .int (iI e)), (4, .int (iI (30 * b + y))), (3, .int (iI (30 * b + x))), (2, .int (iI y)), (1, .int (iI x)), (0, .ref 530)]) rfl (pc' := 107) rfl ?_
                    refine T_p xr_200_107 xn_200 (pc' := 64) (ls' := [(8, .int (iI (m + 1))), (6, .long (gW G x e)), (5, .int (iI e)), (4, .int (iI (30 * b + y))), (3, .int (iI (30 * b + x))), (2, .int (iI y)), (1, .int (iI x)), (0, .ref 530)]) (st' := []) rfl ?_
                    exact ih2384 (m + 1)  (by omega) (fun m1 h1 h2 h3 => by
                          by_cases hh : m1 = m
                          · subst hh; first | assumption | exact absurd (by assumption) h3
                          · exact hnm m1 h1 (by omega) h3) (by omega)
                  · skip
                    have c2390 : ¬ (¬ (gW G x e) = (gW G y m)) := c2390
                    refine T_p xr_200_102 xn_200 (pc' := 103) (ls' := [(8, .int (iI m)), (6, .long (gW G x e)), (5, .int (iI e)), (4, .int (iI (30 * b + y))), (3, .int (iI (30 * b + x))), (2, .int (iI y)), (1, .int (iI x)), (0, .ref 530)]) (st' := [.int (iI 1)]) rfl ?_
                    refine T_iret xr_200_103 xf_200.2.2 (by decide) ?_
                    refine hQ _ _ ?_
                    refine ⟨(by rw [bI_t (by unfold X_ag; first
                            | (by_cases hxy : x = y
                               · refine Or.inl ⟨hxy, Or.inl ⟨e, m, by omega, by omega, by rw [hxy]; omega, (show ¬ X_hl (gD G x) (gW G x) e from fun z => absurd z.2.2 (show ¬ gW G x e = iL 0 by assumption)), ?_⟩⟩
                                 have hq : gW G x e = gW G y m := by first | assumption | exact Classical.not_not.mp (by assumption)
                                 rw [hq, hxy]
                               · refine Or.inr ⟨hxy, Or.inl ⟨e, by omega, by omega, (show ¬ X_hl (gD G x) (gW G x) e from fun z => absurd z.2.2 (show ¬ gW G x e = iL 0 by assumption)), m, by omega, by omega, ?_⟩⟩
                                 exact (show gW G x e = gW G y m by first | assumption | exact Classical.not_not.mp (by assumption)).symm)
                            | exact Or.inl ⟨by omega, Or.inr ⟨by omega, by omega⟩⟩
                            | exact Or.inr ⟨by omega, Or.inr ⟨by assumption, by assumption, fun z => by omega, by assumption, by assumption⟩⟩)]), rfl⟩
          exact L2383 ((gD G y 3 0 + 9) + 1).toNat m0  (by omega) (fun m1 h1 h2 => absurd h2 (by omega)) (by omega)
        refine T_p xr_200_49 xn_200 (pc' := 50) (ls' := [(6, .long (gW G x e)), (5, .int (iI e)), (4, .int (iI (30 * b + y))), (3, .int (iI (30 * b + x))), (2, .int (iI y)), (1, .int (iI x)), (0, .ref 530)]) (st' := [.int (iI x)]) rfl ?_
        refine T_p xr_200_50 xn_200 (pc' := 51) (ls' := [(6, .long (gW G x e)), (5, .int (iI e)), (4, .int (iI (30 * b + y))), (3, .int (iI (30 * b + x))), (2, .int (iI y)), (1, .int (iI x)), (0, .ref 530)]) (st' := [.int (iI y), .int (iI x)]) rfl ?_
        refine T_zicmp_ne xr_200_51 (t := 61) (pc' := 54) rfl rfl (fun c2391 => ?_) (fun c2391 => ?_)
        · skip
          have c2391 : ¬ x = y := c2391
          refine T_p xr_200_61 xn_200 (pc' := 62) (ls' := [(6, .long (gW G x e)), (5, .int (iI e)), (4, .int (iI (30 * b + y))), (3, .int (iI (30 * b + x))), (2, .int (iI y)), (1, .int (iI x)), (0, .ref 530)]) (st' := [.int (iI 0)]) rfl ?_
          refine T_ie (y := iI m0) (by congr 1; omega) ?_
          exact J2382
        · skip
          have c2391 : ¬ (¬ x = y) := c2391
          refine T_p xr_200_54 xn_200 (pc' := 56) (ls' := [(6, .long (gW G x e)), (5, .int (iI e)), (4, .int (iI (30 * b + y))), (3, .int (iI (30 * b + x))), (2, .int (iI y)), (1, .int (iI x)), (0, .ref 530)]) (st' := [.int (iI e)]) rfl ?_
          refine T_p xr_200_56 xn_200 (pc' := 57) (ls' := [(6, .long (gW G x e)), (5, .int (iI e)), (4, .int (iI (30 * b + y))), (3, .int (iI (30 * b + x))), (2, .int (iI y)), (1, .int (iI x)), (0, .ref 530)]) (st' := [.int (iI 1), .int (iI e)]) rfl ?_
          refine T_ziadd xr_200_57 (z := e + 1) rfl (pc' := 58) rfl ?_
          refine T_p xr_200_58 xn_200 (pc' := 62) (ls' := [(6, .long (gW G x e)), (5, .int (iI e)), (4, .int (iI (30 * b + y))), (3, .int (iI (30 * b + x))), (2, .int (iI y)), (1, .int (iI x)), (0, .ref 530)]) (st' := [.int (iI (e + 1))]) rfl ?_
          refine T_ie (y := iI m0) (by congr 1; omega) ?_
          exact J2382
  refine T_sub (ls := [(5, .int (iI 0)), (4, .int (iI ((30 * b) + y))), (3, .int (iI ((30 * b) + x))), (2, .int (iI y)), (1, .int (iI x)), (0, .ref 530)]) ⟨rfl, rfl, rfl, rfl, rfl, rfl, trivial⟩ rfl rfl ?_
  exact L2348 ((gD G x 3 0) + 1).toNat 0  (by omega) (fun e1 m1 h1 h2 => absurd h2 (by omega)) (by omega)
theorem r_sure (sc : X_Sc) (S : X_S) (tg : Int → Int) (wR : Int → Int) (wL : Int → Int) (wM : Int → Int) (eP : Int → Int64) (o : Nat → Int) (nm : Int64) (b : Int) (rc : Int) (G : X_G) (tn : Int) (hO530 : S.1 530 = .inr (11, [.ref 531, .int (iI (o 1)), .ref 532, .int (iI (o 3)), .int (iI b), .int (iI (o 5)), .int (iI (o 6)), .int (iI (o 7)), .int (iI (o 8)), .int (iI (o 9)), .int (iI (o 10)), .int (iI (o 11)), .long nm, .ref 533, .ref 534, .ref 535, .ref 536, .ref 537, .ref 538, .ref 539, .ref 540, .ref 541, .ref 542, .ref 543, .ref 544, .ref 545, .ref 546, .ref 547, .int (iI rc), .int (iI (gk G)), .int (iI (gw G)), .int (iI (o 31)), .int (iI (o 32)), .int (iI (o 33)), .ref 548, .ref 549, .ref 550, .ref 551, .int (iI tn), .ref 552, .ref 553, .ref 554, .ref 555, .ref 556, .ref 557, .ref 558, .ref 559, .ref 560, .ref 561, .int (iI (o 49)), .ref 562, .ref 563, .ref 564, .ref 565, .ref 566, .ref 567, .ref 568, .ref 569, .int (iI (o 58)), .ref 570, .ref 571, .ref 572, .ref 573, .ref 574, .ref 575, .ref 576, .ref 577, .ref 578, .int (iI (o 68)), .int (iI (o 69)), .int (iI (o 70)), .ref 579])) (hA535 : S.1 535 = .inl (.boolean, 288, .inl fun k : Nat => iI (tg (k : Int)))) (hA537 : S.1 537 = .inl (.int, 60, .inl fun k : Nat => iI (wR (k : Int)))) (hA538 : S.1 538 = .inl (.int, 60, .inl fun k : Nat => iI (wL (k : Int)))) (hA540 : S.1 540 = .inl (.int, 60, .inl fun k : Nat => iI (wM (k : Int)))) (hA545 : S.1 545 = .inl (.long, 480, .inr (.inl fun k : Nat => eP (k : Int)))) (hbr : 0 ≤ b ∧ b ≤ 1) (hG : X_Gok G) (hTG : (∀ i j, 0 ≤ i → i < rc → 0 ≤ j → j < rc → tg (144 * b + 12 * i + j) = bI (X_bt (gl G i) j)) ∧ ∀ w, 0 ≤ w → w < gw G → gD G w 0 0 < rc) (hWR : ∀ w, 0 ≤ w → w < gw G → wR (30 * b + w) = gD G w 0 0) (hWL : ∀ w, 0 ≤ w → w < gw G → wL (30 * b + w) = gD G w 1 0) (hWM : ∀ w, 0 ≤ w → w < gw G → wM (30 * b + w) = gD G w 3 0) (hEP : ∀ w, 0 ≤ w → w < gw G → ∀ e, 0 ≤ e → e < gD G w 3 0 → eP (8 * (30 * b + w) + e) = gW G w e) : X_T sc 199 (0, [(0, .ref 530)], [], S) (fun v S' => ∃ (r : Int), v = some (.int (iI r)) ∧ X_qSu G r ∧ S' = S) := by
  have hc1 := hG.1
  refine X_QI (fun Q hQ => ?_)
  refine T_p xr_199_0 xn_199 (pc' := 1) (ls' := [(0, .ref 530)]) (st' := [.int (iI 0)]) rfl ?_
  refine T_p xr_199_1 xn_199 (pc' := 2) (ls' := [(1, .int (iI 0)), (0, .ref 530)]) (st' := []) rfl ?_
  have L2392 : ∀ (m2394 : Nat) (a : Int) (ha : 0 ≤ a ∧ a ≤ gw G) (hno : ∀ a1 b1, 0 ≤ a1 → a1 ≤ b1 → b1 < gw G → a1 < a → ¬ X_ag (gl G) (gD G) (gW G) a1 b1) (hm2395 : gw G - a < m2394), X_T sc 199 (2, [(1, .int (iI a)), (0, .ref 530)], [], S) Q := by
    intro m2394
    induction m2394 with
    | zero =>
      intro a ha hno hm2395
      exact (show False by omega).elim
    | succ m2394 ih2393 =>
      intro a ha hno hm2395
      refine T_p xr_199_2 xn_199 (pc' := 3) (ls' := [(1, .int (iI a)), (0, .ref 530)]) (st' := [.int (iI a)]) rfl ?_
      refine T_p xr_199_3 xn_199 (pc' := 4) (ls' := [(1, .int (iI a)), (0, .ref 530)]) (st' := [.ref 530, .int (iI a)]) rfl ?_
      refine T_get xr_199_4 hO530 rfl (v := .int (iI (gw G))) rfl (pc' := 7) rfl ?_
      refine T_zicmp_ge xr_199_7 (t := 48) (pc' := 10) rfl rfl (fun c2397 => ?_) (fun c2397 => ?_)
      · skip
        have c2397 : (gw G) ≤ a := c2397
        refine T_p xr_199_48 xn_199 (pc' := 49) (ls' := [(1, .int (iI a)), (0, .ref 530)]) (st' := [.int (iI (-1))]) rfl ?_
        refine T_iret xr_199_49 xf_199.2.2 rfl ?_
        refine hQ _ _ ?_
        exact ⟨(-1), rfl, (Or.inl ⟨rfl, fun a1 b1 h1 h2 h3 => hno a1 b1 h1 h2 h3 (by omega)⟩), rfl⟩
      · skip
        have c2397 : ¬ ((gw G) ≤ a) := c2397
        refine T_p xr_199_10 xn_199 (pc' := 11) (ls' := [(1, .int (iI a)), (0, .ref 530)]) (st' := [.int (iI a)]) rfl ?_
        refine T_p xr_199_11 xn_199 (pc' := 12) (ls' := [(2, .int (iI a)), (1, .int (iI a)), (0, .ref 530)]) (st' := []) rfl ?_
        have L2398 : ∀ (m2400 : Nat) (c : Int) (hb2_ : a ≤ c ∧ c ≤ gw G) (hno2 : ∀ a1 b1, 0 ≤ a1 → a1 ≤ b1 → b1 < gw G → (a1 < a ∨ (a1 = a ∧ b1 < c)) → ¬ X_ag (gl G) (gD G) (gW G) a1 b1) (hm2401 : gw G - c < m2400), X_T sc 199 (12, [(2, .int (iI c)), (1, .int (iI a)), (0, .ref 530)], [], S) Q := by
          intro m2400
          induction m2400 with
          | zero =>
            intro c hb2_ hno2 hm2401
            exact (show False by omega).elim
          | succ m2400 ih2399 =>
            intro c hb2_ hno2 hm2401
            refine T_p xr_199_12 xn_199 (pc' := 13) (ls' := [(2, .int (iI c)), (1, .int (iI a)), (0, .ref 530)]) (st' := [.int (iI c)]) rfl ?_
            refine T_p xr_199_13 xn_199 (pc' := 14) (ls' := [(2, .int (iI c)), (1, .int (iI a)), (0, .ref 530)]) (st' := [.ref 530, .int (iI c)]) rfl ?_
            refine T_get xr_199_14 hO530 rfl (v := .int (iI (gw G))) rfl (pc' := 17) rfl ?_
            refine T_zicmp_ge xr_199_17 (t := 42) (pc' := 20) rfl rfl (fun c2403 => ?_) (fun c2403 => ?_)
            · skip
              have c2403 : (gw G) ≤ c := c2403
              refine T_ziinc xr_199_42 xn_199 (a := a) (z := a + 1) rfl (Nat.le_of_ble_eq_true rfl) (by omega) (ls' := [(1, .int (iI (a + 1))), (2, .int (iI c)), (0, .ref 530)]) rfl (pc' := 45) rfl ?_
              refine T_p xr_199_45 xn_199 (pc' := 2) (ls' := [(1, .int (iI (a + 1))), (2, .int (iI c)), (0, .ref 530)]) (st' := []) rfl ?_
              refine T_sub (ls := [(1, .int (iI (a + 1))), (0, .ref 530)]) ⟨rfl, rfl, trivial⟩ rfl rfl ?_
              exact ih2393 (a + 1)  (by omega) (fun a1 b1 h1 h2 h3 h4 => hno2 a1 b1 h1 h2 h3 (by omega)) (by omega)
            · skip
              have c2403 : ¬ ((gw G) ≤ c) := c2403
              refine T_p xr_199_20 xn_199 (pc' := 21) (ls' := [(2, .int (iI c)), (1, .int (iI a)), (0, .ref 530)]) (st' := [.ref 530]) rfl ?_
              refine T_p xr_199_21 xn_199 (pc' := 22) (ls' := [(2, .int (iI c)), (1, .int (iI a)), (0, .ref 530)]) (st' := [.int (iI a), .ref 530]) rfl ?_
              refine T_p xr_199_22 xn_199 (pc' := 23) (ls' := [(2, .int (iI c)), (1, .int (iI a)), (0, .ref 530)]) (st' := [.int (iI c), .int (iI a), .ref 530]) rfl ?_
              refine T_cv (S := S) (q := 530) xr_199_23 xf_200.1 xf_200.2.1 xn_200 (as := [.int (iI a), .int (iI c)]) (r := []) rfl hO530 (Nat.le_of_ble_eq_true rfl) (Nat.le_of_ble_eq_true rfl) (pc' := 26) rfl (ls' := [(0, .ref 530), (1, .int (iI a)), (2, .int (iI c))]) rfl ?_
              refine T_mono (r_isAgainst sc S tg wR wL wM eP o nm b rc G tn a c hO530 hA535 hA537 hA538 hA540 hA545 (by omega) hG hTG hWR hWL hWM hEP (by omega) (by omega)) (fun v2404 S2405 h2406 => ?_)
              rcases h2406 with ⟨hv2407, hf2408⟩
              rw [hv2407]
              rw [hf2408]
              show X_T sc 199 (26, [(2, .int (iI c)), (1, .int (iI a)), (0, .ref 530)], [.int (iI (bI (X_ag (gl G) (gD G) (gW G) a c)))], S) _
              refine T_bif_eq xr_199_26 (t := 36) (pc' := 29) rfl rfl (fun c2409 => ?_) (fun c2409 => ?_)
              · skip
                have c2409 : ¬ (X_ag (gl G) (gD G) (gW G) a c) := c2409
                refine T_ziinc xr_199_36 xn_199 (a := c) (z := c + 1) rfl (Nat.le_of_ble_eq_true rfl) (by omega) (ls' := [(2, .int (iI (c + 1))), (1, .int (iI a)), (0, .ref 530)]) rfl (pc' := 39) rfl ?_
                refine T_p xr_199_39 xn_199 (pc' := 12) (ls' := [(2, .int (iI (c + 1))), (1, .int (iI a)), (0, .ref 530)]) (st' := []) rfl ?_
                exact ih2399 (c + 1)  (by omega) (fun a1 b1 h1 h2 h3 h4 => by
                      by_cases hh : a1 = a ∧ b1 = c
                      · obtain ⟨e1, e2⟩ := hh
                        subst e1; subst e2; assumption
                      · exact hno2 a1 b1 h1 h2 h3 (by omega)) (by omega)
              · skip
                have c2409 : (X_ag (gl G) (gD G) (gW G) a c) := c2409
                refine T_p xr_199_29 xn_199 (pc' := 31) (ls' := [(2, .int (iI c)), (1, .int (iI a)), (0, .ref 530)]) (st' := [.int (iI 100)]) rfl ?_
                refine T_p xr_199_31 xn_199 (pc' := 32) (ls' := [(2, .int (iI c)), (1, .int (iI a)), (0, .ref 530)]) (st' := [.int (iI a), .int (iI 100)]) rfl ?_
                refine T_zimul xr_199_32 (z := 100 * a) rfl (pc' := 33) rfl ?_
                refine T_p xr_199_33 xn_199 (pc' := 34) (ls' := [(2, .int (iI c)), (1, .int (iI a)), (0, .ref 530)]) (st' := [.int (iI c), .int (iI (100 * a))]) rfl ?_
                refine T_ziadd xr_199_34 (z := (100 * a) + c) rfl (pc' := 35) rfl ?_
                refine T_iret xr_199_35 xf_199.2.2 rfl ?_
                refine hQ _ _ ?_
                exact ⟨(100 * a) + c, rfl, (Or.inr ⟨a, c, rfl, by omega, by assumption, fun a1 b1 h1 h2 h3 h4 => hno2 a1 b1 h1 h2 h3 (by omega)⟩), rfl⟩
        exact L2398 ((gw G) + 1).toNat a  (by omega) (fun a1 b1 h1 h2 h3 h4 => hno a1 b1 h1 h2 h3 (by omega)) (by omega)
  exact L2392 ((gw G) + 1).toNat 0  (by omega) (fun a1 b1 h1 h2 h3 h4 => absurd h4 (by omega)) (by omega)
