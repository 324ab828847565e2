theorem xr_49_0 : X_row 49 0 = some (0, (.aload_n 0, 1), (0, 0, 0)) := by decide +kernel
theorem xr_49_1 : X_row 49 1 = some (1, (.iconst 0, 1), (0, 0, 0)) := by decide +kernel
theorem xr_49_2 : X_row 49 2 = some (2, (.putfield 41, 3), (3, 1, 4)) := by decide +kernel
theorem xr_49_5 : X_row 49 5 = some (5, (.aload_n 0, 1), (0, 0, 0)) := by decide +kernel
theorem xr_49_6 : X_row 49 6 = some (6, (.iconst 0, 1), (0, 0, 0)) := by decide +kernel
theorem xr_49_7 : X_row 49 7 = some (7, (.putfield 38, 3), (3, 2, 6)) := by decide +kernel
theorem xr_49_10 : X_row 49 10 = some (10, (.aload_n 0, 1), (0, 0, 0)) := by decide +kernel
theorem xr_49_11 : X_row 49 11 = some (11, (.iconst 0, 1), (0, 0, 0)) := by decide +kernel
theorem xr_49_12 : X_row 49 12 = some (12, (.putfield 26, 3), (3, 6, 14)) := by decide +kernel
theorem xr_49_15 : X_row 49 15 = some (15, (.iconst 1, 1), (0, 0, 0)) := by decide +kernel
theorem xr_49_16 : X_row 49 16 = some (16, (.istore_n 1, 1), (0, 0, 0)) := by decide +kernel
theorem xr_49_17 : X_row 49 17 = some (17, (.iload_n 1, 1), (0, 0, 0)) := by decide +kernel
theorem xr_49_18 : X_row 49 18 = some (18, (.ifCond .eq 148, 3), (0, 0, 0)) := by decide +kernel
theorem xr_49_21 : X_row 49 21 = some (21, (.aload_n 0, 1), (0, 0, 0)) := by decide +kernel
theorem xr_49_22 : X_row 49 22 = some (22, (.getfield 38, 3), (3, 2, 6)) := by decide +kernel
theorem xr_49_25 : X_row 49 25 = some (25, (.sipush 2000, 3), (0, 0, 0)) := by decide +kernel
theorem xr_49_28 : X_row 49 28 = some (28, (.if_icmp .gt 138, 3), (0, 0, 0)) := by decide +kernel
theorem xr_49_31 : X_row 49 31 = some (31, (.aload_n 0, 1), (0, 0, 0)) := by decide +kernel
theorem xr_49_32 : X_row 49 32 = some (32, (.getfield 41, 3), (3, 1, 4)) := by decide +kernel
theorem xr_49_35 : X_row 49 35 = some (35, (.aload_n 0, 1), (0, 0, 0)) := by decide +kernel
theorem xr_49_36 : X_row 49 36 = some (36, (.getfield 22, 3), (3, 0, 2)) := by decide +kernel
theorem xr_49_39 : X_row 49 39 = some (39, (.getfield 44, 3), (7, 1, 1)) := by decide +kernel
theorem xr_49_42 : X_row 49 42 = some (42, (.if_icmp .ge 33, 3), (0, 0, 0)) := by decide +kernel
theorem xr_49_45 : X_row 49 45 = some (45, (.aload_n 0, 1), (0, 0, 0)) := by decide +kernel
theorem xr_49_46 : X_row 49 46 = some (46, (.getfield 22, 3), (3, 0, 2)) := by decide +kernel
theorem xr_49_49 : X_row 49 49 = some (49, (.aload_n 0, 1), (0, 0, 0)) := by decide +kernel
theorem xr_49_50 : X_row 49 50 = some (50, (.getfield 41, 3), (3, 1, 4)) := by decide +kernel
theorem xr_49_53 : X_row 49 53 = some (53, (.invokevirtual 49, 3), (88, 0, 0)) := by decide +kernel
theorem xr_49_56 : X_row 49 56 = some (56, (.invokestatic 53, 3), (114, 3, 0)) := by decide +kernel
theorem xr_49_59 : X_row 49 59 = some (59, (.ifCond .eq 16, 3), (0, 0, 0)) := by decide +kernel
theorem xr_49_62 : X_row 49 62 = some (62, (.aload_n 0, 1), (0, 0, 0)) := by decide +kernel
theorem xr_49_63 : X_row 49 63 = some (63, (.dup, 1), (0, 0, 0)) := by decide +kernel
theorem xr_49_64 : X_row 49 64 = some (64, (.getfield 41, 3), (3, 1, 4)) := by decide +kernel
theorem xr_49_67 : X_row 49 67 = some (67, (.iconst 1, 1), (0, 0, 0)) := by decide +kernel
theorem xr_49_68 : X_row 49 68 = some (68, (.iadd, 1), (0, 0, 0)) := by decide +kernel
theorem xr_49_69 : X_row 49 69 = some (69, (.putfield 41, 3), (3, 1, 4)) := by decide +kernel
theorem xr_49_72 : X_row 49 72 = some (72, (.goto (-41), 3), (0, 0, 0)) := by decide +kernel
theorem xr_49_75 : X_row 49 75 = some (75, (.aload_n 0, 1), (0, 0, 0)) := by decide +kernel
theorem xr_49_76 : X_row 49 76 = some (76, (.getfield 15, 3), (3, 4, 10)) := by decide +kernel
theorem xr_49_79 : X_row 49 79 = some (79, (.aload_n 0, 1), (0, 0, 0)) := by decide +kernel
theorem xr_49_80 : X_row 49 80 = some (80, (.getfield 38, 3), (3, 2, 6)) := by decide +kernel
theorem xr_49_83 : X_row 49 83 = some (83, (.aload_n 0, 1), (0, 0, 0)) := by decide +kernel
theorem xr_49_84 : X_row 49 84 = some (84, (.getfield 41, 3), (3, 1, 4)) := by decide +kernel
theorem xr_49_87 : X_row 49 87 = some (87, (.iastore, 1), (0, 0, 0)) := by decide +kernel
theorem xr_49_88 : X_row 49 88 = some (88, (.aload_n 0, 1), (0, 0, 0)) := by decide +kernel
theorem xr_49_89 : X_row 49 89 = some (89, (.getfield 18, 3), (3, 5, 12)) := by decide +kernel
theorem xr_49_92 : X_row 49 92 = some (92, (.aload_n 0, 1), (0, 0, 0)) := by decide +kernel
theorem xr_49_93 : X_row 49 93 = some (93, (.getfield 38, 3), (3, 2, 6)) := by decide +kernel
theorem xr_49_96 : X_row 49 96 = some (96, (.lconst 0, 1), (0, 0, 0)) := by decide +kernel
theorem xr_49_97 : X_row 49 97 = some (97, (.lastore, 1), (0, 0, 0)) := by decide +kernel
theorem xr_49_98 : X_row 49 98 = some (98, (.aload_n 0, 1), (0, 0, 0)) := by decide +kernel
theorem xr_49_99 : X_row 49 99 = some (99, (.getfield 9, 3), (3, 3, 8)) := by decide +kernel
theorem xr_49_102 : X_row 49 102 = some (102, (.aload_n 0, 1), (0, 0, 0)) := by decide +kernel
theorem xr_49_103 : X_row 49 103 = some (103, (.getfield 38, 3), (3, 2, 6)) := by decide +kernel
theorem xr_49_106 : X_row 49 106 = some (106, (.aload_n 0, 1), (0, 0, 0)) := by decide +kernel
theorem xr_49_107 : X_row 49 107 = some (107, (.aload_n 0, 1), (0, 0, 0)) := by decide +kernel
theorem xr_49_108 : X_row 49 108 = some (108, (.getfield 22, 3), (3, 0, 2)) := by decide +kernel
theorem xr_49_111 : X_row 49 111 = some (111, (.aload_n 0, 1), (0, 0, 0)) := by decide +kernel
theorem xr_49_112 : X_row 49 112 = some (112, (.getfield 41, 3), (3, 1, 4)) := by decide +kernel
theorem xr_49_115 : X_row 49 115 = some (115, (.invokevirtual 49, 3), (88, 0, 0)) := by decide +kernel
theorem xr_49_118 : X_row 49 118 = some (118, (.invokevirtual 57, 3), (50, 4, 0)) := by decide +kernel
theorem xr_49_121 : X_row 49 121 = some (121, (.iastore, 1), (0, 0, 0)) := by decide +kernel
theorem xr_49_122 : X_row 49 122 = some (122, (.aload_n 0, 1), (0, 0, 0)) := by decide +kernel
theorem xr_49_123 : X_row 49 123 = some (123, (.getfield 9, 3), (3, 3, 8)) := by decide +kernel
theorem xr_49_126 : X_row 49 126 = some (126, (.aload_n 0, 1), (0, 0, 0)) := by decide +kernel
theorem xr_49_127 : X_row 49 127 = some (127, (.getfield 38, 3), (3, 2, 6)) := by decide +kernel
theorem xr_49_130 : X_row 49 130 = some (130, (.iaload, 1), (0, 0, 0)) := by decide +kernel
theorem xr_49_131 : X_row 49 131 = some (131, (.ifCond .eq 20, 3), (0, 0, 0)) := by decide +kernel
theorem xr_49_134 : X_row 49 134 = some (134, (.aload_n 0, 1), (0, 0, 0)) := by decide +kernel
theorem xr_49_135 : X_row 49 135 = some (135, (.getfield 9, 3), (3, 3, 8)) := by decide +kernel
theorem xr_49_138 : X_row 49 138 = some (138, (.aload_n 0, 1), (0, 0, 0)) := by decide +kernel
theorem xr_49_139 : X_row 49 139 = some (139, (.getfield 38, 3), (3, 2, 6)) := by decide +kernel
theorem xr_49_142 : X_row 49 142 = some (142, (.iaload, 1), (0, 0, 0)) := by decide +kernel
theorem xr_49_143 : X_row 49 143 = some (143, (.iconst 1, 1), (0, 0, 0)) := by decide +kernel
theorem xr_49_144 : X_row 49 144 = some (144, (.if_icmp .eq 7, 3), (0, 0, 0)) := by decide +kernel
theorem xr_49_147 : X_row 49 147 = some (147, (.iconst 1, 1), (0, 0, 0)) := by decide +kernel
theorem xr_49_148 : X_row 49 148 = some (148, (.goto 4, 3), (0, 0, 0)) := by decide +kernel
theorem xr_49_151 : X_row 49 151 = some (151, (.iconst 0, 1), (0, 0, 0)) := by decide +kernel
theorem xr_49_152 : X_row 49 152 = some (152, (.istore_n 1, 1), (0, 0, 0)) := by decide +kernel
theorem xr_49_153 : X_row 49 153 = some (153, (.aload_n 0, 1), (0, 0, 0)) := by decide +kernel
theorem xr_49_154 : X_row 49 154 = some (154, (.dup, 1), (0, 0, 0)) := by decide +kernel
theorem xr_49_155 : X_row 49 155 = some (155, (.getfield 38, 3), (3, 2, 6)) := by decide +kernel
theorem xr_49_158 : X_row 49 158 = some (158, (.iconst 1, 1), (0, 0, 0)) := by decide +kernel
theorem xr_49_159 : X_row 49 159 = some (159, (.iadd, 1), (0, 0, 0)) := by decide +kernel
theorem xr_49_160 : X_row 49 160 = some (160, (.putfield 38, 3), (3, 2, 6)) := by decide +kernel
theorem xr_49_163 : X_row 49 163 = some (163, (.goto (-146), 3), (0, 0, 0)) := by decide +kernel
theorem xr_49_166 : X_row 49 166 = some (166, (.return_, 1), (0, 0, 0)) := by decide +kernel
theorem xr_50_0 : X_row 50 0 = some (0, (.iload_n 1, 1), (0, 0, 0)) := by decide +kernel
theorem xr_50_1 : X_row 50 1 = some (1, (.iconst (-1), 1), (0, 0, 0)) := by decide +kernel
theorem xr_50_2 : X_row 50 2 = some (2, (.if_icmp .ne 5, 3), (0, 0, 0)) := by decide +kernel
theorem xr_50_5 : X_row 50 5 = some (5, (.iconst 0, 1), (0, 0, 0)) := by decide +kernel
theorem xr_50_6 : X_row 50 6 = some (6, (.ireturn, 1), (0, 0, 0)) := by decide +kernel
theorem xr_50_7 : X_row 50 7 = some (7, (.iload_n 1, 1), (0, 0, 0)) := by decide +kernel
theorem xr_50_8 : X_row 50 8 = some (8, (.invokestatic 60, 3), (56, 6, 0)) := by decide +kernel
theorem xr_50_11 : X_row 50 11 = some (11, (.ifCond .eq 8, 3), (0, 0, 0)) := by decide +kernel
theorem xr_50_14 : X_row 50 14 = some (14, (.aload_n 0, 1), (0, 0, 0)) := by decide +kernel
theorem xr_50_15 : X_row 50 15 = some (15, (.invokevirtual 63, 3), (51, 8, 0)) := by decide +kernel
theorem xr_50_18 : X_row 50 18 = some (18, (.ireturn, 1), (0, 0, 0)) := by decide +kernel
theorem xr_50_19 : X_row 50 19 = some (19, (.iload_n 1, 1), (0, 0, 0)) := by decide +kernel
theorem xr_50_20 : X_row 50 20 = some (20, (.invokestatic 66, 3), (113, 13, 0)) := by decide +kernel
theorem xr_50_23 : X_row 50 23 = some (23, (.ifCond .eq 8, 3), (0, 0, 0)) := by decide +kernel
theorem xr_50_26 : X_row 50 26 = some (26, (.aload_n 0, 1), (0, 0, 0)) := by decide +kernel
theorem xr_50_27 : X_row 50 27 = some (27, (.invokevirtual 69, 3), (52, 16, 0)) := by decide +kernel
theorem xr_50_30 : X_row 50 30 = some (30, (.ireturn, 1), (0, 0, 0)) := by decide +kernel
theorem xr_50_31 : X_row 50 31 = some (31, (.iload_n 1, 1), (0, 0, 0)) := by decide +kernel
theorem xr_50_32 : X_row 50 32 = some (32, (.bipush 34, 2), (0, 0, 0)) := by decide +kernel
theorem xr_50_34 : X_row 50 34 = some (34, (.if_icmp .ne 10, 3), (0, 0, 0)) := by decide +kernel
theorem xr_50_37 : X_row 50 37 = some (37, (.aload_n 0, 1), (0, 0, 0)) := by decide +kernel
theorem xr_50_38 : X_row 50 38 = some (38, (.invokevirtual 72, 3), (53, 18, 0)) := by decide +kernel
theorem xr_50_41 : X_row 50 41 = some (41, (.goto 8, 3), (0, 0, 0)) := by decide +kernel
theorem xr_50_44 : X_row 50 44 = some (44, (.aload_n 0, 1), (0, 0, 0)) := by decide +kernel
theorem xr_50_45 : X_row 50 45 = some (45, (.iload_n 1, 1), (0, 0, 0)) := by decide +kernel
theorem xr_50_46 : X_row 50 46 = some (46, (.invokevirtual 75, 3), (54, 22, 0)) := by decide +kernel
theorem xr_50_49 : X_row 50 49 = some (49, (.ireturn, 1), (0, 0, 0)) := by decide +kernel
theorem xr_51_0 : X_row 51 0 = some (0, (.lconst 0, 1), (0, 0, 0)) := by decide +kernel
theorem xr_51_1 : X_row 51 1 = some (1, (.lstore_n 1, 1), (0, 0, 0)) := by decide +kernel
theorem xr_51_2 : X_row 51 2 = some (2, (.aload_n 0, 1), (0, 0, 0)) := by decide +kernel
theorem xr_51_3 : X_row 51 3 = some (3, (.getfield 41, 3), (3, 1, 4)) := by decide +kernel
theorem xr_51_6 : X_row 51 6 = some (6, (.aload_n 0, 1), (0, 0, 0)) := by decide +kernel
theorem xr_51_7 : X_row 51 7 = some (7, (.getfield 22, 3), (3, 0, 2)) := by decide +kernel
theorem xr_51_10 : X_row 51 10 = some (10, (.getfield 44, 3), (7, 1, 1)) := by decide +kernel
theorem xr_51_13 : X_row 51 13 = some (13, (.if_icmp .ge 51, 3), (0, 0, 0)) := by decide +kernel
theorem xr_51_16 : X_row 51 16 = some (16, (.aload_n 0, 1), (0, 0, 0)) := by decide +kernel
theorem xr_51_17 : X_row 51 17 = some (17, (.getfield 22, 3), (3, 0, 2)) := by decide +kernel
theorem xr_51_20 : X_row 51 20 = some (20, (.aload_n 0, 1), (0, 0, 0)) := by decide +kernel
theorem xr_51_21 : X_row 51 21 = some (21, (.getfield 41, 3), (3, 1, 4)) := by decide +kernel
theorem xr_51_24 : X_row 51 24 = some (24, (.invokevirtual 49, 3), (88, 0, 0)) := by decide +kernel
theorem xr_51_27 : X_row 51 27 = some (27, (.invokestatic 78, 3), (57, 10, 0)) := by decide +kernel
theorem xr_51_30 : X_row 51 30 = some (30, (.ifCond .eq 34, 3), (0, 0, 0)) := by decide +kernel
theorem xr_51_33 : X_row 51 33 = some (33, (.lload_n 1, 1), (0, 0, 0)) := by decide +kernel
theorem xr_51_34 : X_row 51 34 = some (34, (.bipush 8, 2), (0, 0, 0)) := by decide +kernel
theorem xr_51_36 : X_row 51 36 = some (36, (.lshl, 1), (0, 0, 0)) := by decide +kernel
theorem xr_51_37 : X_row 51 37 = some (37, (.aload_n 0, 1), (0, 0, 0)) := by decide +kernel
theorem xr_51_38 : X_row 51 38 = some (38, (.getfield 22, 3), (3, 0, 2)) := by decide +kernel
theorem xr_51_41 : X_row 51 41 = some (41, (.aload_n 0, 1), (0, 0, 0)) := by decide +kernel
theorem xr_51_42 : X_row 51 42 = some (42, (.getfield 41, 3), (3, 1, 4)) := by decide +kernel
theorem xr_51_45 : X_row 51 45 = some (45, (.invokevirtual 49, 3), (88, 0, 0)) := by decide +kernel
theorem xr_51_48 : X_row 51 48 = some (48, (.i2l, 1), (0, 0, 0)) := by decide +kernel
theorem xr_51_49 : X_row 51 49 = some (49, (.lor, 1), (0, 0, 0)) := by decide +kernel
theorem xr_51_50 : X_row 51 50 = some (50, (.lstore_n 1, 1), (0, 0, 0)) := by decide +kernel
theorem xr_51_51 : X_row 51 51 = some (51, (.aload_n 0, 1), (0, 0, 0)) := by decide +kernel
theorem xr_51_52 : X_row 51 52 = some (52, (.dup, 1), (0, 0, 0)) := by decide +kernel
theorem xr_51_53 : X_row 51 53 = some (53, (.getfield 41, 3), (3, 1, 4)) := by decide +kernel
theorem xr_51_56 : X_row 51 56 = some (56, (.iconst 1, 1), (0, 0, 0)) := by decide +kernel
theorem xr_51_57 : X_row 51 57 = some (57, (.iadd, 1), (0, 0, 0)) := by decide +kernel
theorem xr_51_58 : X_row 51 58 = some (58, (.putfield 41, 3), (3, 1, 4)) := by decide +kernel
theorem xr_51_61 : X_row 51 61 = some (61, (.goto (-59), 3), (0, 0, 0)) := by decide +kernel
theorem xr_51_64 : X_row 51 64 = some (64, (.aload_n 0, 1), (0, 0, 0)) := by decide +kernel
theorem xr_51_65 : X_row 51 65 = some (65, (.getfield 41, 3), (3, 1, 4)) := by decide +kernel
theorem xr_51_68 : X_row 51 68 = some (68, (.aload_n 0, 1), (0, 0, 0)) := by decide +kernel
theorem xr_51_69 : X_row 51 69 = some (69, (.getfield 15, 3), (3, 4, 10)) := by decide +kernel
theorem xr_51_72 : X_row 51 72 = some (72, (.aload_n 0, 1), (0, 0, 0)) := by decide +kernel
theorem xr_51_73 : X_row 51 73 = some (73, (.getfield 38, 3), (3, 2, 6)) := by decide +kernel
theorem xr_51_76 : X_row 51 76 = some (76, (.iaload, 1), (0, 0, 0)) := by decide +kernel
theorem xr_51_77 : X_row 51 77 = some (77, (.isub, 1), (0, 0, 0)) := by decide +kernel
theorem xr_51_78 : X_row 51 78 = some (78, (.bipush 8, 2), (0, 0, 0)) := by decide +kernel
theorem xr_51_80 : X_row 51 80 = some (80, (.if_icmp .le 5, 3), (0, 0, 0)) := by decide +kernel
theorem xr_51_83 : X_row 51 83 = some (83, (.iconst 1, 1), (0, 0, 0)) := by decide +kernel
theorem xr_51_84 : X_row 51 84 = some (84, (.ireturn, 1), (0, 0, 0)) := by decide +kernel
theorem xr_51_85 : X_row 51 85 = some (85, (.aload_n 0, 1), (0, 0, 0)) := by decide +kernel
theorem xr_51_86 : X_row 51 86 = some (86, (.getfield 18, 3), (3, 5, 12)) := by decide +kernel
theorem xr_51_89 : X_row 51 89 = some (89, (.aload_n 0, 1), (0, 0, 0)) := by decide +kernel
theorem xr_51_90 : X_row 51 90 = some (90, (.getfield 38, 3), (3, 2, 6)) := by decide +kernel
theorem xr_51_93 : X_row 51 93 = some (93, (.lload_n 1, 1), (0, 0, 0)) := by decide +kernel
theorem xr_51_94 : X_row 51 94 = some (94, (.lastore, 1), (0, 0, 0)) := by decide +kernel
theorem xr_51_95 : X_row 51 95 = some (95, (.lload_n 1, 1), (0, 0, 0)) := by decide +kernel
theorem xr_51_96 : X_row 51 96 = some (96, (.invokestatic 81, 3), (55, 14, 0)) := by decide +kernel
theorem xr_51_99 : X_row 51 99 = some (99, (.ifCond .eq 7, 3), (0, 0, 0)) := by decide +kernel
theorem xr_51_102 : X_row 51 102 = some (102, (.iconst 3, 1), (0, 0, 0)) := by decide +kernel
theorem xr_51_103 : X_row 51 103 = some (103, (.goto 4, 3), (0, 0, 0)) := by decide +kernel
theorem xr_51_106 : X_row 51 106 = some (106, (.iconst 2, 1), (0, 0, 0)) := by decide +kernel
theorem xr_51_107 : X_row 51 107 = some (107, (.ireturn, 1), (0, 0, 0)) := by decide +kernel
theorem xr_52_0 : X_row 52 0 = some (0, (.lconst 0, 1), (0, 0, 0)) := by decide +kernel
theorem xr_52_1 : X_row 52 1 = some (1, (.lstore_n 1, 1), (0, 0, 0)) := by decide +kernel
theorem xr_52_2 : X_row 52 2 = some (2, (.aload_n 0, 1), (0, 0, 0)) := by decide +kernel
theorem xr_52_3 : X_row 52 3 = some (3, (.getfield 41, 3), (3, 1, 4)) := by decide +kernel
theorem xr_52_6 : X_row 52 6 = some (6, (.aload_n 0, 1), (0, 0, 0)) := by decide +kernel
theorem xr_52_7 : X_row 52 7 = some (7, (.getfield 22, 3), (3, 0, 2)) := by decide +kernel
theorem xr_52_10 : X_row 52 10 = some (10, (.getfield 44, 3), (7, 1, 1)) := by decide +kernel
theorem xr_52_13 : X_row 52 13 = some (13, (.if_icmp .ge 56, 3), (0, 0, 0)) := by decide +kernel
theorem xr_52_16 : X_row 52 16 = some (16, (.aload_n 0, 1), (0, 0, 0)) := by decide +kernel
theorem xr_52_17 : X_row 52 17 = some (17, (.getfield 22, 3), (3, 0, 2)) := by decide +kernel
theorem xr_52_20 : X_row 52 20 = some (20, (.aload_n 0, 1), (0, 0, 0)) := by decide +kernel
theorem xr_52_21 : X_row 52 21 = some (21, (.getfield 41, 3), (3, 1, 4)) := by decide +kernel
theorem xr_52_24 : X_row 52 24 = some (24, (.invokevirtual 49, 3), (88, 0, 0)) := by decide +kernel
theorem xr_52_27 : X_row 52 27 = some (27, (.invokestatic 66, 3), (113, 13, 0)) := by decide +kernel
theorem xr_52_30 : X_row 52 30 = some (30, (.ifCond .eq 39, 3), (0, 0, 0)) := by decide +kernel
theorem xr_52_33 : X_row 52 33 = some (33, (.lload_n 1, 1), (0, 0, 0)) := by decide +kernel
theorem xr_52_34 : X_row 52 34 = some (34, (.ldc2_w 85, 3), (10, 494, 0)) := by decide +kernel
theorem xr_52_37 : X_row 52 37 = some (37, (.lmul, 1), (0, 0, 0)) := by decide +kernel
theorem xr_52_38 : X_row 52 38 = some (38, (.aload_n 0, 1), (0, 0, 0)) := by decide +kernel
theorem xr_52_39 : X_row 52 39 = some (39, (.getfield 22, 3), (3, 0, 2)) := by decide +kernel
theorem xr_52_42 : X_row 52 42 = some (42, (.aload_n 0, 1), (0, 0, 0)) := by decide +kernel
theorem xr_52_43 : X_row 52 43 = some (43, (.getfield 41, 3), (3, 1, 4)) := by decide +kernel
theorem xr_52_46 : X_row 52 46 = some (46, (.invokevirtual 49, 3), (88, 0, 0)) := by decide +kernel
theorem xr_52_49 : X_row 52 49 = some (49, (.i2l, 1), (0, 0, 0)) := by decide +kernel
theorem xr_52_50 : X_row 52 50 = some (50, (.ladd, 1), (0, 0, 0)) := by decide +kernel
theorem xr_52_51 : X_row 52 51 = some (51, (.ldc2_w 87, 3), (48, 495, 0)) := by decide +kernel
theorem xr_52_54 : X_row 52 54 = some (54, (.lsub, 1), (0, 0, 0)) := by decide +kernel
theorem xr_52_55 : X_row 52 55 = some (55, (.lstore_n 1, 1), (0, 0, 0)) := by decide +kernel
theorem xr_52_56 : X_row 52 56 = some (56, (.aload_n 0, 1), (0, 0, 0)) := by decide +kernel
theorem xr_52_57 : X_row 52 57 = some (57, (.dup, 1), (0, 0, 0)) := by decide +kernel
theorem xr_52_58 : X_row 52 58 = some (58, (.getfield 41, 3), (3, 1, 4)) := by decide +kernel
theorem xr_52_61 : X_row 52 61 = some (61, (.iconst 1, 1), (0, 0, 0)) := by decide +kernel
theorem xr_52_62 : X_row 52 62 = some (62, (.iadd, 1), (0, 0, 0)) := by decide +kernel
theorem xr_52_63 : X_row 52 63 = some (63, (.putfield 41, 3), (3, 1, 4)) := by decide +kernel
theorem xr_52_66 : X_row 52 66 = some (66, (.goto (-64), 3), (0, 0, 0)) := by decide +kernel
theorem xr_52_69 : X_row 52 69 = some (69, (.aload_n 0, 1), (0, 0, 0)) := by decide +kernel
theorem xr_52_70 : X_row 52 70 = some (70, (.getfield 41, 3), (3, 1, 4)) := by decide +kernel
theorem xr_52_73 : X_row 52 73 = some (73, (.aload_n 0, 1), (0, 0, 0)) := by decide +kernel
theorem xr_52_74 : X_row 52 74 = some (74, (.getfield 15, 3), (3, 4, 10)) := by decide +kernel
theorem xr_52_77 : X_row 52 77 = some (77, (.aload_n 0, 1), (0, 0, 0)) := by decide +kernel
theorem xr_52_78 : X_row 52 78 = some (78, (.getfield 38, 3), (3, 2, 6)) := by decide +kernel
theorem xr_52_81 : X_row 52 81 = some (81, (.iaload, 1), (0, 0, 0)) := by decide +kernel
theorem xr_52_82 : X_row 52 82 = some (82, (.isub, 1), (0, 0, 0)) := by decide +kernel
theorem xr_52_83 : X_row 52 83 = some (83, (.istore_n 3, 1), (0, 0, 0)) := by decide +kernel
theorem xr_52_84 : X_row 52 84 = some (84, (.iload_n 3, 1), (0, 0, 0)) := by decide +kernel
theorem xr_52_85 : X_row 52 85 = some (85, (.bipush 9, 2), (0, 0, 0)) := by decide +kernel
theorem xr_52_87 : X_row 52 87 = some (87, (.if_icmp .gt 20, 3), (0, 0, 0)) := by decide +kernel
theorem xr_52_90 : X_row 52 90 = some (90, (.aload_n 0, 1), (0, 0, 0)) := by decide +kernel
theorem xr_52_91 : X_row 52 91 = some (91, (.getfield 22, 3), (3, 0, 2)) := by decide +kernel
theorem xr_52_94 : X_row 52 94 = some (94, (.aload_n 0, 1), (0, 0, 0)) := by decide +kernel
theorem xr_52_95 : X_row 52 95 = some (95, (.getfield 41, 3), (3, 1, 4)) := by decide +kernel
theorem xr_52_98 : X_row 52 98 = some (98, (.invokevirtual 49, 3), (88, 0, 0)) := by decide +kernel
theorem xr_52_101 : X_row 52 101 = some (101, (.invokestatic 60, 3), (56, 6, 0)) := by decide +kernel
theorem xr_52_104 : X_row 52 104 = some (104, (.ifCond .eq 5, 3), (0, 0, 0)) := by decide +kernel
theorem xr_52_107 : X_row 52 107 = some (107, (.iconst 1, 1), (0, 0, 0)) := by decide +kernel
theorem xr_52_108 : X_row 52 108 = some (108, (.ireturn, 1), (0, 0, 0)) := by decide +kernel
theorem xr_52_109 : X_row 52 109 = some (109, (.aload_n 0, 1), (0, 0, 0)) := by decide +kernel
theorem xr_52_110 : X_row 52 110 = some (110, (.getfield 18, 3), (3, 5, 12)) := by decide +kernel
theorem xr_52_113 : X_row 52 113 = some (113, (.aload_n 0, 1), (0, 0, 0)) := by decide +kernel
theorem xr_52_114 : X_row 52 114 = some (114, (.getfield 38, 3), (3, 2, 6)) := by decide +kernel
theorem xr_52_117 : X_row 52 117 = some (117, (.lload_n 1, 1), (0, 0, 0)) := by decide +kernel
theorem xr_52_118 : X_row 52 118 = some (118, (.lastore, 1), (0, 0, 0)) := by decide +kernel
theorem xr_52_119 : X_row 52 119 = some (119, (.iload_n 3, 1), (0, 0, 0)) := by decide +kernel
theorem xr_52_120 : X_row 52 120 = some (120, (.iconst 1, 1), (0, 0, 0)) := by decide +kernel
theorem xr_52_121 : X_row 52 121 = some (121, (.if_icmp .ne 7, 3), (0, 0, 0)) := by decide +kernel
theorem xr_52_124 : X_row 52 124 = some (124, (.iconst 5, 1), (0, 0, 0)) := by decide +kernel
theorem xr_52_125 : X_row 52 125 = some (125, (.goto 4, 3), (0, 0, 0)) := by decide +kernel
theorem xr_52_128 : X_row 52 128 = some (128, (.iconst 4, 1), (0, 0, 0)) := by decide +kernel
theorem xr_52_129 : X_row 52 129 = some (129, (.ireturn, 1), (0, 0, 0)) := by decide +kernel
theorem xr_53_0 : X_row 53 0 = some (0, (.iconst 1, 1), (0, 0, 0)) := by decide +kernel
theorem xr_53_1 : X_row 53 1 = some (1, (.istore_n 1, 1), (0, 0, 0)) := by decide +kernel
theorem xr_53_2 : X_row 53 2 = some (2, (.lconst 0, 1), (0, 0, 0)) := by decide +kernel
theorem xr_53_3 : X_row 53 3 = some (3, (.lstore_n 2, 1), (0, 0, 0)) := by decide +kernel
theorem xr_53_4 : X_row 53 4 = some (4, (.aload_n 0, 1), (0, 0, 0)) := by decide +kernel
theorem xr_53_5 : X_row 53 5 = some (5, (.dup, 1), (0, 0, 0)) := by decide +kernel
theorem xr_53_6 : X_row 53 6 = some (6, (.getfield 41, 3), (3, 1, 4)) := by decide +kernel
theorem xr_53_9 : X_row 53 9 = some (9, (.iconst 1, 1), (0, 0, 0)) := by decide +kernel
theorem xr_53_10 : X_row 53 10 = some (10, (.iadd, 1), (0, 0, 0)) := by decide +kernel
theorem xr_53_11 : X_row 53 11 = some (11, (.putfield 41, 3), (3, 1, 4)) := by decide +kernel
theorem xr_53_14 : X_row 53 14 = some (14, (.aload_n 0, 1), (0, 0, 0)) := by decide +kernel
theorem xr_53_15 : X_row 53 15 = some (15, (.getfield 41, 3), (3, 1, 4)) := by decide +kernel
theorem xr_53_18 : X_row 53 18 = some (18, (.aload_n 0, 1), (0, 0, 0)) := by decide +kernel
theorem xr_53_19 : X_row 53 19 = some (19, (.getfield 22, 3), (3, 0, 2)) := by decide +kernel
theorem xr_53_22 : X_row 53 22 = some (22, (.getfield 44, 3), (7, 1, 1)) := by decide +kernel
theorem xr_53_25 : X_row 53 25 = some (25, (.if_icmp .ge 78, 3), (0, 0, 0)) := by decide +kernel
theorem xr_53_28 : X_row 53 28 = some (28, (.aload_n 0, 1), (0, 0, 0)) := by decide +kernel
theorem xr_53_29 : X_row 53 29 = some (29, (.getfield 22, 3), (3, 0, 2)) := by decide +kernel
theorem xr_53_32 : X_row 53 32 = some (32, (.aload_n 0, 1), (0, 0, 0)) := by decide +kernel
theorem xr_53_33 : X_row 53 33 = some (33, (.getfield 41, 3), (3, 1, 4)) := by decide +kernel
theorem xr_53_36 : X_row 53 36 = some (36, (.invokevirtual 49, 3), (88, 0, 0)) := by decide +kernel
theorem xr_53_39 : X_row 53 39 = some (39, (.invokestatic 89, 3), (58, 20, 0)) := by decide +kernel
theorem xr_53_42 : X_row 53 42 = some (42, (.ifCond .eq 61, 3), (0, 0, 0)) := by decide +kernel
theorem xr_53_45 : X_row 53 45 = some (45, (.iload_n 1, 1), (0, 0, 0)) := by decide +kernel
theorem xr_53_46 : X_row 53 46 = some (46, (.ifCond .eq 24, 3), (0, 0, 0)) := by decide +kernel
theorem xr_53_49 : X_row 53 49 = some (49, (.aload_n 0, 1), (0, 0, 0)) := by decide +kernel
theorem xr_53_50 : X_row 53 50 = some (50, (.getfield 22, 3), (3, 0, 2)) := by decide +kernel
theorem xr_53_53 : X_row 53 53 = some (53, (.aload_n 0, 1), (0, 0, 0)) := by decide +kernel
theorem xr_53_54 : X_row 53 54 = some (54, (.getfield 41, 3), (3, 1, 4)) := by decide +kernel
theorem xr_53_57 : X_row 53 57 = some (57, (.invokevirtual 49, 3), (88, 0, 0)) := by decide +kernel
theorem xr_53_60 : X_row 53 60 = some (60, (.invokestatic 66, 3), (113, 13, 0)) := by decide +kernel
theorem xr_53_63 : X_row 53 63 = some (63, (.ifCond .eq 7, 3), (0, 0, 0)) := by decide +kernel
theorem xr_53_66 : X_row 53 66 = some (66, (.iconst 1, 1), (0, 0, 0)) := by decide +kernel
theorem xr_53_67 : X_row 53 67 = some (67, (.goto 4, 3), (0, 0, 0)) := by decide +kernel
theorem xr_53_70 : X_row 53 70 = some (70, (.iconst 0, 1), (0, 0, 0)) := by decide +kernel
theorem xr_53_71 : X_row 53 71 = some (71, (.istore_n 1, 1), (0, 0, 0)) := by decide +kernel
theorem xr_53_72 : X_row 53 72 = some (72, (.lload_n 2, 1), (0, 0, 0)) := by decide +kernel
theorem xr_53_73 : X_row 53 73 = some (73, (.bipush 8, 2), (0, 0, 0)) := by decide +kernel
theorem xr_53_75 : X_row 53 75 = some (75, (.lshl, 1), (0, 0, 0)) := by decide +kernel
theorem xr_53_76 : X_row 53 76 = some (76, (.aload_n 0, 1), (0, 0, 0)) := by decide +kernel
theorem xr_53_77 : X_row 53 77 = some (77, (.getfield 22, 3), (3, 0, 2)) := by decide +kernel
theorem xr_53_80 : X_row 53 80 = some (80, (.aload_n 0, 1), (0, 0, 0)) := by decide +kernel
theorem xr_53_81 : X_row 53 81 = some (81, (.getfield 41, 3), (3, 1, 4)) := by decide +kernel
theorem xr_53_84 : X_row 53 84 = some (84, (.invokevirtual 49, 3), (88, 0, 0)) := by decide +kernel
theorem xr_53_87 : X_row 53 87 = some (87, (.i2l, 1), (0, 0, 0)) := by decide +kernel
theorem xr_53_88 : X_row 53 88 = some (88, (.lor, 1), (0, 0, 0)) := by decide +kernel
theorem xr_53_89 : X_row 53 89 = some (89, (.lstore_n 2, 1), (0, 0, 0)) := by decide +kernel
theorem xr_53_90 : X_row 53 90 = some (90, (.aload_n 0, 1), (0, 0, 0)) := by decide +kernel
theorem xr_53_91 : X_row 53 91 = some (91, (.dup, 1), (0, 0, 0)) := by decide +kernel
theorem xr_53_92 : X_row 53 92 = some (92, (.getfield 41, 3), (3, 1, 4)) := by decide +kernel
theorem xr_53_95 : X_row 53 95 = some (95, (.iconst 1, 1), (0, 0, 0)) := by decide +kernel
theorem xr_53_96 : X_row 53 96 = some (96, (.iadd, 1), (0, 0, 0)) := by decide +kernel
theorem xr_53_97 : X_row 53 97 = some (97, (.putfield 41, 3), (3, 1, 4)) := by decide +kernel
theorem xr_53_100 : X_row 53 100 = some (100, (.goto (-86), 3), (0, 0, 0)) := by decide +kernel
theorem xr_53_103 : X_row 53 103 = some (103, (.aload_n 0, 1), (0, 0, 0)) := by decide +kernel
theorem xr_53_104 : X_row 53 104 = some (104, (.getfield 41, 3), (3, 1, 4)) := by decide +kernel
theorem xr_53_107 : X_row 53 107 = some (107, (.aload_n 0, 1), (0, 0, 0)) := by decide +kernel
theorem xr_53_108 : X_row 53 108 = some (108, (.getfield 15, 3), (3, 4, 10)) := by decide +kernel
theorem xr_53_111 : X_row 53 111 = some (111, (.aload_n 0, 1), (0, 0, 0)) := by decide +kernel
theorem xr_53_112 : X_row 53 112 = some (112, (.getfield 38, 3), (3, 2, 6)) := by decide +kernel
theorem xr_53_115 : X_row 53 115 = some (115, (.iaload, 1), (0, 0, 0)) := by decide +kernel
theorem xr_53_116 : X_row 53 116 = some (116, (.isub, 1), (0, 0, 0)) := by decide +kernel
theorem xr_53_117 : X_row 53 117 = some (117, (.iconst 1, 1), (0, 0, 0)) := by decide +kernel
theorem xr_53_118 : X_row 53 118 = some (118, (.isub, 1), (0, 0, 0)) := by decide +kernel
theorem xr_53_119 : X_row 53 119 = some (119, (.istore 4, 2), (0, 0, 0)) := by decide +kernel
theorem xr_53_121 : X_row 53 121 = some (121, (.aload_n 0, 1), (0, 0, 0)) := by decide +kernel
theorem xr_53_122 : X_row 53 122 = some (122, (.getfield 22, 3), (3, 0, 2)) := by decide +kernel
theorem xr_53_125 : X_row 53 125 = some (125, (.aload_n 0, 1), (0, 0, 0)) := by decide +kernel
theorem xr_53_126 : X_row 53 126 = some (126, (.getfield 41, 3), (3, 1, 4)) := by decide +kernel
theorem xr_53_129 : X_row 53 129 = some (129, (.invokevirtual 49, 3), (88, 0, 0)) := by decide +kernel
theorem xr_53_132 : X_row 53 132 = some (132, (.bipush 34, 2), (0, 0, 0)) := by decide +kernel
theorem xr_53_134 : X_row 53 134 = some (134, (.if_icmp .ne 14, 3), (0, 0, 0)) := by decide +kernel
theorem xr_53_137 : X_row 53 137 = some (137, (.iload 4, 2), (0, 0, 0)) := by decide +kernel
theorem xr_53_139 : X_row 53 139 = some (139, (.bipush 8, 2), (0, 0, 0)) := by decide +kernel
theorem xr_53_141 : X_row 53 141 = some (141, (.if_icmp .gt 7, 3), (0, 0, 0)) := by decide +kernel
theorem xr_53_144 : X_row 53 144 = some (144, (.iload_n 1, 1), (0, 0, 0)) := by decide +kernel
theorem xr_53_145 : X_row 53 145 = some (145, (.ifCond .eq 5, 3), (0, 0, 0)) := by decide +kernel
theorem xr_53_148 : X_row 53 148 = some (148, (.iconst 1, 1), (0, 0, 0)) := by decide +kernel
theorem xr_53_149 : X_row 53 149 = some (149, (.ireturn, 1), (0, 0, 0)) := by decide +kernel
theorem xr_53_150 : X_row 53 150 = some (150, (.aload_n 0, 1), (0, 0, 0)) := by decide +kernel
theorem xr_53_151 : X_row 53 151 = some (151, (.dup, 1), (0, 0, 0)) := by decide +kernel
theorem xr_53_152 : X_row 53 152 = some (152, (.getfield 41, 3), (3, 1, 4)) := by decide +kernel
theorem xr_53_155 : X_row 53 155 = some (155, (.iconst 1, 1), (0, 0, 0)) := by decide +kernel
theorem xr_53_156 : X_row 53 156 = some (156, (.iadd, 1), (0, 0, 0)) := by decide +kernel
theorem xr_53_157 : X_row 53 157 = some (157, (.putfield 41, 3), (3, 1, 4)) := by decide +kernel
theorem xr_53_160 : X_row 53 160 = some (160, (.aload_n 0, 1), (0, 0, 0)) := by decide +kernel
theorem xr_53_161 : X_row 53 161 = some (161, (.getfield 18, 3), (3, 5, 12)) := by decide +kernel
theorem xr_53_164 : X_row 53 164 = some (164, (.aload_n 0, 1), (0, 0, 0)) := by decide +kernel
theorem xr_53_165 : X_row 53 165 = some (165, (.getfield 38, 3), (3, 2, 6)) := by decide +kernel
theorem xr_53_168 : X_row 53 168 = some (168, (.lload_n 2, 1), (0, 0, 0)) := by decide +kernel
theorem xr_53_169 : X_row 53 169 = some (169, (.lastore, 1), (0, 0, 0)) := by decide +kernel
theorem xr_53_170 : X_row 53 170 = some (170, (.bipush 6, 2), (0, 0, 0)) := by decide +kernel
theorem xr_53_172 : X_row 53 172 = some (172, (.ireturn, 1), (0, 0, 0)) := by decide +kernel
theorem xr_54_0 : X_row 54 0 = some (0, (.aload_n 0, 1), (0, 0, 0)) := by decide +kernel
theorem xr_54_1 : X_row 54 1 = some (1, (.dup, 1), (0, 0, 0)) := by decide +kernel
theorem xr_54_2 : X_row 54 2 = some (2, (.getfield 41, 3), (3, 1, 4)) := by decide +kernel
theorem xr_54_5 : X_row 54 5 = some (5, (.iconst 1, 1), (0, 0, 0)) := by decide +kernel
theorem xr_54_6 : X_row 54 6 = some (6, (.iadd, 1), (0, 0, 0)) := by decide +kernel
theorem xr_54_7 : X_row 54 7 = some (7, (.putfield 41, 3), (3, 1, 4)) := by decide +kernel
theorem xr_54_10 : X_row 54 10 = some (10, (.iload_n 1, 1), (0, 0, 0)) := by decide +kernel
theorem xr_54_11 : X_row 54 11 = some (11, (.bipush 95, 2), (0, 0, 0)) := by decide +kernel
theorem xr_54_13 : X_row 54 13 = some (13, (.if_icmp .ne 24, 3), (0, 0, 0)) := by decide +kernel
theorem xr_54_16 : X_row 54 16 = some (16, (.aload_n 0, 1), (0, 0, 0)) := by decide +kernel
theorem xr_54_17 : X_row 54 17 = some (17, (.getfield 22, 3), (3, 0, 2)) := by decide +kernel
theorem xr_54_20 : X_row 54 20 = some (20, (.aload_n 0, 1), (0, 0, 0)) := by decide +kernel
theorem xr_54_21 : X_row 54 21 = some (21, (.getfield 41, 3), (3, 1, 4)) := by decide +kernel
theorem xr_54_24 : X_row 54 24 = some (24, (.invokevirtual 49, 3), (88, 0, 0)) := by decide +kernel
theorem xr_54_27 : X_row 54 27 = some (27, (.invokestatic 78, 3), (57, 10, 0)) := by decide +kernel
theorem xr_54_30 : X_row 54 30 = some (30, (.ifCond .eq 7, 3), (0, 0, 0)) := by decide +kernel
theorem xr_54_33 : X_row 54 33 = some (33, (.iconst 1, 1), (0, 0, 0)) := by decide +kernel
theorem xr_54_34 : X_row 54 34 = some (34, (.goto 4, 3), (0, 0, 0)) := by decide +kernel
theorem xr_54_37 : X_row 54 37 = some (37, (.iconst 0, 1), (0, 0, 0)) := by decide +kernel
theorem xr_54_38 : X_row 54 38 = some (38, (.istore_n 2, 1), (0, 0, 0)) := by decide +kernel
theorem xr_54_39 : X_row 54 39 = some (39, (.iload_n 1, 1), (0, 0, 0)) := by decide +kernel
theorem xr_54_40 : X_row 54 40 = some (40, (.invokestatic 92, 3), (59, 24, 0)) := by decide +kernel
theorem xr_54_43 : X_row 54 43 = some (43, (.ifCond .eq 11, 3), (0, 0, 0)) := by decide +kernel
theorem xr_54_46 : X_row 54 46 = some (46, (.iload_n 2, 1), (0, 0, 0)) := by decide +kernel
theorem xr_54_47 : X_row 54 47 = some (47, (.ifCond .ne 7, 3), (0, 0, 0)) := by decide +kernel
theorem xr_54_50 : X_row 54 50 = some (50, (.iload_n 1, 1), (0, 0, 0)) := by decide +kernel
theorem xr_54_51 : X_row 54 51 = some (51, (.goto 4, 3), (0, 0, 0)) := by decide +kernel
theorem xr_54_54 : X_row 54 54 = some (54, (.iconst 1, 1), (0, 0, 0)) := by decide +kernel
theorem xr_54_55 : X_row 54 55 = some (55, (.ireturn, 1), (0, 0, 0)) := by decide +kernel
theorem xn_49 : X_nL 49 = 2 := by decide +kernel
theorem xf_49 : X_na 49 = 0 ∧ X_ci 49 = 3 ∧ X_rt 49 = none := by decide +kernel
theorem xn_50 : X_nL 50 = 2 := by decide +kernel
theorem xf_50 : X_na 50 = 1 ∧ X_ci 50 = 3 ∧ X_rt 50 = (some .int) := by decide +kernel
theorem xn_51 : X_nL 51 = 3 := by decide +kernel
theorem xf_51 : X_na 51 = 0 ∧ X_ci 51 = 3 ∧ X_rt 51 = (some .int) := by decide +kernel
theorem xn_52 : X_nL 52 = 4 := by decide +kernel
theorem xf_52 : X_na 52 = 0 ∧ X_ci 52 = 3 ∧ X_rt 52 = (some .int) := by decide +kernel
theorem xn_53 : X_nL 53 = 5 := by decide +kernel
theorem xf_53 : X_na 53 = 0 ∧ X_ci 53 = 3 ∧ X_rt 53 = (some .int) := by decide +kernel
theorem xn_54 : X_nL 54 = 3 := by decide +kernel
theorem xf_54 : X_na 54 = 1 ∧ X_ci 54 = 3 ∧ X_rt 54 = (some .int) := by decide +kernel
theorem c_takeName_l (sc : X_Sc) (len : Int) (tb : Int → Int) (cnt cur a0 : Int) (so pl : Int → Int) (ct : Int → Int64) (hl : 0 ≤ len ∧ len ≤ 2000) (Q : Option Value → X_S → Prop) : ∀ (n : Nat) (S : X_S) (at_ : Int) (ht : C_tp S len tb) (hx : C_lx S at_ cnt cur so pl ct) (ha : a0 ≤ at_ ∧ 0 ≤ at_ ∧ at_ ≤ len) (hn : len - at_ ≤ n)
    (hex : ∀ S' : X_S, C_tp S' len tb → C_lx S' (X_se X_isLD tb len at_) cnt cur so pl ct → X_Fr (fun r => r = 497) S S' → X_T sc 51 (64, [(1, .long (X_pk tb len a0 ((X_se X_isLD tb len at_) - a0).toNat)), (0, .ref 497)], [], S') Q), X_T sc 51 (2, [(1, .long (X_pk tb len a0 (at_ - a0).toNat)), (0, .ref 497)], [], S) Q := by
  intro n
  induction n with
  | zero =>
    intro S at_ ht hx ha hn hex
    refine T_p xr_51_2 xn_51 (pc' := 3) (ls' := [(1, .long (X_pk tb len a0 (at_ - a0).toNat)), (0, .ref 497)]) (st' := [.ref 497]) rfl ?_
    refine T_get xr_51_3 hx.1 rfl (v := .int (iI at_)) rfl (pc' := 6) rfl ?_
    refine T_p xr_51_6 xn_51 (pc' := 7) (ls' := [(1, .long (X_pk tb len a0 (at_ - a0).toNat)), (0, .ref 497)]) (st' := [.ref 497, .int (iI at_)]) rfl ?_
    refine T_get xr_51_7 hx.1 rfl (v := .ref 2) rfl (pc' := 10) rfl ?_
    refine T_get xr_51_10 ht.1 rfl (v := .int (iI len)) rfl (pc' := 13) rfl ?_
    refine T_zicmp_ge xr_51_13 (t := 64) (pc' := 16) rfl rfl (fun c105 => ?_) (fun c105 => ?_)
    · skip
      have c105 : len ≤ at_ := c105
      have e2 : X_se X_isLD tb len at_ = at_ := X_se_no (by first | omega | (intro h; exact absurd h.2 (by assumption)))
      have kk := hex S ⟨ht.1, ht.2.1, hl⟩ (by rw [e2]; exact ⟨hx.1, hx.2.1, hx.2.2.1, hx.2.2.2⟩) (X_Fr.rf)
      (try rw [e2] at kk)
      exact kk
    · skip
      have c105 : ¬ (len ≤ at_) := c105
      exact (show False by omega).elim
  | succ n ih =>
    intro S at_ ht hx ha hn hex
    refine T_p xr_51_2 xn_51 (pc' := 3) (ls' := [(1, .long (X_pk tb len a0 (at_ - a0).toNat)), (0, .ref 497)]) (st' := [.ref 497]) rfl ?_
    refine T_get xr_51_3 hx.1 rfl (v := .int (iI at_)) rfl (pc' := 6) rfl ?_
    refine T_p xr_51_6 xn_51 (pc' := 7) (ls' := [(1, .long (X_pk tb len a0 (at_ - a0).toNat)), (0, .ref 497)]) (st' := [.ref 497, .int (iI at_)]) rfl ?_
    refine T_get xr_51_7 hx.1 rfl (v := .ref 2) rfl (pc' := 10) rfl ?_
    refine T_get xr_51_10 ht.1 rfl (v := .int (iI len)) rfl (pc' := 13) rfl ?_
    refine T_zicmp_ge xr_51_13 (t := 64) (pc' := 16) rfl rfl (fun c77 => ?_) (fun c77 => ?_)
    · skip
      have c77 : len ≤ at_ := c77
      have e2 : X_se X_isLD tb len at_ = at_ := X_se_no (by first | omega | (intro h; exact absurd h.2 (by assumption)))
      have kk := hex S ⟨ht.1, ht.2.1, hl⟩ (by rw [e2]; exact ⟨hx.1, hx.2.1, hx.2.2.1, hx.2.2.2⟩) (X_Fr.rf)
      (try rw [e2] at kk)
      exact kk
    · skip
      have c77 : ¬ (len ≤ at_) := c77
      refine T_p xr_51_16 xn_51 (pc' := 17) (ls' := [(1, .long (X_pk tb len a0 (at_ - a0).toNat)), (0, .ref 497)]) (st' := [.ref 497]) rfl ?_
      refine T_get xr_51_17 hx.1 rfl (v := .ref 2) rfl (pc' := 20) rfl ?_
      refine T_p xr_51_20 xn_51 (pc' := 21) (ls' := [(1, .long (X_pk tb len a0 (at_ - a0).toNat)), (0, .ref 497)]) (st' := [.ref 497, .ref 2]) rfl ?_
      refine T_get xr_51_21 hx.1 rfl (v := .int (iI at_)) rfl (pc' := 24) rfl ?_
      refine T_cv (S := S) (q := 2) xr_51_24 xf_88.1 xf_88.2.1 xn_88 (as := [.int (iI at_)]) (r := []) rfl ht.1 (Nat.le_of_ble_eq_true rfl) (Nat.le_of_ble_eq_true rfl) (pc' := 27) rfl (ls' := [(0, .ref 2), (1, .int (iI at_))]) rfl ?_
      refine T_mono (c_byteAt sc S len at_ tb ht.1 ht.2.1 hl (by omega)) (fun v79 S80 h78 => ?_)
      obtain ⟨h81, h82⟩ := h78
      rw [h81, h82]
      show X_T sc 51 (27, [(1, .long (X_pk tb len a0 (at_ - a0).toNat)), (0, .ref 497)], [.int (iI (X_at tb len at_))], S) _
      have r83 := X_at_r tb len at_
      refine T_cs xr_51_27 (by decide) xf_57.1 xn_57 (as := [.int (iI (X_at tb len at_))]) (r := []) rfl (Nat.le_of_ble_eq_true rfl) (Nat.le_of_ble_eq_true rfl) (pc' := 30) rfl (ls' := [(0, .int (iI (X_at tb len at_)))]) rfl ?_
      refine T_mono (c_isLD sc S (X_at tb len at_) (X_at_r tb len at_)) (fun v85 S86 h84 => ?_)
      obtain ⟨h87, h88⟩ := h84
      rw [h87, h88]
      show X_T sc 51 (30, [(1, .long (X_pk tb len a0 (at_ - a0).toNat)), (0, .ref 497)], [.int (iI (bI (X_isLD (X_at tb len at_))))], S) _
      refine T_bif_eq xr_51_30 (t := 64) (pc' := 33) rfl rfl (fun c89 => ?_) (fun c89 => ?_)
      · skip
        have c89 : ¬ (X_isLD (X_at tb len at_)) := c89
        have e2 : X_se X_isLD tb len at_ = at_ := X_se_no (by first | omega | (intro h; exact absurd h.2 (by assumption)))
        have kk := hex S ⟨ht.1, ht.2.1, hl⟩ (by rw [e2]; exact ⟨hx.1, hx.2.1, hx.2.2.1, hx.2.2.2⟩) (X_Fr.rf)
        (try rw [e2] at kk)
        exact kk
      · skip
        have c89 : (X_isLD (X_at tb len at_)) := c89
        refine T_p xr_51_33 xn_51 (pc' := 34) (ls' := [(1, .long (X_pk tb len a0 (at_ - a0).toNat)), (0, .ref 497)]) (st' := [.long (X_pk tb len a0 (at_ - a0).toNat)]) rfl ?_
        refine T_p xr_51_34 xn_51 (pc' := 36) (ls' := [(1, .long (X_pk tb len a0 (at_ - a0).toNat)), (0, .ref 497)]) (st' := [.int (iI 8), .long (X_pk tb len a0 (at_ - a0).toNat)]) rfl ?_
        refine T_p xr_51_36 xn_51 (pc' := 37) (ls' := [(1, .long (X_pk tb len a0 (at_ - a0).toNat)), (0, .ref 497)]) (st' := [.long ((X_pk tb len a0 (at_ - a0).toNat) <<< ((iI 8).toInt64 &&& 63))]) rfl ?_
        refine T_p xr_51_37 xn_51 (pc' := 38) (ls' := [(1, .long (X_pk tb len a0 (at_ - a0).toNat)), (0, .ref 497)]) (st' := [.ref 497, .long ((X_pk tb len a0 (at_ - a0).toNat) <<< ((iI 8).toInt64 &&& 63))]) rfl ?_
        refine T_get xr_51_38 hx.1 rfl (v := .ref 2) rfl (pc' := 41) rfl ?_
        refine T_p xr_51_41 xn_51 (pc' := 42) (ls' := [(1, .long (X_pk tb len a0 (at_ - a0).toNat)), (0, .ref 497)]) (st' := [.ref 497, .ref 2, .long ((X_pk tb len a0 (at_ - a0).toNat) <<< ((iI 8).toInt64 &&& 63))]) rfl ?_
        refine T_get xr_51_42 hx.1 rfl (v := .int (iI at_)) rfl (pc' := 45) rfl ?_
        refine T_cv (S := S) (q := 2) xr_51_45 xf_88.1 xf_88.2.1 xn_88 (as := [.int (iI at_)]) (r := [.long ((X_pk tb len a0 (at_ - a0).toNat) <<< ((iI 8).toInt64 &&& 63))]) rfl ht.1 (Nat.le_of_ble_eq_true rfl) (Nat.le_of_ble_eq_true rfl) (pc' := 48) rfl (ls' := [(0, .ref 2), (1, .int (iI at_))]) rfl ?_
        refine T_mono (c_byteAt sc S len at_ tb ht.1 ht.2.1 hl (by omega)) (fun v91 S92 h90 => ?_)
        obtain ⟨h93, h94⟩ := h90
        rw [h93, h94]
        show X_T sc 51 (48, [(1, .long (X_pk tb len a0 (at_ - a0).toNat)), (0, .ref 497)], [.int (iI (X_at tb len at_)), .long ((X_pk tb len a0 (at_ - a0).toNat) <<< ((iI 8).toInt64 &&& 63))], S) _
        have r95 := X_at_r tb len at_
        refine T_p xr_51_48 xn_51 (pc' := 49) (ls' := [(1, .long (X_pk tb len a0 (at_ - a0).toNat)), (0, .ref 497)]) (st' := [.long ((iI (X_at tb len at_)).toInt64), .long ((X_pk tb len a0 (at_ - a0).toNat) <<< ((iI 8).toInt64 &&& 63))]) rfl ?_
        refine T_p xr_51_49 xn_51 (pc' := 50) (ls' := [(1, .long (X_pk tb len a0 (at_ - a0).toNat)), (0, .ref 497)]) (st' := [.long (((X_pk tb len a0 (at_ - a0).toNat) <<< ((iI 8).toInt64 &&& 63)) ||| ((iI (X_at tb len at_)).toInt64))]) rfl ?_
        refine T_le (y := (X_pk tb len a0 (at_ + 1 - a0).toNat)) (X_pk_go (by omega)) ?_
        refine T_p xr_51_50 xn_51 (pc' := 51) (ls' := [(1, .long (X_pk tb len a0 (at_ + 1 - a0).toNat)), (0, .ref 497)]) (st' := []) rfl ?_
        refine T_p xr_51_51 xn_51 (pc' := 52) (ls' := [(1, .long (X_pk tb len a0 (at_ + 1 - a0).toNat)), (0, .ref 497)]) (st' := [.ref 497]) rfl ?_
        refine T_p xr_51_52 xn_51 (pc' := 53) (ls' := [(1, .long (X_pk tb len a0 (at_ + 1 - a0).toNat)), (0, .ref 497)]) (st' := [.ref 497, .ref 497]) rfl ?_
        refine T_get xr_51_53 hx.1 rfl (v := .int (iI at_)) rfl (pc' := 56) rfl ?_
        refine T_p xr_51_56 xn_51 (pc' := 57) (ls' := [(1, .long (X_pk tb len a0 (at_ + 1 - a0).toNat)), (0, .ref 497)]) (st' := [.int (iI 1), .int (iI at_), .ref 497]) rfl ?_
        refine T_ziadd xr_51_57 (z := at_ + 1) rfl (pc' := 58) rfl ?_
        refine T_put xr_51_58 hx.1 rfl (Nat.le_of_ble_eq_true rfl) rfl (fs' := [.ref 2, .int (iI (at_ + 1)), .int (iI cnt), .ref 498, .ref 499, .ref 500, .int (iI cur)]) rfl (pc' := 61) rfl (fun S96 h97 n98 e99 => ?_)
        refine T_p xr_51_61 xn_51 (pc' := 2) (ls' := [(1, .long (X_pk tb len a0 (at_ + 1 - a0).toNat)), (0, .ref 497)]) (st' := []) rfl ?_
        have e2 : X_se X_isLD tb len at_ = X_se X_isLD tb len (at_ + 1) := X_se_go (by omega) (by assumption)
        have h100 := (n98 2 (by decide)).trans (ht.1)
        have h101 := (n98 3 (by decide)).trans (ht.2.1)
        have h102 := (n98 498 (by decide)).trans (hx.2.1)
        have h103 := (n98 499 (by decide)).trans (hx.2.2.1)
        have h104 := (n98 500 (by decide)).trans (hx.2.2.2)
        refine ih S96 (at_ + 1) ⟨h100, h101, hl⟩ ⟨h97, h102, h103, h104⟩ (by omega) (by omega) (fun S' k1 k2 k3 => ?_)
        have kk := hex S' k1 (by rw [e2]; exact k2) (((X_Fr.rf).tr (X_Fr.of n98 e99 (by omega))).tr k3)
        (try rw [e2] at kk)
        exact kk
theorem c_takeNumber_l (sc : X_Sc) (len : Int) (tb : Int → Int) (cnt cur a0 : Int) (so pl : Int → Int) (ct : Int → Int64) (hl : 0 ≤ len ∧ len ≤ 2000) (Q : Option Value → X_S → Prop) : ∀ (n : Nat) (S : X_S) (at_ : Int) (ht : C_tp S len tb) (hx : C_lx S at_ cnt cur so pl ct) (ha : a0 ≤ at_ ∧ 0 ≤ at_ ∧ at_ ≤ len) (hn : len - at_ ≤ n)
    (hex : ∀ S' : X_S, C_tp S' len tb → C_lx S' (X_se X_isD tb len at_) cnt cur so pl ct → X_Fr (fun r => r = 497) S S' → X_T sc 52 (69, [(1, .long (iL (X_dv tb len a0 ((X_se X_isD tb len at_) - a0).toNat))), (0, .ref 497)], [], S') Q), X_T sc 52 (2, [(1, .long (iL (X_dv tb len a0 (at_ - a0).toNat))), (0, .ref 497)], [], S) Q := by
  intro n
  induction n with
  | zero =>
    intro S at_ ht hx ha hn hex
    refine T_p xr_52_2 xn_52 (pc' := 3) (ls' := [(1, .long (iL (X_dv tb len a0 (at_ - a0).toNat))), (0, .ref 497)]) (st' := [.ref 497]) rfl ?_
    refine T_get xr_52_3 hx.1 rfl (v := .int (iI at_)) rfl (pc' := 6) rfl ?_
    refine T_p xr_52_6 xn_52 (pc' := 7) (ls' := [(1, .long (iL (X_dv tb len a0 (at_ - a0).toNat))), (0, .ref 497)]) (st' := [.ref 497, .int (iI at_)]) rfl ?_
    refine T_get xr_52_7 hx.1 rfl (v := .ref 2) rfl (pc' := 10) rfl ?_
    refine T_get xr_52_10 ht.1 rfl (v := .int (iI len)) rfl (pc' := 13) rfl ?_
    refine T_zicmp_ge xr_52_13 (t := 69) (pc' := 16) rfl rfl (fun c134 => ?_) (fun c134 => ?_)
    · skip
      have c134 : len ≤ at_ := c134
      have e2 : X_se X_isD tb len at_ = at_ := X_se_no (by first | omega | (intro h; exact absurd h.2 (by assumption)))
      have kk := hex S ⟨ht.1, ht.2.1, hl⟩ (by rw [e2]; exact ⟨hx.1, hx.2.1, hx.2.2.1, hx.2.2.2⟩) (X_Fr.rf)
      (try rw [e2] at kk)
      exact kk
    · skip
      have c134 : ¬ (len ≤ at_) := c134
      exact (show False by omega).elim
  | succ n ih =>
    intro S at_ ht hx ha hn hex
    refine T_p xr_52_2 xn_52 (pc' := 3) (ls' := [(1, .long (iL (X_dv tb len a0 (at_ - a0).toNat))), (0, .ref 497)]) (st' := [.ref 497]) rfl ?_
    refine T_get xr_52_3 hx.1 rfl (v := .int (iI at_)) rfl (pc' := 6) rfl ?_
    refine T_p xr_52_6 xn_52 (pc' := 7) (ls' := [(1, .long (iL (X_dv tb len a0 (at_ - a0).toNat))), (0, .ref 497)]) (st' := [.ref 497, .int (iI at_)]) rfl ?_
    refine T_get xr_52_7 hx.1 rfl (v := .ref 2) rfl (pc' := 10) rfl ?_
    refine T_get xr_52_10 ht.1 rfl (v := .int (iI len)) rfl (pc' := 13) rfl ?_
    refine T_zicmp_ge xr_52_13 (t := 69) (pc' := 16) rfl rfl (fun c106 => ?_) (fun c106 => ?_)
    · skip
      have c106 : len ≤ at_ := c106
      have e2 : X_se X_isD tb len at_ = at_ := X_se_no (by first | omega | (intro h; exact absurd h.2 (by assumption)))
      have kk := hex S ⟨ht.1, ht.2.1, hl⟩ (by rw [e2]; exact ⟨hx.1, hx.2.1, hx.2.2.1, hx.2.2.2⟩) (X_Fr.rf)
      (try rw [e2] at kk)
      exact kk
    · skip
      have c106 : ¬ (len ≤ at_) := c106
      refine T_p xr_52_16 xn_52 (pc' := 17) (ls' := [(1, .long (iL (X_dv tb len a0 (at_ - a0).toNat))), (0, .ref 497)]) (st' := [.ref 497]) rfl ?_
      refine T_get xr_52_17 hx.1 rfl (v := .ref 2) rfl (pc' := 20) rfl ?_
      refine T_p xr_52_20 xn_52 (pc' := 21) (ls' := [(1, .long (iL (X_dv tb len a0 (at_ - a0).toNat))), (0, .ref 497)]) (st' := [.ref 497, .ref 2]) rfl ?_
      refine T_get xr_52_21 hx.1 rfl (v := .int (iI at_)) rfl (pc' := 24) rfl ?_
      refine T_cv (S := S) (q := 2) xr_52_24 xf_88.1 xf_88.2.1 xn_88 (as := [.int (iI at_)]) (r := []) rfl ht.1 (Nat.le_of_ble_eq_true rfl) (Nat.le_of_ble_eq_true rfl) (pc' := 27) rfl (ls' := [(0, .ref 2), (1, .int (iI at_))]) rfl ?_
      refine T_mono (c_byteAt sc S len at_ tb ht.1 ht.2.1 hl (by omega)) (fun v108 S109 h107 => ?_)
      obtain ⟨h110, h111⟩ := h107
      rw [h110, h111]
      show X_T sc 52 (27, [(1, .long (iL (X_dv tb len a0 (at_ - a0).toNat))), (0, .ref 497)], [.int (iI (X_at tb len at_))], S) _
      have r112 := X_at_r tb len at_
      refine T_cs xr_52_27 (by decide) xf_113.1 xn_113 (as := [.int (iI (X_at tb len at_))]) (r := []) rfl (Nat.le_of_ble_eq_true rfl) (Nat.le_of_ble_eq_true rfl) (pc' := 30) rfl (ls' := [(0, .int (iI (X_at tb len at_)))]) rfl ?_
      refine T_mono (c_isDigit sc S (X_at tb len at_) (X_at_r tb len at_)) (fun v114 S115 h113 => ?_)
      obtain ⟨h116, h117⟩ := h113
      rw [h116, h117]
      show X_T sc 52 (30, [(1, .long (iL (X_dv tb len a0 (at_ - a0).toNat))), (0, .ref 497)], [.int (iI (bI (X_isD (X_at tb len at_))))], S) _
      refine T_bif_eq xr_52_30 (t := 69) (pc' := 33) rfl rfl (fun c118 => ?_) (fun c118 => ?_)
      · skip
        have c118 : ¬ (X_isD (X_at tb len at_)) := c118
        have e2 : X_se X_isD tb len at_ = at_ := X_se_no (by first | omega | (intro h; exact absurd h.2 (by assumption)))
        have kk := hex S ⟨ht.1, ht.2.1, hl⟩ (by rw [e2]; exact ⟨hx.1, hx.2.1, hx.2.2.1, hx.2.2.2⟩) (X_Fr.rf)
        (try rw [e2] at kk)
        exact kk
      · skip
        have c118 : (X_isD (X_at tb len at_)) := c118
        refine T_p xr_52_33 xn_52 (pc' := 34) (ls' := [(1, .long (iL (X_dv tb len a0 (at_ - a0).toNat))), (0, .ref 497)]) (st' := [.long (iL (X_dv tb len a0 (at_ - a0).toNat))]) rfl ?_
        refine T_p xr_52_34 xn_52 (pc' := 37) (ls' := [(1, .long (iL (X_dv tb len a0 (at_ - a0).toNat))), (0, .ref 497)]) (st' := [.long (Int64.ofNat 10), .long (iL (X_dv tb len a0 (at_ - a0).toNat))]) rfl ?_
        refine T_p xr_52_37 xn_52 (pc' := 38) (ls' := [(1, .long (iL (X_dv tb len a0 (at_ - a0).toNat))), (0, .ref 497)]) (st' := [.long ((iL (X_dv tb len a0 (at_ - a0).toNat)) * (Int64.ofNat 10))]) rfl ?_
        refine T_p xr_52_38 xn_52 (pc' := 39) (ls' := [(1, .long (iL (X_dv tb len a0 (at_ - a0).toNat))), (0, .ref 497)]) (st' := [.ref 497, .long ((iL (X_dv tb len a0 (at_ - a0).toNat)) * (Int64.ofNat 10))]) rfl ?_
        refine T_get xr_52_39 hx.1 rfl (v := .ref 2) rfl (pc' := 42) rfl ?_
        refine T_p xr_52_42 xn_52 (pc' := 43) (ls' := [(1, .long (iL (X_dv tb len a0 (at_ - a0).toNat))), (0, .ref 497)]) (st' := [.ref 497, .ref 2, .long ((iL (X_dv tb len a0 (at_ - a0).toNat)) * (Int64.ofNat 10))]) rfl ?_
        refine T_get xr_52_43 hx.1 rfl (v := .int (iI at_)) rfl (pc' := 46) rfl ?_
        refine T_cv (S := S) (q := 2) xr_52_46 xf_88.1 xf_88.2.1 xn_88 (as := [.int (iI at_)]) (r := [.long ((iL (X_dv tb len a0 (at_ - a0).toNat)) * (Int64.ofNat 10))]) rfl ht.1 (Nat.le_of_ble_eq_true rfl) (Nat.le_of_ble_eq_true rfl) (pc' := 49) rfl (ls' := [(0, .ref 2), (1, .int (iI at_))]) rfl ?_
        refine T_mono (c_byteAt sc S len at_ tb ht.1 ht.2.1 hl (by omega)) (fun v120 S121 h119 => ?_)
        obtain ⟨h122, h123⟩ := h119
        rw [h122, h123]
        show X_T sc 52 (49, [(1, .long (iL (X_dv tb len a0 (at_ - a0).toNat))), (0, .ref 497)], [.int (iI (X_at tb len at_)), .long ((iL (X_dv tb len a0 (at_ - a0).toNat)) * (Int64.ofNat 10))], S) _
        have r124 := X_at_r tb len at_
        refine T_p xr_52_49 xn_52 (pc' := 50) (ls' := [(1, .long (iL (X_dv tb len a0 (at_ - a0).toNat))), (0, .ref 497)]) (st' := [.long ((iI (X_at tb len at_)).toInt64), .long ((iL (X_dv tb len a0 (at_ - a0).toNat)) * (Int64.ofNat 10))]) rfl ?_
        refine T_p xr_52_50 xn_52 (pc' := 51) (ls' := [(1, .long (iL (X_dv tb len a0 (at_ - a0).toNat))), (0, .ref 497)]) (st' := [.long (((iL (X_dv tb len a0 (at_ - a0).toNat)) * (Int64.ofNat 10)) + ((iI (X_at tb len at_)).toInt64))]) rfl ?_
        refine T_p xr_52_51 xn_52 (pc' := 54) (ls' := [(1, .long (iL (X_dv tb len a0 (at_ - a0).toNat))), (0, .ref 497)]) (st' := [.long (Int64.ofNat 48), .long (((iL (X_dv tb len a0 (at_ - a0).toNat)) * (Int64.ofNat 10)) + ((iI (X_at tb len at_)).toInt64))]) rfl ?_
        refine T_p xr_52_54 xn_52 (pc' := 55) (ls' := [(1, .long (iL (X_dv tb len a0 (at_ - a0).toNat))), (0, .ref 497)]) (st' := [.long ((((iL (X_dv tb len a0 (at_ - a0).toNat)) * (Int64.ofNat 10)) + ((iI (X_at tb len at_)).toInt64)) - (Int64.ofNat 48))]) rfl ?_
        refine T_le (y := (iL (X_dv tb len a0 (at_ + 1 - a0).toNat))) (X_dv_go (by omega)) ?_
        refine T_p xr_52_55 xn_52 (pc' := 56) (ls' := [(1, .long (iL (X_dv tb len a0 (at_ + 1 - a0).toNat))), (0, .ref 497)]) (st' := []) rfl ?_
        refine T_p xr_52_56 xn_52 (pc' := 57) (ls' := [(1, .long (iL (X_dv tb len a0 (at_ + 1 - a0).toNat))), (0, .ref 497)]) (st' := [.ref 497]) rfl ?_
        refine T_p xr_52_57 xn_52 (pc' := 58) (ls' := [(1, .long (iL (X_dv tb len a0 (at_ + 1 - a0).toNat))), (0, .ref 497)]) (st' := [.ref 497, .ref 497]) rfl ?_
        refine T_get xr_52_58 hx.1 rfl (v := .int (iI at_)) rfl (pc' := 61) rfl ?_
        refine T_p xr_52_61 xn_52 (pc' := 62) (ls' := [(1, .long (iL (X_dv tb len a0 (at_ + 1 - a0).toNat))), (0, .ref 497)]) (st' := [.int (iI 1), .int (iI at_), .ref 497]) rfl ?_
        refine T_ziadd xr_52_62 (z := at_ + 1) rfl (pc' := 63) rfl ?_
        refine T_put xr_52_63 hx.1 rfl (Nat.le_of_ble_eq_true rfl) rfl (fs' := [.ref 2, .int (iI (at_ + 1)), .int (iI cnt), .ref 498, .ref 499, .ref 500, .int (iI cur)]) rfl (pc' := 66) rfl (fun S125 h126 n127 e128 => ?_)
        refine T_p xr_52_66 xn_52 (pc' := 2) (ls' := [(1, .long (iL (X_dv tb len a0 (at_ + 1 - a0).toNat))), (0, .ref 497)]) (st' := []) rfl ?_
        have e2 : X_se X_isD tb len at_ = X_se X_isD tb len (at_ + 1) := X_se_go (by omega) (by assumption)
        have h129 := (n127 2 (by decide)).trans (ht.1)
        have h130 := (n127 3 (by decide)).trans (ht.2.1)
        have h131 := (n127 498 (by decide)).trans (hx.2.1)
        have h132 := (n127 499 (by decide)).trans (hx.2.2.1)
        have h133 := (n127 500 (by decide)).trans (hx.2.2.2)
        refine ih S125 (at_ + 1) ⟨h129, h130, hl⟩ ⟨h126, h131, h132, h133⟩ (by omega) (by omega) (fun S' k1 k2 k3 => ?_)
        have kk := hex S' k1 (by rw [e2]; exact k2) (((X_Fr.rf).tr (X_Fr.of n127 e128 (by omega))).tr k3)
        (try rw [e2] at kk)
        exact kk
theorem c_takePart_l (sc : X_Sc) (len : Int) (tb : Int → Int) (cnt cur a0 : Int) (so pl : Int → Int) (ct : Int → Int64) (hl : 0 ≤ len ∧ len ≤ 2000) (Q : Option Value → X_S → Prop) : ∀ (n : Nat) (S : X_S) (at_ : Int) (ht : C_tp S len tb) (hx : C_lx S at_ cnt cur so pl ct) (ha : a0 ≤ at_ ∧ 0 ≤ at_ ∧ at_ ≤ len) (hn : len - at_ ≤ n)
    (hex : ∀ S' : X_S, C_tp S' len tb → C_lx S' (X_se X_isPB tb len at_) cnt cur so pl ct → X_Fr (fun r => r = 497) S S' → X_T sc 53 (103, [(2, .long (X_pk tb len a0 ((X_se X_isPB tb len at_) - a0).toNat)), (1, .int (iI (bI (X_DA tb len a0 ((X_se X_isPB tb len at_)))))), (0, .ref 497)], [], S') Q), X_T sc 53 (14, [(2, .long (X_pk tb len a0 (at_ - a0).toNat)), (1, .int (iI (bI (X_DA tb len a0 (at_))))), (0, .ref 497)], [], S) Q := by
  intro n
  induction n with
  | zero =>
    intro S at_ ht hx ha hn hex
    refine T_p xr_53_14 xn_53 (pc' := 15) (ls' := [(2, .long (X_pk tb len a0 (at_ - a0).toNat)), (1, .int (iI (bI (X_DA tb len a0 (at_))))), (0, .ref 497)]) (st' := [.ref 497]) rfl ?_
    refine T_get xr_53_15 hx.1 rfl (v := .int (iI at_)) rfl (pc' := 18) rfl ?_
    refine T_p xr_53_18 xn_53 (pc' := 19) (ls' := [(2, .long (X_pk tb len a0 (at_ - a0).toNat)), (1, .int (iI (bI (X_DA tb len a0 (at_))))), (0, .ref 497)]) (st' := [.ref 497, .int (iI at_)]) rfl ?_
    refine T_get xr_53_19 hx.1 rfl (v := .ref 2) rfl (pc' := 22) rfl ?_
    refine T_get xr_53_22 ht.1 rfl (v := .int (iI len)) rfl (pc' := 25) rfl ?_
    refine T_zicmp_ge xr_53_25 (t := 103) (pc' := 28) rfl rfl (fun c206 => ?_) (fun c206 => ?_)
    · skip
      have c206 : len ≤ at_ := c206
      have e2 : X_se X_isPB tb len at_ = at_ := X_se_no (by first | omega | (intro h; exact absurd h.2 (by assumption)))
      have kk := hex S ⟨ht.1, ht.2.1, hl⟩ (by rw [e2]; exact ⟨hx.1, hx.2.1, hx.2.2.1, hx.2.2.2⟩) (X_Fr.rf)
      (try rw [e2] at kk)
      exact kk
    · skip
      have c206 : ¬ (len ≤ at_) := c206
      exact (show False by omega).elim
  | succ n ih =>
    intro S at_ ht hx ha hn hex
    refine T_p xr_53_14 xn_53 (pc' := 15) (ls' := [(2, .long (X_pk tb len a0 (at_ - a0).toNat)), (1, .int (iI (bI (X_DA tb len a0 (at_))))), (0, .ref 497)]) (st' := [.ref 497]) rfl ?_
    refine T_get xr_53_15 hx.1 rfl (v := .int (iI at_)) rfl (pc' := 18) rfl ?_
    refine T_p xr_53_18 xn_53 (pc' := 19) (ls' := [(2, .long (X_pk tb len a0 (at_ - a0).toNat)), (1, .int (iI (bI (X_DA tb len a0 (at_))))), (0, .ref 497)]) (st' := [.ref 497, .int (iI at_)]) rfl ?_
    refine T_get xr_53_19 hx.1 rfl (v := .ref 2) rfl (pc' := 22) rfl ?_
    refine T_get xr_53_22 ht.1 rfl (v := .int (iI len)) rfl (pc' := 25) rfl ?_
    refine T_zicmp_ge xr_53_25 (t := 103) (pc' := 28) rfl rfl (fun c135 => ?_) (fun c135 => ?_)
    · skip
      have c135 : len ≤ at_ := c135
      have e2 : X_se X_isPB tb len at_ = at_ := X_se_no (by first | omega | (intro h; exact absurd h.2 (by assumption)))
      have kk := hex S ⟨ht.1, ht.2.1, hl⟩ (by rw [e2]; exact ⟨hx.1, hx.2.1, hx.2.2.1, hx.2.2.2⟩) (X_Fr.rf)
      (try rw [e2] at kk)
      exact kk
    · skip
      have c135 : ¬ (len ≤ at_) := c135
      refine T_p xr_53_28 xn_53 (pc' := 29) (ls' := [(2, .long (X_pk tb len a0 (at_ - a0).toNat)), (1, .int (iI (bI (X_DA tb len a0 (at_))))), (0, .ref 497)]) (st' := [.ref 497]) rfl ?_
      refine T_get xr_53_29 hx.1 rfl (v := .ref 2) rfl (pc' := 32) rfl ?_
      refine T_p xr_53_32 xn_53 (pc' := 33) (ls' := [(2, .long (X_pk tb len a0 (at_ - a0).toNat)), (1, .int (iI (bI (X_DA tb len a0 (at_))))), (0, .ref 497)]) (st' := [.ref 497, .ref 2]) rfl ?_
      refine T_get xr_53_33 hx.1 rfl (v := .int (iI at_)) rfl (pc' := 36) rfl ?_
      refine T_cv (S := S) (q := 2) xr_53_36 xf_88.1 xf_88.2.1 xn_88 (as := [.int (iI at_)]) (r := []) rfl ht.1 (Nat.le_of_ble_eq_true rfl) (Nat.le_of_ble_eq_true rfl) (pc' := 39) rfl (ls' := [(0, .ref 2), (1, .int (iI at_))]) rfl ?_
      refine T_mono (c_byteAt sc S len at_ tb ht.1 ht.2.1 hl (by omega)) (fun v137 S138 h136 => ?_)
      obtain ⟨h139, h140⟩ := h136
      rw [h139, h140]
      show X_T sc 53 (39, [(2, .long (X_pk tb len a0 (at_ - a0).toNat)), (1, .int (iI (bI (X_DA tb len a0 (at_))))), (0, .ref 497)], [.int (iI (X_at tb len at_))], S) _
      have r141 := X_at_r tb len at_
      refine T_cs xr_53_39 (by decide) xf_58.1 xn_58 (as := [.int (iI (X_at tb len at_))]) (r := []) rfl (Nat.le_of_ble_eq_true rfl) (Nat.le_of_ble_eq_true rfl) (pc' := 42) rfl (ls' := [(0, .int (iI (X_at tb len at_)))]) rfl ?_
      refine T_mono (c_isPB sc S (X_at tb len at_) (X_at_r tb len at_)) (fun v143 S144 h142 => ?_)
      obtain ⟨h145, h146⟩ := h142
      rw [h145, h146]
      show X_T sc 53 (42, [(2, .long (X_pk tb len a0 (at_ - a0).toNat)), (1, .int (iI (bI (X_DA tb len a0 (at_))))), (0, .ref 497)], [.int (iI (bI (X_isPB (X_at tb len at_))))], S) _
      refine T_bif_eq xr_53_42 (t := 103) (pc' := 45) rfl rfl (fun c147 => ?_) (fun c147 => ?_)
      · skip
        have c147 : ¬ (X_isPB (X_at tb len at_)) := c147
        have e2 : X_se X_isPB tb len at_ = at_ := X_se_no (by first | omega | (intro h; exact absurd h.2 (by assumption)))
        have kk := hex S ⟨ht.1, ht.2.1, hl⟩ (by rw [e2]; exact ⟨hx.1, hx.2.1, hx.2.2.1, hx.2.2.2⟩) (X_Fr.rf)
        (try rw [e2] at kk)
        exact kk
      · skip
        have c147 : (X_isPB (X_at tb len at_)) := c147
        refine T_p xr_53_45 xn_53 (pc' := 46) (ls' := [(2, .long (X_pk tb len a0 (at_ - a0).toNat)), (1, .int (iI (bI (X_DA tb len a0 (at_))))), (0, .ref 497)]) (st' := [.int (iI (bI (X_DA tb len a0 (at_))))]) rfl ?_
        refine T_bif_eq xr_53_46 (t := 70) (pc' := 49) rfl rfl (fun c148 => ?_) (fun c148 => ?_)
        · skip
          have c148 : ¬ (X_DA tb len a0 (at_)) := c148
          refine T_p xr_53_70 xn_53 (pc' := 71) (ls' := [(2, .long (X_pk tb len a0 (at_ - a0).toNat)), (1, .int (iI (bI (X_DA tb len a0 (at_))))), (0, .ref 497)]) (st' := [.int (iI 0)]) rfl ?_
          refine T_ie (y := iI (bI (X_DA tb len a0 (at_ + 1)))) (by rw [bI_f (by intro h; first | exact absurd (show X_DA tb len a0 at_ from fun k h1 h2 => h k h1 (by omega)) (by assumption) | exact absurd (show X_isD (X_at tb len at_) from h at_ (by omega) (by omega)) (by assumption))]) ?_
          refine T_p xr_53_71 xn_53 (pc' := 72) (ls' := [(1, .int (iI (bI (X_DA tb len a0 (at_ + 1))))), (2, .long (X_pk tb len a0 (at_ - a0).toNat)), (0, .ref 497)]) (st' := []) rfl ?_
          refine T_p xr_53_72 xn_53 (pc' := 73) (ls' := [(1, .int (iI (bI (X_DA tb len a0 (at_ + 1))))), (2, .long (X_pk tb len a0 (at_ - a0).toNat)), (0, .ref 497)]) (st' := [.long (X_pk tb len a0 (at_ - a0).toNat)]) rfl ?_
          refine T_p xr_53_73 xn_53 (pc' := 75) (ls' := [(1, .int (iI (bI (X_DA tb len a0 (at_ + 1))))), (2, .long (X_pk tb len a0 (at_ - a0).toNat)), (0, .ref 497)]) (st' := [.int (iI 8), .long (X_pk tb len a0 (at_ - a0).toNat)]) rfl ?_
          refine T_p xr_53_75 xn_53 (pc' := 76) (ls' := [(1, .int (iI (bI (X_DA tb len a0 (at_ + 1))))), (2, .long (X_pk tb len a0 (at_ - a0).toNat)), (0, .ref 497)]) (st' := [.long ((X_pk tb len a0 (at_ - a0).toNat) <<< ((iI 8).toInt64 &&& 63))]) rfl ?_
          refine T_p xr_53_76 xn_53 (pc' := 77) (ls' := [(1, .int (iI (bI (X_DA tb len a0 (at_ + 1))))), (2, .long (X_pk tb len a0 (at_ - a0).toNat)), (0, .ref 497)]) (st' := [.ref 497, .long ((X_pk tb len a0 (at_ - a0).toNat) <<< ((iI 8).toInt64 &&& 63))]) rfl ?_
          refine T_get xr_53_77 hx.1 rfl (v := .ref 2) rfl (pc' := 80) rfl ?_
          refine T_p xr_53_80 xn_53 (pc' := 81) (ls' := [(1, .int (iI (bI (X_DA tb len a0 (at_ + 1))))), (2, .long (X_pk tb len a0 (at_ - a0).toNat)), (0, .ref 497)]) (st' := [.ref 497, .ref 2, .long ((X_pk tb len a0 (at_ - a0).toNat) <<< ((iI 8).toInt64 &&& 63))]) rfl ?_
          refine T_get xr_53_81 hx.1 rfl (v := .int (iI at_)) rfl (pc' := 84) rfl ?_
          refine T_cv (S := S) (q := 2) xr_53_84 xf_88.1 xf_88.2.1 xn_88 (as := [.int (iI at_)]) (r := [.long ((X_pk tb len a0 (at_ - a0).toNat) <<< ((iI 8).toInt64 &&& 63))]) rfl ht.1 (Nat.le_of_ble_eq_true rfl) (Nat.le_of_ble_eq_true rfl) (pc' := 87) rfl (ls' := [(0, .ref 2), (1, .int (iI at_))]) rfl ?_
          refine T_mono (c_byteAt sc S len at_ tb ht.1 ht.2.1 hl (by omega)) (fun v150 S151 h149 => ?_)
          obtain ⟨h152, h153⟩ := h149
          rw [h152, h153]
          show X_T sc 53 (87, [(1, .int (iI (bI (X_DA tb len a0 (at_ + 1))))), (2, .long (X_pk tb len a0 (at_ - a0).toNat)), (0, .ref 497)], [.int (iI (X_at tb len at_)), .long ((X_pk tb len a0 (at_ - a0).toNat) <<< ((iI 8).toInt64 &&& 63))], S) _
          have r154 := X_at_r tb len at_
          refine T_p xr_53_87 xn_53 (pc' := 88) (ls' := [(1, .int (iI (bI (X_DA tb len a0 (at_ + 1))))), (2, .long (X_pk tb len a0 (at_ - a0).toNat)), (0, .ref 497)]) (st' := [.long ((iI (X_at tb len at_)).toInt64), .long ((X_pk tb len a0 (at_ - a0).toNat) <<< ((iI 8).toInt64 &&& 63))]) rfl ?_
          refine T_p xr_53_88 xn_53 (pc' := 89) (ls' := [(1, .int (iI (bI (X_DA tb len a0 (at_ + 1))))), (2, .long (X_pk tb len a0 (at_ - a0).toNat)), (0, .ref 497)]) (st' := [.long (((X_pk tb len a0 (at_ - a0).toNat) <<< ((iI 8).toInt64 &&& 63)) ||| ((iI (X_at tb len at_)).toInt64))]) rfl ?_
          refine T_le (y := (X_pk tb len a0 (at_ + 1 - a0).toNat)) (X_pk_go (by omega)) ?_
          refine T_p xr_53_89 xn_53 (pc' := 90) (ls' := [(2, .long (X_pk tb len a0 (at_ + 1 - a0).toNat)), (1, .int (iI (bI (X_DA tb len a0 (at_ + 1))))), (0, .ref 497)]) (st' := []) rfl ?_
          refine T_p xr_53_90 xn_53 (pc' := 91) (ls' := [(2, .long (X_pk tb len a0 (at_ + 1 - a0).toNat)), (1, .int (iI (bI (X_DA tb len a0 (at_ + 1))))), (0, .ref 497)]) (st' := [.ref 497]) rfl ?_
          refine T_p xr_53_91 xn_53 (pc' := 92) (ls' := [(2, .long (X_pk tb len a0 (at_ + 1 - a0).toNat)), (1, .int (iI (bI (X_DA tb len a0 (at_ + 1))))), (0, .ref 497)]) (st' := [.ref 497, .ref 497]) rfl ?_
          refine T_get xr_53_92 hx.1 rfl (v := .int (iI at_)) rfl (pc' := 95) rfl ?_
          refine T_p xr_53_95 xn_53 (pc' := 96) (ls' := [(2, .long (X_pk tb len a0 (at_ + 1 - a0).toNat)), (1, .int (iI (bI (X_DA tb len a0 (at_ + 1))))), (0, .ref 497)]) (st' := [.int (iI 1), .int (iI at_), .ref 497]) rfl ?_
          refine T_ziadd xr_53_96 (z := at_ + 1) rfl (pc' := 97) rfl ?_
          refine T_put xr_53_97 hx.1 rfl (Nat.le_of_ble_eq_true rfl) rfl (fs' := [.ref 2, .int (iI (at_ + 1)), .int (iI cnt), .ref 498, .ref 499, .ref 500, .int (iI cur)]) rfl (pc' := 100) rfl (fun S155 h156 n157 e158 => ?_)
          refine T_p xr_53_100 xn_53 (pc' := 14) (ls' := [(2, .long (X_pk tb len a0 (at_ + 1 - a0).toNat)), (1, .int (iI (bI (X_DA tb len a0 (at_ + 1))))), (0, .ref 497)]) (st' := []) rfl ?_
          have e2 : X_se X_isPB tb len at_ = X_se X_isPB tb len (at_ + 1) := X_se_go (by omega) (by assumption)
          have h159 := (n157 2 (by decide)).trans (ht.1)
          have h160 := (n157 3 (by decide)).trans (ht.2.1)
          have h161 := (n157 498 (by decide)).trans (hx.2.1)
          have h162 := (n157 499 (by decide)).trans (hx.2.2.1)
          have h163 := (n157 500 (by decide)).trans (hx.2.2.2)
          refine ih S155 (at_ + 1) ⟨h159, h160, hl⟩ ⟨h156, h161, h162, h163⟩ (by omega) (by omega) (fun S' k1 k2 k3 => ?_)
          have kk := hex S' k1 (by rw [e2]; exact k2) (((X_Fr.rf).tr (X_Fr.of n157 e158 (by omega))).tr k3)
          (try rw [e2] at kk)
          exact kk
        · skip
          have c148 : (X_DA tb len a0 (at_)) := c148
          refine T_p xr_53_49 xn_53 (pc' := 50) (ls' := [(2, .long (X_pk tb len a0 (at_ - a0).toNat)), (1, .int (iI (bI (X_DA tb len a0 (at_))))), (0, .ref 497)]) (st' := [.ref 497]) rfl ?_
          refine T_get xr_53_50 hx.1 rfl (v := .ref 2) rfl (pc' := 53) rfl ?_
          refine T_p xr_53_53 xn_53 (pc' := 54) (ls' := [(2, .long (X_pk tb len a0 (at_ - a0).toNat)), (1, .int (iI (bI (X_DA tb len a0 (at_))))), (0, .ref 497)]) (st' := [.ref 497, .ref 2]) rfl ?_
          refine T_get xr_53_54 hx.1 rfl (v := .int (iI at_)) rfl (pc' := 57) rfl ?_
          refine T_cv (S := S) (q := 2) xr_53_57 xf_88.1 xf_88.2.1 xn_88 (as := [.int (iI at_)]) (r := []) rfl ht.1 (Nat.le_of_ble_eq_true rfl) (Nat.le_of_ble_eq_true rfl) (pc' := 60) rfl (ls' := [(0, .ref 2), (1, .int (iI at_))]) rfl ?_
          refine T_mono (c_byteAt sc S len at_ tb ht.1 ht.2.1 hl (by omega)) (fun v165 S166 h164 => ?_)
          obtain ⟨h167, h168⟩ := h164
          rw [h167, h168]
          show X_T sc 53 (60, [(2, .long (X_pk tb len a0 (at_ - a0).toNat)), (1, .int (iI (bI (X_DA tb len a0 (at_))))), (0, .ref 497)], [.int (iI (X_at tb len at_))], S) _
          have r169 := X_at_r tb len at_
          refine T_cs xr_53_60 (by decide) xf_113.1 xn_113 (as := [.int (iI (X_at tb len at_))]) (r := []) rfl (Nat.le_of_ble_eq_true rfl) (Nat.le_of_ble_eq_true rfl) (pc' := 63) rfl (ls' := [(0, .int (iI (X_at tb len at_)))]) rfl ?_
          refine T_mono (c_isDigit sc S (X_at tb len at_) (X_at_r tb len at_)) (fun v171 S172 h170 => ?_)
          obtain ⟨h173, h174⟩ := h170
          rw [h173, h174]
          show X_T sc 53 (63, [(2, .long (X_pk tb len a0 (at_ - a0).toNat)), (1, .int (iI (bI (X_DA tb len a0 (at_))))), (0, .ref 497)], [.int (iI (bI (X_isD (X_at tb len at_))))], S) _
          refine T_bif_eq xr_53_63 (t := 70) (pc' := 66) rfl rfl (fun c175 => ?_) (fun c175 => ?_)
          · skip
            have c175 : ¬ (X_isD (X_at tb len at_)) := c175
            refine T_p xr_53_70 xn_53 (pc' := 71) (ls' := [(2, .long (X_pk tb len a0 (at_ - a0).toNat)), (1, .int (iI (bI (X_DA tb len a0 (at_))))), (0, .ref 497)]) (st' := [.int (iI 0)]) rfl ?_
            refine T_ie (y := iI (bI (X_DA tb len a0 (at_ + 1)))) (by rw [bI_f (by intro h; first | exact absurd (show X_DA tb len a0 at_ from fun k h1 h2 => h k h1 (by omega)) (by assumption) | exact absurd (show X_isD (X_at tb len at_) from h at_ (by omega) (by omega)) (by assumption))]) ?_
            refine T_p xr_53_71 xn_53 (pc' := 72) (ls' := [(1, .int (iI (bI (X_DA tb len a0 (at_ + 1))))), (2, .long (X_pk tb len a0 (at_ - a0).toNat)), (0, .ref 497)]) (st' := []) rfl ?_
            refine T_p xr_53_72 xn_53 (pc' := 73) (ls' := [(1, .int (iI (bI (X_DA tb len a0 (at_ + 1))))), (2, .long (X_pk tb len a0 (at_ - a0).toNat)), (0, .ref 497)]) (st' := [.long (X_pk tb len a0 (at_ - a0).toNat)]) rfl ?_
            refine T_p xr_53_73 xn_53 (pc' := 75) (ls' := [(1, .int (iI (bI (X_DA tb len a0 (at_ + 1))))), (2, .long (X_pk tb len a0 (at_ - a0).toNat)), (0, .ref 497)]) (st' := [.int (iI 8), .long (X_pk tb len a0 (at_ - a0).toNat)]) rfl ?_
            refine T_p xr_53_75 xn_53 (pc' := 76) (ls' := [(1, .int (iI (bI (X_DA tb len a0 (at_ + 1))))), (2, .long (X_pk tb len a0 (at_ - a0).toNat)), (0, .ref 497)]) (st' := [.long ((X_pk tb len a0 (at_ - a0).toNat) <<< ((iI 8).toInt64 &&& 63))]) rfl ?_
            refine T_p xr_53_76 xn_53 (pc' := 77) (ls' := [(1, .int (iI (bI (X_DA tb len a0 (at_ + 1))))), (2, .long (X_pk tb len a0 (at_ - a0).toNat)), (0, .ref 497)]) (st' := [.ref 497, .long ((X_pk tb len a0 (at_ - a0).toNat) <<< ((iI 8).toInt64 &&& 63))]) rfl ?_
            refine T_get xr_53_77 hx.1 rfl (v := .ref 2) rfl (pc' := 80) rfl ?_
            refine T_p xr_53_80 xn_53 (pc' := 81) (ls' := [(1, .int (iI (bI (X_DA tb len a0 (at_ + 1))))), (2, .long (X_pk tb len a0 (at_ - a0).toNat)), (0, .ref 497)]) (st' := [.ref 497, .ref 2, .long ((X_pk tb len a0 (at_ - a0).toNat) <<< ((iI 8).toInt64 &&& 63))]) rfl ?_
            refine T_get xr_53_81 hx.1 rfl (v := .int (iI at_)) rfl (pc' := 84) rfl ?_
            refine T_cv (S := S) (q := 2) xr_53_84 xf_88.1 xf_88.2.1 xn_88 (as := [.int (iI at_)]) (r := [.long ((X_pk tb len a0 (at_ - a0).toNat) <<< ((iI 8).toInt64 &&& 63))]) rfl ht.1 (Nat.le_of_ble_eq_true rfl) (Nat.le_of_ble_eq_true rfl) (pc' := 87) rfl (ls' := [(0, .ref 2), (1, .int (iI at_))]) rfl ?_
            refine T_mono (c_byteAt sc S len at_ tb ht.1 ht.2.1 hl (by omega)) (fun v177 S178 h176 => ?_)
            obtain ⟨h179, h180⟩ := h176
            rw [h179, h180]
            show X_T sc 53 (87, [(1, .int (iI (bI (X_DA tb len a0 (at_ + 1))))), (2, .long (X_pk tb len a0 (at_ - a0).toNat)), (0, .ref 497)], [.int (iI (X_at tb len at_)), .long ((X_pk tb len a0 (at_ - a0).toNat) <<< ((iI 8).toInt64 &&& 63))], S) _
            have r181 := X_at_r tb len at_
            refine T_p xr_53_87 xn_53 (pc' := 88) (ls' := [(1, .int (iI (bI (X_DA tb len a0 (at_ + 1))))), (2, .long (X_pk tb len a0 (at_ - a0).toNat)), (0, .ref 497)]) (st' := [.long ((iI (X_at tb len at_)).toInt64), .long ((X_pk tb len a0 (at_ - a0).toNat) <<< ((iI 8).toInt64 &&& 63))]) rfl ?_
            refine T_p xr_53_88 xn_53 (pc' := 89) (ls' := [(1, .int (iI (bI (X_DA tb len a0 (at_ + 1))))), (2, .long (X_pk tb len a0 (at_ - a0).toNat)), (0, .ref 497)]) (st' := [.long (((X_pk tb len a0 (at_ - a0).toNat) <<< ((iI 8).toInt64 &&& 63)) ||| ((iI (X_at tb len at_)).toInt64))]) rfl ?_
            refine T_le (y := (X_pk tb len a0 (at_ + 1 - a0).toNat)) (X_pk_go (by omega)) ?_
            refine T_p xr_53_89 xn_53 (pc' := 90) (ls' := [(2, .long (X_pk tb len a0 (at_ + 1 - a0).toNat)), (1, .int (iI (bI (X_DA tb len a0 (at_ + 1))))), (0, .ref 497)]) (st' := []) rfl ?_
            refine T_p xr_53_90 xn_53 (pc' := 91) (ls' := [(2, .long (X_pk tb len a0 (at_ + 1 - a0).toNat)), (1, .int (iI (bI (X_DA tb len a0 (at_ + 1))))), (0, .ref 497)]) (st' := [.ref 497]) rfl ?_
            refine T_p xr_53_91 xn_53 (pc' := 92) (ls' := [(2, .long (X_pk tb len a0 (at_ + 1 - a0).toNat)), (1, .int (iI (bI (X_DA tb len a0 (at_ + 1))))), (0, .ref 497)]) (st' := [.ref 497, .ref 497]) rfl ?_
            refine T_get xr_53_92 hx.1 rfl (v := .int (iI at_)) rfl (pc' := 95) rfl ?_
            refine T_p xr_53_95 xn_53 (pc' := 96) (ls' := [(2, .long (X_pk tb len a0 (at_ + 1 - a0).toNat)), (1, .int (iI (bI (X_DA tb len a0 (at_ + 1))))), (0, .ref 497)]) (st' := [.int (iI 1), .int (iI at_), .ref 497]) rfl ?_
            refine T_ziadd xr_53_96 (z := at_ + 1) rfl (pc' := 97) rfl ?_
            refine T_put xr_53_97 hx.1 rfl (Nat.le_of_ble_eq_true rfl) rfl (fs' := [.ref 2, .int (iI (at_ + 1)), .int (iI cnt), .ref 498, .ref 499, .ref 500, .int (iI cur)]) rfl (pc' := 100) rfl (fun S182 h183 n184 e185 => ?_)
            refine T_p xr_53_100 xn_53 (pc' := 14) (ls' := [(2, .long (X_pk tb len a0 (at_ + 1 - a0).toNat)), (1, .int (iI (bI (X_DA tb len a0 (at_ + 1))))), (0, .ref 497)]) (st' := []) rfl ?_
            have e2 : X_se X_isPB tb len at_ = X_se X_isPB tb len (at_ + 1) := X_se_go (by omega) (by assumption)
            have h186 := (n184 2 (by decide)).trans (ht.1)
            have h187 := (n184 3 (by decide)).trans (ht.2.1)
            have h188 := (n184 498 (by decide)).trans (hx.2.1)
            have h189 := (n184 499 (by decide)).trans (hx.2.2.1)
            have h190 := (n184 500 (by decide)).trans (hx.2.2.2)
            refine ih S182 (at_ + 1) ⟨h186, h187, hl⟩ ⟨h183, h188, h189, h190⟩ (by omega) (by omega) (fun S' k1 k2 k3 => ?_)
            have kk := hex S' k1 (by rw [e2]; exact k2) (((X_Fr.rf).tr (X_Fr.of n184 e185 (by omega))).tr k3)
            (try rw [e2] at kk)
            exact kk
          · skip
            have c175 : (X_isD (X_at tb len at_)) := c175
            refine T_p xr_53_66 xn_53 (pc' := 67) (ls' := [(2, .long (X_pk tb len a0 (at_ - a0).toNat)), (1, .int (iI (bI (X_DA tb len a0 (at_))))), (0, .ref 497)]) (st' := [.int (iI 1)]) rfl ?_
            refine T_p xr_53_67 xn_53 (pc' := 71) (ls' := [(2, .long (X_pk tb len a0 (at_ - a0).toNat)), (1, .int (iI (bI (X_DA tb len a0 (at_))))), (0, .ref 497)]) (st' := [.int (iI 1)]) rfl ?_
            refine T_ie (y := iI (bI (X_DA tb len a0 (at_ + 1)))) (by rw [bI_t (X_DA_go (by assumption) (by assumption))]) ?_
            refine T_p xr_53_71 xn_53 (pc' := 72) (ls' := [(1, .int (iI (bI (X_DA tb len a0 (at_ + 1))))), (2, .long (X_pk tb len a0 (at_ - a0).toNat)), (0, .ref 497)]) (st' := []) rfl ?_
            refine T_p xr_53_72 xn_53 (pc' := 73) (ls' := [(1, .int (iI (bI (X_DA tb len a0 (at_ + 1))))), (2, .long (X_pk tb len a0 (at_ - a0).toNat)), (0, .ref 497)]) (st' := [.long (X_pk tb len a0 (at_ - a0).toNat)]) rfl ?_
            refine T_p xr_53_73 xn_53 (pc' := 75) (ls' := [(1, .int (iI (bI (X_DA tb len a0 (at_ + 1))))), (2, .long (X_pk tb len a0 (at_ - a0).toNat)), (0, .ref 497)]) (st' := [.int (iI 8), .long (X_pk tb len a0 (at_ - a0).toNat)]) rfl ?_
            refine T_p xr_53_75 xn_53 (pc' := 76) (ls' := [(1, .int (iI (bI (X_DA tb len a0 (at_ + 1))))), (2, .long (X_pk tb len a0 (at_ - a0).toNat)), (0, .ref 497)]) (st' := [.long ((X_pk tb len a0 (at_ - a0).toNat) <<< ((iI 8).toInt64 &&& 63))]) rfl ?_
            refine T_p xr_53_76 xn_53 (pc' := 77) (ls' := [(1, .int (iI (bI (X_DA tb len a0 (at_ + 1))))), (2, .long (X_pk tb len a0 (at_ - a0).toNat)), (0, .ref 497)]) (st' := [.ref 497, .long ((X_pk tb len a0 (at_ - a0).toNat) <<< ((iI 8).toInt64 &&& 63))]) rfl ?_
            refine T_get xr_53_77 hx.1 rfl (v := .ref 2) rfl (pc' := 80) rfl ?_
            refine T_p xr_53_80 xn_53 (pc' := 81) (ls' := [(1, .int (iI (bI (X_DA tb len a0 (at_ + 1))))), (2, .long (X_pk tb len a0 (at_ - a0).toNat)), (0, .ref 497)]) (st' := [.ref 497, .ref 2, .long ((X_pk tb len a0 (at_ - a0).toNat) <<< ((iI 8).toInt64 &&& 63))]) rfl ?_
            refine T_get xr_53_81 hx.1 rfl (v := .int (iI at_)) rfl (pc' := 84) rfl ?_
            refine T_cv (S := S) (q := 2) xr_53_84 xf_88.1 xf_88.2.1 xn_88 (as := [.int (iI at_)]) (r := [.long ((X_pk tb len a0 (at_ - a0).toNat) <<< ((iI 8).toInt64 &&& 63))]) rfl ht.1 (Nat.le_of_ble_eq_true rfl) (Nat.le_of_ble_eq_true rfl) (pc' := 87) rfl (ls' := [(0, .ref 2), (1, .int (iI at_))]) rfl ?_
            refine T_mono (c_byteAt sc S len at_ tb ht.1 ht.2.1 hl (by omega)) (fun v192 S193 h191 => ?_)
            obtain ⟨h194, h195⟩ := h191
            rw [h194, h195]
            show X_T sc 53 (87, [(1, .int (iI (bI (X_DA tb len a0 (at_ + 1))))), (2, .long (X_pk tb len a0 (at_ - a0).toNat)), (0, .ref 497)], [.int (iI (X_at tb len at_)), .long ((X_pk tb len a0 (at_ - a0).toNat) <<< ((iI 8).toInt64 &&& 63))], S) _
            have r196 := X_at_r tb len at_
            refine T_p xr_53_87 xn_53 (pc' := 88) (ls' := [(1, .int (iI (bI (X_DA tb len a0 (at_ + 1))))), (2, .long (X_pk tb len a0 (at_ - a0).toNat)), (0, .ref 497)]) (st' := [.long ((iI (X_at tb len at_)).toInt64), .long ((X_pk tb len a0 (at_ - a0).toNat) <<< ((iI 8).toInt64 &&& 63))]) rfl ?_
            refine T_p xr_53_88 xn_53 (pc' := 89) (ls' := [(1, .int (iI (bI (X_DA tb len a0 (at_ + 1))))), (2, .long (X_pk tb len a0 (at_ - a0).toNat)), (0, .ref 497)]) (st' := [.long (((X_pk tb len a0 (at_ - a0).toNat) <<< ((iI 8).toInt64 &&& 63)) ||| ((iI (X_at tb len at_)).toInt64))]) rfl ?_
            refine T_le (y := (X_pk tb len a0 (at_ + 1 - a0).toNat)) (X_pk_go (by omega)) ?_
            refine T_p xr_53_89 xn_53 (pc' := 90) (ls' := [(2, .long (X_pk tb len a0 (at_ + 1 - a0).toNat)), (1, .int (iI (bI (X_DA tb len a0 (at_ + 1))))), (0, .ref 497)]) (st' := []) rfl ?_
            refine T_p xr_53_90 xn_53 (pc' := 91) (ls' := [(2, .long (X_pk tb len a0 (at_ + 1 - a0).toNat)), (1, .int (iI (bI (X_DA tb len a0 (at_ + 1))))), (0, .ref 497)]) (st' := [.ref 497]) rfl ?_
            refine T_p xr_53_91 xn_53 (pc' := 92) (ls' := [(2, .long (X_pk tb len a0 (at_ + 1 - a0).toNat)), (1, .int (iI (bI (X_DA tb len a0 (at_ + 1))))), (0, .ref 497)]) (st' := [.ref 497, .ref 497]) rfl ?_
            refine T_get xr_53_92 hx.1 rfl (v := .int (iI at_)) rfl (pc' := 95) rfl ?_
            refine T_p xr_53_95 xn_53 (pc' := 96) (ls' := [(2, .long (X_pk tb len a0 (at_ + 1 - a0).toNat)), (1, .int (iI (bI (X_DA tb len a0 (at_ + 1))))), (0, .ref 497)]) (st' := [.int (iI 1), .int (iI at_), .ref 497]) rfl ?_
            refine T_ziadd xr_53_96 (z := at_ + 1) rfl (pc' := 97) rfl ?_
            refine T_put xr_53_97 hx.1 rfl (Nat.le_of_ble_eq_true rfl) rfl (fs' := [.ref 2, .int (iI (at_ + 1)), .int (iI cnt), .ref 498, .ref 499, .ref 500, .int (iI cur)]) rfl (pc' := 100) rfl (fun S197 h198 n199 e200 => ?_)
            refine T_p xr_53_100 xn_53 (pc' := 14) (ls' := [(2, .long (X_pk tb len a0 (at_ + 1 - a0).toNat)), (1, .int (iI (bI (X_DA tb len a0 (at_ + 1))))), (0, .ref 497)]) (st' := []) rfl ?_
            have e2 : X_se X_isPB tb len at_ = X_se X_isPB tb len (at_ + 1) := X_se_go (by omega) (by assumption)
            have h201 := (n199 2 (by decide)).trans (ht.1)
            have h202 := (n199 3 (by decide)).trans (ht.2.1)
            have h203 := (n199 498 (by decide)).trans (hx.2.1)
            have h204 := (n199 499 (by decide)).trans (hx.2.2.1)
            have h205 := (n199 500 (by decide)).trans (hx.2.2.2)
            refine ih S197 (at_ + 1) ⟨h201, h202, hl⟩ ⟨h198, h203, h204, h205⟩ (by omega) (by omega) (fun S' k1 k2 k3 => ?_)
            have kk := hex S' k1 (by rw [e2]; exact k2) (((X_Fr.rf).tr (X_Fr.of n199 e200 (by omega))).tr k3)
            (try rw [e2] at kk)
            exact kk
theorem c_takeName (sc : X_Sc) (S : X_S) (len : Int) (tb : Int → Int) (a cnt cur : Int) (so pl : Int → Int) (ct : Int → Int64) (ht : C_tp S len tb) (hx : C_lx S a cnt cur so pl ct) (ha : 0 ≤ a ∧ a < len) (hcn : 0 ≤ cnt ∧ cnt ≤ 2000) (hpl : pl cnt = a) (hct : ct cnt = 0) (hc : X_isL (X_at tb len a)) :
    X_T sc 51 (0, [(0, .ref 497)], [], S) (fun v S' => ∃ (r e : Int) (ct' : Int → Int64), v = some (.int (iI r)) ∧ X_Tok tb len a r (ct' cnt) e ∧ (∀ k, k ≠ cnt → ct' k = ct k) ∧ C_lx S' e cnt cur so pl ct' ∧ X_Fr (fun q => q = 497 ∨ q = 500) S S') := by
  have hl : 0 ≤ len ∧ len ≤ 2000 := ht.2.2
  have hat := X_at_r tb len a
  refine T_p xr_51_0 xn_51 (pc' := 1) (ls' := [(0, .ref 497)]) (st' := [.long (0 : Int64)]) rfl ?_
  refine T_le (y := (X_pk tb len a (a - a).toNat)) (by rw [show (a - a).toNat = 0 by omega]; rfl) ?_
  refine T_p xr_51_1 xn_51 (pc' := 2) (ls' := [(1, .long (X_pk tb len a (a - a).toNat)), (0, .ref 497)]) (st' := []) rfl ?_
  refine c_takeName_l sc len tb cnt cur a so pl ct hl _ len.toNat S a ⟨ht.1, ht.2.1, hl⟩ ⟨hx.1, hx.2.1, hx.2.2.1, hx.2.2.2⟩ (by omega) (by omega) (fun S210 k207 k208 k209 => ?_)
  have hse := X_se_r X_isLD tb len a
  refine T_p xr_51_64 xn_51 (pc' := 65) (ls' := [(1, .long (X_pk tb len a ((X_se X_isLD tb len a) - a).toNat)), (0, .ref 497)]) (st' := [.ref 497]) rfl ?_
  refine T_get xr_51_65 k208.1 rfl (v := .int (iI (X_se X_isLD tb len a))) rfl (pc' := 68) rfl ?_
  refine T_p xr_51_68 xn_51 (pc' := 69) (ls' := [(1, .long (X_pk tb len a ((X_se X_isLD tb len a) - a).toNat)), (0, .ref 497)]) (st' := [.ref 497, .int (iI (X_se X_isLD tb len a))]) rfl ?_
  refine T_get xr_51_69 k208.1 rfl (v := .ref 499) rfl (pc' := 72) rfl ?_
  refine T_p xr_51_72 xn_51 (pc' := 73) (ls' := [(1, .long (X_pk tb len a ((X_se X_isLD tb len a) - a).toNat)), (0, .ref 497)]) (st' := [.ref 497, .ref 499, .int (iI (X_se X_isLD tb len a))]) rfl ?_
  refine T_get xr_51_73 k208.1 rfl (v := .int (iI cnt)) rfl (pc' := 76) rfl ?_
  refine T_ziald xr_51_76 k208.2.2.1 (pc' := 77) rfl ?_
  refine T_ie (y := iI a) (by rw [hpl]) ?_
  refine T_zisub xr_51_77 (z := (X_se X_isLD tb len a) - a) rfl (pc' := 78) rfl ?_
  refine T_p xr_51_78 xn_51 (pc' := 80) (ls' := [(1, .long (X_pk tb len a ((X_se X_isLD tb len a) - a).toNat)), (0, .ref 497)]) (st' := [.int (iI 8), .int (iI ((X_se X_isLD tb len a) - a))]) rfl ?_
  refine T_zicmp_le xr_51_80 (t := 85) (pc' := 83) rfl rfl (fun c211 => ?_) (fun c211 => ?_)
  · skip
    have c211 : ((X_se X_isLD tb len a) - a) ≤ 8 := c211
    refine T_p xr_51_85 xn_51 (pc' := 86) (ls' := [(1, .long (X_pk tb len a ((X_se X_isLD tb len a) - a).toNat)), (0, .ref 497)]) (st' := [.ref 497]) rfl ?_
    refine T_get xr_51_86 k208.1 rfl (v := .ref 500) rfl (pc' := 89) rfl ?_
    refine T_p xr_51_89 xn_51 (pc' := 90) (ls' := [(1, .long (X_pk tb len a ((X_se X_isLD tb len a) - a).toNat)), (0, .ref 497)]) (st' := [.ref 497, .ref 500]) rfl ?_
    refine T_get xr_51_90 k208.1 rfl (v := .int (iI cnt)) rfl (pc' := 93) rfl ?_
    refine T_p xr_51_93 xn_51 (pc' := 94) (ls' := [(1, .long (X_pk tb len a ((X_se X_isLD tb len a) - a).toNat)), (0, .ref 497)]) (st' := [.long (X_pk tb len a ((X_se X_isLD tb len a) - a).toNat), .int (iI cnt), .ref 500]) rfl ?_
    refine T_zlast xr_51_94 k208.2.2.2 (pc' := 95) rfl (fun S212 h213 n214 e215 => ?_)
    refine T_p xr_51_95 xn_51 (pc' := 96) (ls' := [(1, .long (X_pk tb len a ((X_se X_isLD tb len a) - a).toNat)), (0, .ref 497)]) (st' := [.long (X_pk tb len a ((X_se X_isLD tb len a) - a).toNat)]) rfl ?_
    refine T_cs xr_51_96 (by decide) xf_55.1 xn_55 (as := [.long (X_pk tb len a ((X_se X_isLD tb len a) - a).toNat)]) (r := []) rfl (Nat.le_of_ble_eq_true rfl) (Nat.le_of_ble_eq_true rfl) (pc' := 99) rfl (ls' := [(0, .long (X_pk tb len a ((X_se X_isLD tb len a) - a).toNat))]) rfl ?_
    refine T_mono (c_isRes sc S212 (X_pk tb len a ((X_se X_isLD tb len a) - a).toNat)) (fun v217 S218 h216 => ?_)
    obtain ⟨h219, h220⟩ := h216
    rw [h219, h220]
    show X_T sc 51 (99, [(1, .long (X_pk tb len a ((X_se X_isLD tb len a) - a).toNat)), (0, .ref 497)], [.int (iI (bI (X_res (X_pk tb len a ((X_se X_isLD tb len a) - a).toNat))))], S212) _
    refine T_bif_eq xr_51_99 (t := 106) (pc' := 102) rfl rfl (fun c221 => ?_) (fun c221 => ?_)
    · skip
      have c221 : ¬ (X_res (X_pk tb len a ((X_se X_isLD tb len a) - a).toNat)) := c221
      refine T_p xr_51_106 xn_51 (pc' := 107) (ls' := [(1, .long (X_pk tb len a ((X_se X_isLD tb len a) - a).toNat)), (0, .ref 497)]) (st' := [.int (iI 2)]) rfl ?_
      refine T_iret xr_51_107 xf_51.2.2 rfl ?_
      have h222 := (n214 497 (by decide)).trans (k208.1)
      have h223 := (n214 498 (by decide)).trans (k208.2.1)
      have h224 := (n214 499 (by decide)).trans (k208.2.2.1)
      refine ⟨2, (X_se X_isLD tb len a), (X_ug ct cnt (X_pk tb len a ((X_se X_isLD tb len a) - a).toNat)), rfl, ?_, fun k hk => X_ug_n _ _ hk, ⟨h222, h223, h224, h213⟩, ((X_Fr.rf).tr (X_Fr.mono ⟨k209.1, k209.2⟩ (fun q hq => by omega))).tr (X_Fr.of n214 e215 (by omega))⟩
      rw [X_ug_s]
      exact Or.inr (Or.inl ⟨hc, rfl, Or.inr ⟨by omega, rfl, Or.inr ⟨by assumption, rfl⟩⟩⟩)
    · skip
      have c221 : (X_res (X_pk tb len a ((X_se X_isLD tb len a) - a).toNat)) := c221
      refine T_p xr_51_102 xn_51 (pc' := 103) (ls' := [(1, .long (X_pk tb len a ((X_se X_isLD tb len a) - a).toNat)), (0, .ref 497)]) (st' := [.int (iI 3)]) rfl ?_
      refine T_p xr_51_103 xn_51 (pc' := 107) (ls' := [(1, .long (X_pk tb len a ((X_se X_isLD tb len a) - a).toNat)), (0, .ref 497)]) (st' := [.int (iI 3)]) rfl ?_
      refine T_iret xr_51_107 xf_51.2.2 rfl ?_
      have h225 := (n214 497 (by decide)).trans (k208.1)
      have h226 := (n214 498 (by decide)).trans (k208.2.1)
      have h227 := (n214 499 (by decide)).trans (k208.2.2.1)
      refine ⟨3, (X_se X_isLD tb len a), (X_ug ct cnt (X_pk tb len a ((X_se X_isLD tb len a) - a).toNat)), rfl, ?_, fun k hk => X_ug_n _ _ hk, ⟨h225, h226, h227, h213⟩, ((X_Fr.rf).tr (X_Fr.mono ⟨k209.1, k209.2⟩ (fun q hq => by omega))).tr (X_Fr.of n214 e215 (by omega))⟩
      rw [X_ug_s]
      exact Or.inr (Or.inl ⟨hc, rfl, Or.inr ⟨by omega, rfl, Or.inl ⟨by assumption, rfl⟩⟩⟩)
  · skip
    have c211 : ¬ (((X_se X_isLD tb len a) - a) ≤ 8) := c211
    refine T_p xr_51_83 xn_51 (pc' := 84) (ls' := [(1, .long (X_pk tb len a ((X_se X_isLD tb len a) - a).toNat)), (0, .ref 497)]) (st' := [.int (iI 1)]) rfl ?_
    refine T_iret xr_51_84 xf_51.2.2 rfl ?_
    refine ⟨1, (X_se X_isLD tb len a), ct, rfl, ?_, fun _ _ => rfl, ⟨k208.1, k208.2.1, k208.2.2.1, k208.2.2.2⟩, (X_Fr.rf).tr (X_Fr.mono ⟨k209.1, k209.2⟩ (fun q hq => by omega))⟩
    rw [hct]
    exact Or.inr (Or.inl ⟨hc, rfl, Or.inl ⟨by omega, rfl, rfl⟩⟩)
theorem c_takeNumber (sc : X_Sc) (S : X_S) (len : Int) (tb : Int → Int) (a cnt cur : Int) (so pl : Int → Int) (ct : Int → Int64) (ht : C_tp S len tb) (hx : C_lx S a cnt cur so pl ct) (ha : 0 ≤ a ∧ a < len) (hcn : 0 ≤ cnt ∧ cnt ≤ 2000) (hpl : pl cnt = a) (hct : ct cnt = 0) (hc : X_isD (X_at tb len a)) :
    X_T sc 52 (0, [(0, .ref 497)], [], S) (fun v S' => ∃ (r e : Int) (ct' : Int → Int64), v = some (.int (iI r)) ∧ X_Tok tb len a r (ct' cnt) e ∧ (∀ k, k ≠ cnt → ct' k = ct k) ∧ C_lx S' e cnt cur so pl ct' ∧ X_Fr (fun q => q = 497 ∨ q = 500) S S') := by
  have hl : 0 ≤ len ∧ len ≤ 2000 := ht.2.2
  have hat := X_at_r tb len a
  refine T_p xr_52_0 xn_52 (pc' := 1) (ls' := [(0, .ref 497)]) (st' := [.long (0 : Int64)]) rfl ?_
  refine T_le (y := (iL (X_dv tb len a (a - a).toNat))) (by rw [show (a - a).toNat = 0 by omega]; rfl) ?_
  refine T_p xr_52_1 xn_52 (pc' := 2) (ls' := [(1, .long (iL (X_dv tb len a (a - a).toNat))), (0, .ref 497)]) (st' := []) rfl ?_
  refine c_takeNumber_l sc len tb cnt cur a so pl ct hl _ len.toNat S a ⟨ht.1, ht.2.1, hl⟩ ⟨hx.1, hx.2.1, hx.2.2.1, hx.2.2.2⟩ (by omega) (by omega) (fun S231 k228 k229 k230 => ?_)
  have hse := X_se_r X_isD tb len a
  refine T_p xr_52_69 xn_52 (pc' := 70) (ls' := [(1, .long (iL (X_dv tb len a ((X_se X_isD tb len a) - a).toNat))), (0, .ref 497)]) (st' := [.ref 497]) rfl ?_
  refine T_get xr_52_70 k229.1 rfl (v := .int (iI (X_se X_isD tb len a))) rfl (pc' := 73) rfl ?_
  refine T_p xr_52_73 xn_52 (pc' := 74) (ls' := [(1, .long (iL (X_dv tb len a ((X_se X_isD tb len a) - a).toNat))), (0, .ref 497)]) (st' := [.ref 497, .int (iI (X_se X_isD tb len a))]) rfl ?_
  refine T_get xr_52_74 k229.1 rfl (v := .ref 499) rfl (pc' := 77) rfl ?_
  refine T_p xr_52_77 xn_52 (pc' := 78) (ls' := [(1, .long (iL (X_dv tb len a ((X_se X_isD tb len a) - a).toNat))), (0, .ref 497)]) (st' := [.ref 497, .ref 499, .int (iI (X_se X_isD tb len a))]) rfl ?_
  refine T_get xr_52_78 k229.1 rfl (v := .int (iI cnt)) rfl (pc' := 81) rfl ?_
  refine T_ziald xr_52_81 k229.2.2.1 (pc' := 82) rfl ?_
  refine T_ie (y := iI a) (by rw [hpl]) ?_
  refine T_zisub xr_52_82 (z := (X_se X_isD tb len a) - a) rfl (pc' := 83) rfl ?_
  refine T_p xr_52_83 xn_52 (pc' := 84) (ls' := [(3, .int (iI ((X_se X_isD tb len a) - a))), (1, .long (iL (X_dv tb len a ((X_se X_isD tb len a) - a).toNat))), (0, .ref 497)]) (st' := []) rfl ?_
  refine T_p xr_52_84 xn_52 (pc' := 85) (ls' := [(3, .int (iI ((X_se X_isD tb len a) - a))), (1, .long (iL (X_dv tb len a ((X_se X_isD tb len a) - a).toNat))), (0, .ref 497)]) (st' := [.int (iI ((X_se X_isD tb len a) - a))]) rfl ?_
  refine T_p xr_52_85 xn_52 (pc' := 87) (ls' := [(3, .int (iI ((X_se X_isD tb len a) - a))), (1, .long (iL (X_dv tb len a ((X_se X_isD tb len a) - a).toNat))), (0, .ref 497)]) (st' := [.int (iI 9), .int (iI ((X_se X_isD tb len a) - a))]) rfl ?_
  refine T_zicmp_gt xr_52_87 (t := 107) (pc' := 90) rfl rfl (fun c232 => ?_) (fun c232 => ?_)
  · skip
    have c232 : 9 < ((X_se X_isD tb len a) - a) := c232
    refine T_p xr_52_107 xn_52 (pc' := 108) (ls' := [(3, .int (iI ((X_se X_isD tb len a) - a))), (1, .long (iL (X_dv tb len a ((X_se X_isD tb len a) - a).toNat))), (0, .ref 497)]) (st' := [.int (iI 1)]) rfl ?_
    refine T_iret xr_52_108 xf_52.2.2 rfl ?_
    refine ⟨1, (X_se X_isD tb len a), ct, rfl, ?_, fun _ _ => rfl, ⟨k229.1, k229.2.1, k229.2.2.1, k229.2.2.2⟩, (X_Fr.rf).tr (X_Fr.mono ⟨k230.1, k230.2⟩ (fun q hq => by omega))⟩
    rw [hct]
    exact Or.inr (Or.inr (Or.inl ⟨hc, rfl, Or.inl ⟨by first | exact Or.inl (by omega) | exact Or.inr (by assumption), rfl, rfl⟩⟩))
  · skip
    have c232 : ¬ (9 < ((X_se X_isD tb len a) - a)) := c232
    refine T_p xr_52_90 xn_52 (pc' := 91) (ls' := [(3, .int (iI ((X_se X_isD tb len a) - a))), (1, .long (iL (X_dv tb len a ((X_se X_isD tb len a) - a).toNat))), (0, .ref 497)]) (st' := [.ref 497]) rfl ?_
    refine T_get xr_52_91 k229.1 rfl (v := .ref 2) rfl (pc' := 94) rfl ?_
    refine T_p xr_52_94 xn_52 (pc' := 95) (ls' := [(3, .int (iI ((X_se X_isD tb len a) - a))), (1, .long (iL (X_dv tb len a ((X_se X_isD tb len a) - a).toNat))), (0, .ref 497)]) (st' := [.ref 497, .ref 2]) rfl ?_
    refine T_get xr_52_95 k229.1 rfl (v := .int (iI (X_se X_isD tb len a))) rfl (pc' := 98) rfl ?_
    refine T_cv (S := S231) (q := 2) xr_52_98 xf_88.1 xf_88.2.1 xn_88 (as := [.int (iI (X_se X_isD tb len a))]) (r := []) rfl k228.1 (Nat.le_of_ble_eq_true rfl) (Nat.le_of_ble_eq_true rfl) (pc' := 101) rfl (ls' := [(0, .ref 2), (1, .int (iI (X_se X_isD tb len a)))]) rfl ?_
    refine T_mono (c_byteAt sc S231 len (X_se X_isD tb len a) tb k228.1 k228.2.1 hl (by omega)) (fun v234 S235 h233 => ?_)
    obtain ⟨h236, h237⟩ := h233
    rw [h236, h237]
    show X_T sc 52 (101, [(3, .int (iI ((X_se X_isD tb len a) - a))), (1, .long (iL (X_dv tb len a ((X_se X_isD tb len a) - a).toNat))), (0, .ref 497)], [.int (iI (X_at tb len (X_se X_isD tb len a)))], S231) _
    have r238 := X_at_r tb len (X_se X_isD tb len a)
    refine T_cs xr_52_101 (by decide) xf_56.1 xn_56 (as := [.int (iI (X_at tb len (X_se X_isD tb len a)))]) (r := []) rfl (Nat.le_of_ble_eq_true rfl) (Nat.le_of_ble_eq_true rfl) (pc' := 104) rfl (ls' := [(0, .int (iI (X_at tb len (X_se X_isD tb len a))))]) rfl ?_
    refine T_mono (c_isLetter sc S231 (X_at tb len (X_se X_isD tb len a)) (X_at_r tb len (X_se X_isD tb len a))) (fun v240 S241 h239 => ?_)
    obtain ⟨h242, h243⟩ := h239
    rw [h242, h243]
    show X_T sc 52 (104, [(3, .int (iI ((X_se X_isD tb len a) - a))), (1, .long (iL (X_dv tb len a ((X_se X_isD tb len a) - a).toNat))), (0, .ref 497)], [.int (iI (bI (X_isL (X_at tb len (X_se X_isD tb len a)))))], S231) _
    refine T_bif_eq xr_52_104 (t := 109) (pc' := 107) rfl rfl (fun c244 => ?_) (fun c244 => ?_)
    · skip
      have c244 : ¬ (X_isL (X_at tb len (X_se X_isD tb len a))) := c244
      refine T_p xr_52_109 xn_52 (pc' := 110) (ls' := [(3, .int (iI ((X_se X_isD tb len a) - a))), (1, .long (iL (X_dv tb len a ((X_se X_isD tb len a) - a).toNat))), (0, .ref 497)]) (st' := [.ref 497]) rfl ?_
      refine T_get xr_52_110 k229.1 rfl (v := .ref 500) rfl (pc' := 113) rfl ?_
      refine T_p xr_52_113 xn_52 (pc' := 114) (ls' := [(3, .int (iI ((X_se X_isD tb len a) - a))), (1, .long (iL (X_dv tb len a ((X_se X_isD tb len a) - a).toNat))), (0, .ref 497)]) (st' := [.ref 497, .ref 500]) rfl ?_
      refine T_get xr_52_114 k229.1 rfl (v := .int (iI cnt)) rfl (pc' := 117) rfl ?_
      refine T_p xr_52_117 xn_52 (pc' := 118) (ls' := [(3, .int (iI ((X_se X_isD tb len a) - a))), (1, .long (iL (X_dv tb len a ((X_se X_isD tb len a) - a).toNat))), (0, .ref 497)]) (st' := [.long (iL (X_dv tb len a ((X_se X_isD tb len a) - a).toNat)), .int (iI cnt), .ref 500]) rfl ?_
      refine T_zlast xr_52_118 k229.2.2.2 (pc' := 119) rfl (fun S245 h246 n247 e248 => ?_)
      refine T_p xr_52_119 xn_52 (pc' := 120) (ls' := [(3, .int (iI ((X_se X_isD tb len a) - a))), (1, .long (iL (X_dv tb len a ((X_se X_isD tb len a) - a).toNat))), (0, .ref 497)]) (st' := [.int (iI ((X_se X_isD tb len a) - a))]) rfl ?_
      refine T_p xr_52_120 xn_52 (pc' := 121) (ls' := [(3, .int (iI ((X_se X_isD tb len a) - a))), (1, .long (iL (X_dv tb len a ((X_se X_isD tb len a) - a).toNat))), (0, .ref 497)]) (st' := [.int (iI 1), .int (iI ((X_se X_isD tb len a) - a))]) rfl ?_
      refine T_zicmp_ne xr_52_121 (t := 128) (pc' := 124) rfl rfl (fun c249 => ?_) (fun c249 => ?_)
      · skip
        have c249 : ¬ ((X_se X_isD tb len a) - a) = 1 := c249
        refine T_p xr_52_128 xn_52 (pc' := 129) (ls' := [(3, .int (iI ((X_se X_isD tb len a) - a))), (1, .long (iL (X_dv tb len a ((X_se X_isD tb len a) - a).toNat))), (0, .ref 497)]) (st' := [.int (iI 4)]) rfl ?_
        refine T_iret xr_52_129 xf_52.2.2 rfl ?_
        have h250 := (n247 497 (by decide)).trans (k229.1)
        have h251 := (n247 498 (by decide)).trans (k229.2.1)
        have h252 := (n247 499 (by decide)).trans (k229.2.2.1)
        refine ⟨4, (X_se X_isD tb len a), (X_ug ct cnt (iL (X_dv tb len a ((X_se X_isD tb len a) - a).toNat))), rfl, ?_, fun k hk => X_ug_n _ _ hk, ⟨h250, h251, h252, h246⟩, ((X_Fr.rf).tr (X_Fr.mono ⟨k230.1, k230.2⟩ (fun q hq => by omega))).tr (X_Fr.of n247 e248 (by omega))⟩
        rw [X_ug_s]
        exact Or.inr (Or.inr (Or.inl ⟨hc, rfl, Or.inr ⟨by omega, by assumption, rfl, Or.inr ⟨by omega, rfl⟩⟩⟩))
      · skip
        have c249 : ¬ (¬ ((X_se X_isD tb len a) - a) = 1) := c249
        refine T_p xr_52_124 xn_52 (pc' := 125) (ls' := [(3, .int (iI ((X_se X_isD tb len a) - a))), (1, .long (iL (X_dv tb len a ((X_se X_isD tb len a) - a).toNat))), (0, .ref 497)]) (st' := [.int (iI 5)]) rfl ?_
        refine T_p xr_52_125 xn_52 (pc' := 129) (ls' := [(3, .int (iI ((X_se X_isD tb len a) - a))), (1, .long (iL (X_dv tb len a ((X_se X_isD tb len a) - a).toNat))), (0, .ref 497)]) (st' := [.int (iI 5)]) rfl ?_
        refine T_iret xr_52_129 xf_52.2.2 rfl ?_
        have h253 := (n247 497 (by decide)).trans (k229.1)
        have h254 := (n247 498 (by decide)).trans (k229.2.1)
        have h255 := (n247 499 (by decide)).trans (k229.2.2.1)
        refine ⟨5, (X_se X_isD tb len a), (X_ug ct cnt (iL (X_dv tb len a ((X_se X_isD tb len a) - a).toNat))), rfl, ?_, fun k hk => X_ug_n _ _ hk, ⟨h253, h254, h255, h246⟩, ((X_Fr.rf).tr (X_Fr.mono ⟨k230.1, k230.2⟩ (fun q hq => by omega))).tr (X_Fr.of n247 e248 (by omega))⟩
        rw [X_ug_s]
        exact Or.inr (Or.inr (Or.inl ⟨hc, rfl, Or.inr ⟨by omega, by assumption, rfl, Or.inl ⟨by omega, rfl⟩⟩⟩))
    · skip
      have c244 : (X_isL (X_at tb len (X_se X_isD tb len a))) := c244
      refine T_p xr_52_107 xn_52 (pc' := 108) (ls' := [(3, .int (iI ((X_se X_isD tb len a) - a))), (1, .long (iL (X_dv tb len a ((X_se X_isD tb len a) - a).toNat))), (0, .ref 497)]) (st' := [.int (iI 1)]) rfl ?_
      refine T_iret xr_52_108 xf_52.2.2 rfl ?_
      refine ⟨1, (X_se X_isD tb len a), ct, rfl, ?_, fun _ _ => rfl, ⟨k229.1, k229.2.1, k229.2.2.1, k229.2.2.2⟩, (X_Fr.rf).tr (X_Fr.mono ⟨k230.1, k230.2⟩ (fun q hq => by omega))⟩
      rw [hct]
      exact Or.inr (Or.inr (Or.inl ⟨hc, rfl, Or.inl ⟨by first | exact Or.inl (by omega) | exact Or.inr (by assumption), rfl, rfl⟩⟩))
theorem c_takePart (sc : X_Sc) (S : X_S) (len : Int) (tb : Int → Int) (a cnt cur : Int) (so pl : Int → Int) (ct : Int → Int64) (ht : C_tp S len tb) (hx : C_lx S a cnt cur so pl ct) (ha : 0 ≤ a ∧ a < len) (hcn : 0 ≤ cnt ∧ cnt ≤ 2000) (hpl : pl cnt = a) (hct : ct cnt = 0) (hc : X_at tb len a = 34) :
    X_T sc 53 (0, [(0, .ref 497)], [], S) (fun v S' => ∃ (r e : Int) (ct' : Int → Int64), v = some (.int (iI r)) ∧ X_Tok tb len a r (ct' cnt) e ∧ (∀ k, k ≠ cnt → ct' k = ct k) ∧ C_lx S' e cnt cur so pl ct' ∧ X_Fr (fun q => q = 497 ∨ q = 500) S S') := by
  have hl : 0 ≤ len ∧ len ≤ 2000 := ht.2.2
  have hat := X_at_r tb len a
  refine T_p xr_53_0 xn_53 (pc' := 1) (ls' := [(0, .ref 497)]) (st' := [.int (iI 1)]) rfl ?_
  refine T_ie (y := iI (bI (X_DA tb len (a + 1) (a + 1)))) (by rw [bI_t (show X_DA tb len (a + 1) (a + 1) from fun k h1 h2 => (show False by omega).elim)]) ?_
  refine T_p xr_53_1 xn_53 (pc' := 2) (ls' := [(1, .int (iI (bI (X_DA tb len (a + 1) (a + 1))))), (0, .ref 497)]) (st' := []) rfl ?_
  refine T_p xr_53_2 xn_53 (pc' := 3) (ls' := [(1, .int (iI (bI (X_DA tb len (a + 1) (a + 1))))), (0, .ref 497)]) (st' := [.long (0 : Int64)]) rfl ?_
  refine T_le (y := (X_pk tb len (a + 1) ((a + 1) - (a + 1)).toNat)) (by rw [show ((a + 1) - (a + 1)).toNat = 0 by omega]; rfl) ?_
  refine T_p xr_53_3 xn_53 (pc' := 4) (ls' := [(2, .long (X_pk tb len (a + 1) ((a + 1) - (a + 1)).toNat)), (1, .int (iI (bI (X_DA tb len (a + 1) (a + 1))))), (0, .ref 497)]) (st' := []) rfl ?_
  refine T_p xr_53_4 xn_53 (pc' := 5) (ls' := [(2, .long (X_pk tb len (a + 1) ((a + 1) - (a + 1)).toNat)), (1, .int (iI (bI (X_DA tb len (a + 1) (a + 1))))), (0, .ref 497)]) (st' := [.ref 497]) rfl ?_
  refine T_p xr_53_5 xn_53 (pc' := 6) (ls' := [(2, .long (X_pk tb len (a + 1) ((a + 1) - (a + 1)).toNat)), (1, .int (iI (bI (X_DA tb len (a + 1) (a + 1))))), (0, .ref 497)]) (st' := [.ref 497, .ref 497]) rfl ?_
  refine T_get xr_53_6 hx.1 rfl (v := .int (iI a)) rfl (pc' := 9) rfl ?_
  refine T_p xr_53_9 xn_53 (pc' := 10) (ls' := [(2, .long (X_pk tb len (a + 1) ((a + 1) - (a + 1)).toNat)), (1, .int (iI (bI (X_DA tb len (a + 1) (a + 1))))), (0, .ref 497)]) (st' := [.int (iI 1), .int (iI a), .ref 497]) rfl ?_
  refine T_ziadd xr_53_10 (z := a + 1) rfl (pc' := 11) rfl ?_
  refine T_put xr_53_11 hx.1 rfl (Nat.le_of_ble_eq_true rfl) rfl (fs' := [.ref 2, .int (iI (a + 1)), .int (iI cnt), .ref 498, .ref 499, .ref 500, .int (iI cur)]) rfl (pc' := 14) rfl (fun S256 h257 n258 e259 => ?_)
  have h264 := (n258 2 (by decide)).trans (ht.1)
  have h265 := (n258 3 (by decide)).trans (ht.2.1)
  have h266 := (n258 498 (by decide)).trans (hx.2.1)
  have h267 := (n258 499 (by decide)).trans (hx.2.2.1)
  have h268 := (n258 500 (by decide)).trans (hx.2.2.2)
  refine c_takePart_l sc len tb cnt cur (a + 1) so pl ct hl _ len.toNat S256 (a + 1) ⟨h264, h265, hl⟩ ⟨h257, h266, h267, h268⟩ (by omega) (by omega) (fun S263 k260 k261 k262 => ?_)
  have hse := X_se_r X_isPB tb len (a + 1)
  refine T_p xr_53_103 xn_53 (pc' := 104) (ls' := [(2, .long (X_pk tb len (a + 1) ((X_se X_isPB tb len (a + 1)) - (a + 1)).toNat)), (1, .int (iI (bI (X_DA tb len (a + 1) ((X_se X_isPB tb len (a + 1))))))), (0, .ref 497)]) (st' := [.ref 497]) rfl ?_
  refine T_get xr_53_104 k261.1 rfl (v := .int (iI (X_se X_isPB tb len (a + 1)))) rfl (pc' := 107) rfl ?_
  refine T_p xr_53_107 xn_53 (pc' := 108) (ls' := [(2, .long (X_pk tb len (a + 1) ((X_se X_isPB tb len (a + 1)) - (a + 1)).toNat)), (1, .int (iI (bI (X_DA tb len (a + 1) ((X_se X_isPB tb len (a + 1))))))), (0, .ref 497)]) (st' := [.ref 497, .int (iI (X_se X_isPB tb len (a + 1)))]) rfl ?_
  refine T_get xr_53_108 k261.1 rfl (v := .ref 499) rfl (pc' := 111) rfl ?_
  refine T_p xr_53_111 xn_53 (pc' := 112) (ls' := [(2, .long (X_pk tb len (a + 1) ((X_se X_isPB tb len (a + 1)) - (a + 1)).toNat)), (1, .int (iI (bI (X_DA tb len (a + 1) ((X_se X_isPB tb len (a + 1))))))), (0, .ref 497)]) (st' := [.ref 497, .ref 499, .int (iI (X_se X_isPB tb len (a + 1)))]) rfl ?_
  refine T_get xr_53_112 k261.1 rfl (v := .int (iI cnt)) rfl (pc' := 115) rfl ?_
  refine T_ziald xr_53_115 k261.2.2.1 (pc' := 116) rfl ?_
  refine T_ie (y := iI a) (by rw [hpl]) ?_
  refine T_zisub xr_53_116 (z := (X_se X_isPB tb len (a + 1)) - a) rfl (pc' := 117) rfl ?_
  refine T_p xr_53_117 xn_53 (pc' := 118) (ls' := [(2, .long (X_pk tb len (a + 1) ((X_se X_isPB tb len (a + 1)) - (a + 1)).toNat)), (1, .int (iI (bI (X_DA tb len (a + 1) ((X_se X_isPB tb len (a + 1))))))), (0, .ref 497)]) (st' := [.int (iI 1), .int (iI ((X_se X_isPB tb len (a + 1)) - a))]) rfl ?_
  refine T_zisub xr_53_118 (z := ((X_se X_isPB tb len (a + 1)) - a) - 1) rfl (pc' := 119) rfl ?_
  refine T_p xr_53_119 xn_53 (pc' := 121) (ls' := [(4, .int (iI (((X_se X_isPB tb len (a + 1)) - a) - 1))), (2, .long (X_pk tb len (a + 1) ((X_se X_isPB tb len (a + 1)) - (a + 1)).toNat)), (1, .int (iI (bI (X_DA tb len (a + 1) ((X_se X_isPB tb len (a + 1))))))), (0, .ref 497)]) (st' := []) rfl ?_
  refine T_p xr_53_121 xn_53 (pc' := 122) (ls' := [(4, .int (iI (((X_se X_isPB tb len (a + 1)) - a) - 1))), (2, .long (X_pk tb len (a + 1) ((X_se X_isPB tb len (a + 1)) - (a + 1)).toNat)), (1, .int (iI (bI (X_DA tb len (a + 1) ((X_se X_isPB tb len (a + 1))))))), (0, .ref 497)]) (st' := [.ref 497]) rfl ?_
  refine T_get xr_53_122 k261.1 rfl (v := .ref 2) rfl (pc' := 125) rfl ?_
  refine T_p xr_53_125 xn_53 (pc' := 126) (ls' := [(4, .int (iI (((X_se X_isPB tb len (a + 1)) - a) - 1))), (2, .long (X_pk tb len (a + 1) ((X_se X_isPB tb len (a + 1)) - (a + 1)).toNat)), (1, .int (iI (bI (X_DA tb len (a + 1) ((X_se X_isPB tb len (a + 1))))))), (0, .ref 497)]) (st' := [.ref 497, .ref 2]) rfl ?_
  refine T_get xr_53_126 k261.1 rfl (v := .int (iI (X_se X_isPB tb len (a + 1)))) rfl (pc' := 129) rfl ?_
  refine T_cv (S := S263) (q := 2) xr_53_129 xf_88.1 xf_88.2.1 xn_88 (as := [.int (iI (X_se X_isPB tb len (a + 1)))]) (r := []) rfl k260.1 (Nat.le_of_ble_eq_true rfl) (Nat.le_of_ble_eq_true rfl) (pc' := 132) rfl (ls' := [(0, .ref 2), (1, .int (iI (X_se X_isPB tb len (a + 1))))]) rfl ?_
  refine T_mono (c_byteAt sc S263 len (X_se X_isPB tb len (a + 1)) tb k260.1 k260.2.1 hl (by omega)) (fun v270 S271 h269 => ?_)
  obtain ⟨h272, h273⟩ := h269
  rw [h272, h273]
  show X_T sc 53 (132, [(4, .int (iI (((X_se X_isPB tb len (a + 1)) - a) - 1))), (2, .long (X_pk tb len (a + 1) ((X_se X_isPB tb len (a + 1)) - (a + 1)).toNat)), (1, .int (iI (bI (X_DA tb len (a + 1) ((X_se X_isPB tb len (a + 1))))))), (0, .ref 497)], [.int (iI (X_at tb len (X_se X_isPB tb len (a + 1))))], S263) _
  have r274 := X_at_r tb len (X_se X_isPB tb len (a + 1))
  refine T_p xr_53_132 xn_53 (pc' := 134) (ls' := [(4, .int (iI (((X_se X_isPB tb len (a + 1)) - a) - 1))), (2, .long (X_pk tb len (a + 1) ((X_se X_isPB tb len (a + 1)) - (a + 1)).toNat)), (1, .int (iI (bI (X_DA tb len (a + 1) ((X_se X_isPB tb len (a + 1))))))), (0, .ref 497)]) (st' := [.int (iI 34), .int (iI (X_at tb len (X_se X_isPB tb len (a + 1))))]) rfl ?_
  refine T_zicmp_ne xr_53_134 (t := 148) (pc' := 137) rfl rfl (fun c275 => ?_) (fun c275 => ?_)
  · skip
    have c275 : ¬ (X_at tb len (X_se X_isPB tb len (a + 1))) = 34 := c275
    refine T_p xr_53_148 xn_53 (pc' := 149) (ls' := [(4, .int (iI (((X_se X_isPB tb len (a + 1)) - a) - 1))), (2, .long (X_pk tb len (a + 1) ((X_se X_isPB tb len (a + 1)) - (a + 1)).toNat)), (1, .int (iI (bI (X_DA tb len (a + 1) ((X_se X_isPB tb len (a + 1))))))), (0, .ref 497)]) (st' := [.int (iI 1)]) rfl ?_
    refine T_iret xr_53_149 xf_53.2.2 rfl ?_
    refine ⟨1, (X_se X_isPB tb len (a + 1)), ct, rfl, ?_, fun _ _ => rfl, ⟨k261.1, k261.2.1, k261.2.2.1, k261.2.2.2⟩, ((X_Fr.rf).tr (X_Fr.of n258 e259 (by omega))).tr (X_Fr.mono ⟨k262.1, k262.2⟩ (fun q hq => by omega))⟩
    rw [hct]
    exact Or.inr (Or.inr (Or.inr (Or.inl ⟨hc, _, rfl, Or.inl ⟨by first | exact Or.inl (by assumption) | exact Or.inr (Or.inl (by omega)) | exact Or.inr (Or.inr (by assumption)), rfl, rfl, rfl⟩⟩)))
  · skip
    have c275 : ¬ (¬ (X_at tb len (X_se X_isPB tb len (a + 1))) = 34) := c275
    refine T_p xr_53_137 xn_53 (pc' := 139) (ls' := [(4, .int (iI (((X_se X_isPB tb len (a + 1)) - a) - 1))), (2, .long (X_pk tb len (a + 1) ((X_se X_isPB tb len (a + 1)) - (a + 1)).toNat)), (1, .int (iI (bI (X_DA tb len (a + 1) ((X_se X_isPB tb len (a + 1))))))), (0, .ref 497)]) (st' := [.int (iI (((X_se X_isPB tb len (a + 1)) - a) - 1))]) rfl ?_
    refine T_p xr_53_139 xn_53 (pc' := 141) (ls' := [(4, .int (iI (((X_se X_isPB tb len (a + 1)) - a) - 1))), (2, .long (X_pk tb len (a + 1) ((X_se X_isPB tb len (a + 1)) - (a + 1)).toNat)), (1, .int (iI (bI (X_DA tb len (a + 1) ((X_se X_isPB tb len (a + 1))))))), (0, .ref 497)]) (st' := [.int (iI 8), .int (iI (((X_se X_isPB tb len (a + 1)) - a) - 1))]) rfl ?_
    refine T_zicmp_gt xr_53_141 (t := 148) (pc' := 144) rfl rfl (fun c276 => ?_) (fun c276 => ?_)
    · skip
      have c276 : 8 < (((X_se X_isPB tb len (a + 1)) - a) - 1) := c276
      refine T_p xr_53_148 xn_53 (pc' := 149) (ls' := [(4, .int (iI (((X_se X_isPB tb len (a + 1)) - a) - 1))), (2, .long (X_pk tb len (a + 1) ((X_se X_isPB tb len (a + 1)) - (a + 1)).toNat)), (1, .int (iI (bI (X_DA tb len (a + 1) ((X_se X_isPB tb len (a + 1))))))), (0, .ref 497)]) (st' := [.int (iI 1)]) rfl ?_
      refine T_iret xr_53_149 xf_53.2.2 rfl ?_
      refine ⟨1, (X_se X_isPB tb len (a + 1)), ct, rfl, ?_, fun _ _ => rfl, ⟨k261.1, k261.2.1, k261.2.2.1, k261.2.2.2⟩, ((X_Fr.rf).tr (X_Fr.of n258 e259 (by omega))).tr (X_Fr.mono ⟨k262.1, k262.2⟩ (fun q hq => by omega))⟩
      rw [hct]
      exact Or.inr (Or.inr (Or.inr (Or.inl ⟨hc, _, rfl, Or.inl ⟨by first | exact Or.inl (by assumption) | exact Or.inr (Or.inl (by omega)) | exact Or.inr (Or.inr (by assumption)), rfl, rfl, rfl⟩⟩)))
    · skip
      have c276 : ¬ (8 < (((X_se X_isPB tb len (a + 1)) - a) - 1)) := c276
      refine T_p xr_53_144 xn_53 (pc' := 145) (ls' := [(4, .int (iI (((X_se X_isPB tb len (a + 1)) - a) - 1))), (2, .long (X_pk tb len (a + 1) ((X_se X_isPB tb len (a + 1)) - (a + 1)).toNat)), (1, .int (iI (bI (X_DA tb len (a + 1) ((X_se X_isPB tb len (a + 1))))))), (0, .ref 497)]) (st' := [.int (iI (bI (X_DA tb len (a + 1) ((X_se X_isPB tb len (a + 1))))))]) rfl ?_
      refine T_bif_eq xr_53_145 (t := 150) (pc' := 148) rfl rfl (fun c277 => ?_) (fun c277 => ?_)
      · skip
        have c277 : ¬ (X_DA tb len (a + 1) ((X_se X_isPB tb len (a + 1)))) := c277
        refine T_p xr_53_150 xn_53 (pc' := 151) (ls' := [(4, .int (iI (((X_se X_isPB tb len (a + 1)) - a) - 1))), (2, .long (X_pk tb len (a + 1) ((X_se X_isPB tb len (a + 1)) - (a + 1)).toNat)), (1, .int (iI (bI (X_DA tb len (a + 1) ((X_se X_isPB tb len (a + 1))))))), (0, .ref 497)]) (st' := [.ref 497]) rfl ?_
        refine T_p xr_53_151 xn_53 (pc' := 152) (ls' := [(4, .int (iI (((X_se X_isPB tb len (a + 1)) - a) - 1))), (2, .long (X_pk tb len (a + 1) ((X_se X_isPB tb len (a + 1)) - (a + 1)).toNat)), (1, .int (iI (bI (X_DA tb len (a + 1) ((X_se X_isPB tb len (a + 1))))))), (0, .ref 497)]) (st' := [.ref 497, .ref 497]) rfl ?_
        refine T_get xr_53_152 k261.1 rfl (v := .int (iI (X_se X_isPB tb len (a + 1)))) rfl (pc' := 155) rfl ?_
        refine T_p xr_53_155 xn_53 (pc' := 156) (ls' := [(4, .int (iI (((X_se X_isPB tb len (a + 1)) - a) - 1))), (2, .long (X_pk tb len (a + 1) ((X_se X_isPB tb len (a + 1)) - (a + 1)).toNat)), (1, .int (iI (bI (X_DA tb len (a + 1) ((X_se X_isPB tb len (a + 1))))))), (0, .ref 497)]) (st' := [.int (iI 1), .int (iI (X_se X_isPB tb len (a + 1))), .ref 497]) rfl ?_
        refine T_ziadd xr_53_156 (z := (X_se X_isPB tb len (a + 1)) + 1) rfl (pc' := 157) rfl ?_
        refine T_put xr_53_157 k261.1 rfl (Nat.le_of_ble_eq_true rfl) rfl (fs' := [.ref 2, .int (iI ((X_se X_isPB tb len (a + 1)) + 1)), .int (iI cnt), .ref 498, .ref 499, .ref 500, .int (iI cur)]) rfl (pc' := 160) rfl (fun S278 h279 n280 e281 => ?_)
        refine T_p xr_53_160 xn_53 (pc' := 161) (ls' := [(4, .int (iI (((X_se X_isPB tb len (a + 1)) - a) - 1))), (2, .long (X_pk tb len (a + 1) ((X_se X_isPB tb len (a + 1)) - (a + 1)).toNat)), (1, .int (iI (bI (X_DA tb len (a + 1) ((X_se X_isPB tb len (a + 1))))))), (0, .ref 497)]) (st' := [.ref 497]) rfl ?_
        refine T_get xr_53_161 h279 rfl (v := .ref 500) rfl (pc' := 164) rfl ?_
        refine T_p xr_53_164 xn_53 (pc' := 165) (ls' := [(4, .int (iI (((X_se X_isPB tb len (a + 1)) - a) - 1))), (2, .long (X_pk tb len (a + 1) ((X_se X_isPB tb len (a + 1)) - (a + 1)).toNat)), (1, .int (iI (bI (X_DA tb len (a + 1) ((X_se X_isPB tb len (a + 1))))))), (0, .ref 497)]) (st' := [.ref 497, .ref 500]) rfl ?_
        refine T_get xr_53_165 h279 rfl (v := .int (iI cnt)) rfl (pc' := 168) rfl ?_
        refine T_p xr_53_168 xn_53 (pc' := 169) (ls' := [(4, .int (iI (((X_se X_isPB tb len (a + 1)) - a) - 1))), (2, .long (X_pk tb len (a + 1) ((X_se X_isPB tb len (a + 1)) - (a + 1)).toNat)), (1, .int (iI (bI (X_DA tb len (a + 1) ((X_se X_isPB tb len (a + 1))))))), (0, .ref 497)]) (st' := [.long (X_pk tb len (a + 1) ((X_se X_isPB tb len (a + 1)) - (a + 1)).toNat), .int (iI cnt), .ref 500]) rfl ?_
        have h282 := (n280 500 (by decide)).trans (k261.2.2.2)
        refine T_zlast xr_53_169 h282 (pc' := 170) rfl (fun S283 h284 n285 e286 => ?_)
        refine T_p xr_53_170 xn_53 (pc' := 172) (ls' := [(4, .int (iI (((X_se X_isPB tb len (a + 1)) - a) - 1))), (2, .long (X_pk tb len (a + 1) ((X_se X_isPB tb len (a + 1)) - (a + 1)).toNat)), (1, .int (iI (bI (X_DA tb len (a + 1) ((X_se X_isPB tb len (a + 1))))))), (0, .ref 497)]) (st' := [.int (iI 6)]) rfl ?_
        refine T_iret xr_53_172 xf_53.2.2 rfl ?_
        have h287 := (n285 497 (by decide)).trans (h279)
        have h288 := (n285 498 (by decide)).trans ((n280 498 (by decide)).trans (k261.2.1))
        have h289 := (n285 499 (by decide)).trans ((n280 499 (by decide)).trans (k261.2.2.1))
        refine ⟨6, (X_se X_isPB tb len (a + 1)) + 1, (X_ug ct cnt (X_pk tb len (a + 1) ((X_se X_isPB tb len (a + 1)) - (a + 1)).toNat)), rfl, ?_, fun k hk => X_ug_n _ _ hk, ⟨h287, h288, h289, h284⟩, ((((X_Fr.rf).tr (X_Fr.of n258 e259 (by omega))).tr (X_Fr.mono ⟨k262.1, k262.2⟩ (fun q hq => by omega))).tr (X_Fr.of n280 e281 (by omega))).tr (X_Fr.of n285 e286 (by omega))⟩
        rw [X_ug_s]
        exact Or.inr (Or.inr (Or.inr (Or.inl ⟨hc, _, rfl, Or.inr ⟨Classical.not_not.mp (by assumption), by omega, by assumption, rfl, rfl, rfl⟩⟩)))
      · skip
        have c277 : (X_DA tb len (a + 1) ((X_se X_isPB tb len (a + 1)))) := c277
        refine T_p xr_53_148 xn_53 (pc' := 149) (ls' := [(4, .int (iI (((X_se X_isPB tb len (a + 1)) - a) - 1))), (2, .long (X_pk tb len (a + 1) ((X_se X_isPB tb len (a + 1)) - (a + 1)).toNat)), (1, .int (iI (bI (X_DA tb len (a + 1) ((X_se X_isPB tb len (a + 1))))))), (0, .ref 497)]) (st' := [.int (iI 1)]) rfl ?_
        refine T_iret xr_53_149 xf_53.2.2 rfl ?_
        refine ⟨1, (X_se X_isPB tb len (a + 1)), ct, rfl, ?_, fun _ _ => rfl, ⟨k261.1, k261.2.1, k261.2.2.1, k261.2.2.2⟩, ((X_Fr.rf).tr (X_Fr.of n258 e259 (by omega))).tr (X_Fr.mono ⟨k262.1, k262.2⟩ (fun q hq => by omega))⟩
        rw [hct]
        exact Or.inr (Or.inr (Or.inr (Or.inl ⟨hc, _, rfl, Or.inl ⟨by first | exact Or.inl (by assumption) | exact Or.inr (Or.inl (by omega)) | exact Or.inr (Or.inr (by assumption)), rfl, rfl, rfl⟩⟩)))
theorem c_takeSign (sc : X_Sc) (S : X_S) (len : Int) (tb : Int → Int) (a cnt cur : Int) (so pl : Int → Int) (ct : Int → Int64) (ht : C_tp S len tb) (hx : C_lx S a cnt cur so pl ct) (ha : 0 ≤ a ∧ a < len) (hcn : 0 ≤ cnt ∧ cnt ≤ 2000) (hpl : pl cnt = a) (hct : ct cnt = 0) (hc : ¬ X_isL (X_at tb len a) ∧ ¬ X_isD (X_at tb len a) ∧ ¬ X_at tb len a = 34 ∧ ¬ X_at tb len a = -1) :
    X_T sc 54 (0, [(0, .ref 497), (1, .int (iI (X_at tb len a)))], [], S) (fun v S' => ∃ (r e : Int) (ct' : Int → Int64), v = some (.int (iI r)) ∧ X_Tok tb len a r (ct' cnt) e ∧ (∀ k, k ≠ cnt → ct' k = ct k) ∧ C_lx S' e cnt cur so pl ct' ∧ X_Fr (fun q => q = 497 ∨ q = 500) S S') := by
  have hl : 0 ≤ len ∧ len ≤ 2000 := ht.2.2
  have hat := X_at_r tb len a
  refine T_p xr_54_0 xn_54 (pc' := 1) (ls' := [(0, .ref 497), (1, .int (iI (X_at tb len a)))]) (st' := [.ref 497]) rfl ?_
  refine T_p xr_54_1 xn_54 (pc' := 2) (ls' := [(0, .ref 497), (1, .int (iI (X_at tb len a)))]) (st' := [.ref 497, .ref 497]) rfl ?_
  refine T_get xr_54_2 hx.1 rfl (v := .int (iI a)) rfl (pc' := 5) rfl ?_
  refine T_p xr_54_5 xn_54 (pc' := 6) (ls' := [(0, .ref 497), (1, .int (iI (X_at tb len a)))]) (st' := [.int (iI 1), .int (iI a), .ref 497]) rfl ?_
  refine T_ziadd xr_54_6 (z := a + 1) rfl (pc' := 7) rfl ?_
  refine T_put xr_54_7 hx.1 rfl (Nat.le_of_ble_eq_true rfl) rfl (fs' := [.ref 2, .int (iI (a + 1)), .int (iI cnt), .ref 498, .ref 499, .ref 500, .int (iI cur)]) rfl (pc' := 10) rfl (fun S290 h291 n292 e293 => ?_)
  refine T_p xr_54_10 xn_54 (pc' := 11) (ls' := [(0, .ref 497), (1, .int (iI (X_at tb len a)))]) (st' := [.int (iI (X_at tb len a))]) rfl ?_
  refine T_p xr_54_11 xn_54 (pc' := 13) (ls' := [(0, .ref 497), (1, .int (iI (X_at tb len a)))]) (st' := [.int (iI 95), .int (iI (X_at tb len a))]) rfl ?_
  refine T_zicmp_ne xr_54_13 (t := 37) (pc' := 16) rfl rfl (fun c294 => ?_) (fun c294 => ?_)
  · skip
    have c294 : ¬ (X_at tb len a) = 95 := c294
    refine T_p xr_54_37 xn_54 (pc' := 38) (ls' := [(0, .ref 497), (1, .int (iI (X_at tb len a)))]) (st' := [.int (iI 0)]) rfl ?_
    refine T_p xr_54_38 xn_54 (pc' := 39) (ls' := [(2, .int (iI 0)), (0, .ref 497), (1, .int (iI (X_at tb len a)))]) (st' := []) rfl ?_
    refine T_p xr_54_39 xn_54 (pc' := 40) (ls' := [(2, .int (iI 0)), (0, .ref 497), (1, .int (iI (X_at tb len a)))]) (st' := [.int (iI (X_at tb len a))]) rfl ?_
    refine T_cs xr_54_40 (by decide) xf_59.1 xn_59 (as := [.int (iI (X_at tb len a))]) (r := []) rfl (Nat.le_of_ble_eq_true rfl) (Nat.le_of_ble_eq_true rfl) (pc' := 43) rfl (ls' := [(0, .int (iI (X_at tb len a)))]) rfl ?_
    refine T_mono (c_isSign sc S290 (X_at tb len a) (X_at_r tb len a)) (fun v296 S297 h295 => ?_)
    obtain ⟨h298, h299⟩ := h295
    rw [h298, h299]
    show X_T sc 54 (43, [(2, .int (iI 0)), (0, .ref 497), (1, .int (iI (X_at tb len a)))], [.int (iI (bI (X_isSg (X_at tb len a))))], S290) _
    refine T_bif_eq xr_54_43 (t := 54) (pc' := 46) rfl rfl (fun c300 => ?_) (fun c300 => ?_)
    · skip
      have c300 : ¬ (X_isSg (X_at tb len a)) := c300
      refine T_p xr_54_54 xn_54 (pc' := 55) (ls' := [(2, .int (iI 0)), (0, .ref 497), (1, .int (iI (X_at tb len a)))]) (st' := [.int (iI 1)]) rfl ?_
      refine T_iret xr_54_55 xf_54.2.2 rfl ?_
      have h301 := (n292 500 (by decide)).trans (hx.2.2.2)
      have h302 := (n292 498 (by decide)).trans (hx.2.1)
      have h303 := (n292 499 (by decide)).trans (hx.2.2.1)
      refine ⟨1, a + 1, ct, rfl, ?_, fun _ _ => rfl, ⟨h291, h302, h303, h301⟩, (X_Fr.rf).tr (X_Fr.of n292 e293 (by omega))⟩
      rw [hct]
      exact Or.inr (Or.inr (Or.inr (Or.inr ⟨hc.1, hc.2.1, hc.2.2.1, hc.2.2.2, rfl, rfl, Or.inr ⟨by first | exact Or.inl (by assumption) | exact Or.inr ⟨by omega, by assumption⟩, rfl⟩⟩)))
    · skip
      have c300 : (X_isSg (X_at tb len a)) := c300
      refine T_p xr_54_46 xn_54 (pc' := 47) (ls' := [(2, .int (iI 0)), (0, .ref 497), (1, .int (iI (X_at tb len a)))]) (st' := [.int (iI 0)]) rfl ?_
      refine T_zif_nef xr_54_47 (t := 54) (pc' := 50) rfl rfl (by decide) ?_
      refine T_p xr_54_50 xn_54 (pc' := 51) (ls' := [(2, .int (iI 0)), (0, .ref 497), (1, .int (iI (X_at tb len a)))]) (st' := [.int (iI (X_at tb len a))]) rfl ?_
      refine T_p xr_54_51 xn_54 (pc' := 55) (ls' := [(2, .int (iI 0)), (0, .ref 497), (1, .int (iI (X_at tb len a)))]) (st' := [.int (iI (X_at tb len a))]) rfl ?_
      refine T_iret xr_54_55 xf_54.2.2 rfl ?_
      have h304 := (n292 500 (by decide)).trans (hx.2.2.2)
      have h305 := (n292 498 (by decide)).trans (hx.2.1)
      have h306 := (n292 499 (by decide)).trans (hx.2.2.1)
      refine ⟨X_at tb len a, a + 1, ct, rfl, ?_, fun _ _ => rfl, ⟨h291, h305, h306, h304⟩, (X_Fr.rf).tr (X_Fr.of n292 e293 (by omega))⟩
      rw [hct]
      exact Or.inr (Or.inr (Or.inr (Or.inr ⟨hc.1, hc.2.1, hc.2.2.1, hc.2.2.2, rfl, rfl, Or.inl ⟨by assumption, by first | (intro h; exact absurd h.1 (by omega)) | (intro h; exact absurd h.2 (by assumption)), rfl⟩⟩)))
  · skip
    have c294 : ¬ (¬ (X_at tb len a) = 95) := c294
    refine T_p xr_54_16 xn_54 (pc' := 17) (ls' := [(0, .ref 497), (1, .int (iI (X_at tb len a)))]) (st' := [.ref 497]) rfl ?_
    refine T_get xr_54_17 h291 rfl (v := .ref 2) rfl (pc' := 20) rfl ?_
    refine T_p xr_54_20 xn_54 (pc' := 21) (ls' := [(0, .ref 497), (1, .int (iI (X_at tb len a)))]) (st' := [.ref 497, .ref 2]) rfl ?_
    refine T_get xr_54_21 h291 rfl (v := .int (iI (a + 1))) rfl (pc' := 24) rfl ?_
    have h307 := (n292 2 (by decide)).trans (ht.1)
    refine T_cv (S := S290) (q := 2) xr_54_24 xf_88.1 xf_88.2.1 xn_88 (as := [.int (iI (a + 1))]) (r := []) rfl h307 (Nat.le_of_ble_eq_true rfl) (Nat.le_of_ble_eq_true rfl) (pc' := 27) rfl (ls' := [(0, .ref 2), (1, .int (iI (a + 1)))]) rfl ?_
    have h308 := (n292 3 (by decide)).trans (ht.2.1)
    refine T_mono (c_byteAt sc S290 len (a + 1) tb h307 h308 hl (by omega)) (fun v310 S311 h309 => ?_)
    obtain ⟨h312, h313⟩ := h309
    rw [h312, h313]
    show X_T sc 54 (27, [(0, .ref 497), (1, .int (iI (X_at tb len a)))], [.int (iI (X_at tb len (a + 1)))], S290) _
    have r314 := X_at_r tb len (a + 1)
    refine T_cs xr_54_27 (by decide) xf_57.1 xn_57 (as := [.int (iI (X_at tb len (a + 1)))]) (r := []) rfl (Nat.le_of_ble_eq_true rfl) (Nat.le_of_ble_eq_true rfl) (pc' := 30) rfl (ls' := [(0, .int (iI (X_at tb len (a + 1))))]) rfl ?_
    refine T_mono (c_isLD sc S290 (X_at tb len (a + 1)) (X_at_r tb len (a + 1))) (fun v316 S317 h315 => ?_)
    obtain ⟨h318, h319⟩ := h315
    rw [h318, h319]
    show X_T sc 54 (30, [(0, .ref 497), (1, .int (iI (X_at tb len a)))], [.int (iI (bI (X_isLD (X_at tb len (a + 1)))))], S290) _
    refine T_bif_eq xr_54_30 (t := 37) (pc' := 33) rfl rfl (fun c320 => ?_) (fun c320 => ?_)
    · skip
      have c320 : ¬ (X_isLD (X_at tb len (a + 1))) := c320
      refine T_p xr_54_37 xn_54 (pc' := 38) (ls' := [(0, .ref 497), (1, .int (iI (X_at tb len a)))]) (st' := [.int (iI 0)]) rfl ?_
      refine T_p xr_54_38 xn_54 (pc' := 39) (ls' := [(2, .int (iI 0)), (0, .ref 497), (1, .int (iI (X_at tb len a)))]) (st' := []) rfl ?_
      refine T_p xr_54_39 xn_54 (pc' := 40) (ls' := [(2, .int (iI 0)), (0, .ref 497), (1, .int (iI (X_at tb len a)))]) (st' := [.int (iI (X_at tb len a))]) rfl ?_
      refine T_cs xr_54_40 (by decide) xf_59.1 xn_59 (as := [.int (iI (X_at tb len a))]) (r := []) rfl (Nat.le_of_ble_eq_true rfl) (Nat.le_of_ble_eq_true rfl) (pc' := 43) rfl (ls' := [(0, .int (iI (X_at tb len a)))]) rfl ?_
      refine T_mono (c_isSign sc S290 (X_at tb len a) (X_at_r tb len a)) (fun v322 S323 h321 => ?_)
      obtain ⟨h324, h325⟩ := h321
      rw [h324, h325]
      show X_T sc 54 (43, [(2, .int (iI 0)), (0, .ref 497), (1, .int (iI (X_at tb len a)))], [.int (iI (bI (X_isSg (X_at tb len a))))], S290) _
      refine T_bif_eq xr_54_43 (t := 54) (pc' := 46) rfl rfl (fun c326 => ?_) (fun c326 => ?_)
      · skip
        have c326 : ¬ (X_isSg (X_at tb len a)) := c326
        refine T_p xr_54_54 xn_54 (pc' := 55) (ls' := [(2, .int (iI 0)), (0, .ref 497), (1, .int (iI (X_at tb len a)))]) (st' := [.int (iI 1)]) rfl ?_
        refine T_iret xr_54_55 xf_54.2.2 rfl ?_
        have h327 := (n292 500 (by decide)).trans (hx.2.2.2)
        have h328 := (n292 498 (by decide)).trans (hx.2.1)
        have h329 := (n292 499 (by decide)).trans (hx.2.2.1)
        refine ⟨1, a + 1, ct, rfl, ?_, fun _ _ => rfl, ⟨h291, h328, h329, h327⟩, (X_Fr.rf).tr (X_Fr.of n292 e293 (by omega))⟩
        rw [hct]
        exact Or.inr (Or.inr (Or.inr (Or.inr ⟨hc.1, hc.2.1, hc.2.2.1, hc.2.2.2, rfl, rfl, Or.inr ⟨by first | exact Or.inl (by assumption) | exact Or.inr ⟨by omega, by assumption⟩, rfl⟩⟩)))
      · skip
        have c326 : (X_isSg (X_at tb len a)) := c326
        refine T_p xr_54_46 xn_54 (pc' := 47) (ls' := [(2, .int (iI 0)), (0, .ref 497), (1, .int (iI (X_at tb len a)))]) (st' := [.int (iI 0)]) rfl ?_
        refine T_zif_nef xr_54_47 (t := 54) (pc' := 50) rfl rfl (by decide) ?_
        refine T_p xr_54_50 xn_54 (pc' := 51) (ls' := [(2, .int (iI 0)), (0, .ref 497), (1, .int (iI (X_at tb len a)))]) (st' := [.int (iI (X_at tb len a))]) rfl ?_
        refine T_p xr_54_51 xn_54 (pc' := 55) (ls' := [(2, .int (iI 0)), (0, .ref 497), (1, .int (iI (X_at tb len a)))]) (st' := [.int (iI (X_at tb len a))]) rfl ?_
        refine T_iret xr_54_55 xf_54.2.2 rfl ?_
        have h330 := (n292 500 (by decide)).trans (hx.2.2.2)
        have h331 := (n292 498 (by decide)).trans (hx.2.1)
        have h332 := (n292 499 (by decide)).trans (hx.2.2.1)
        refine ⟨X_at tb len a, a + 1, ct, rfl, ?_, fun _ _ => rfl, ⟨h291, h331, h332, h330⟩, (X_Fr.rf).tr (X_Fr.of n292 e293 (by omega))⟩
        rw [hct]
        exact Or.inr (Or.inr (Or.inr (Or.inr ⟨hc.1, hc.2.1, hc.2.2.1, hc.2.2.2, rfl, rfl, Or.inl ⟨by assumption, by first | (intro h; exact absurd h.1 (by omega)) | (intro h; exact absurd h.2 (by assumption)), rfl⟩⟩)))
    · skip
      have c320 : (X_isLD (X_at tb len (a + 1))) := c320
      refine T_p xr_54_33 xn_54 (pc' := 34) (ls' := [(0, .ref 497), (1, .int (iI (X_at tb len a)))]) (st' := [.int (iI 1)]) rfl ?_
      refine T_p xr_54_34 xn_54 (pc' := 38) (ls' := [(0, .ref 497), (1, .int (iI (X_at tb len a)))]) (st' := [.int (iI 1)]) rfl ?_
      refine T_p xr_54_38 xn_54 (pc' := 39) (ls' := [(2, .int (iI 1)), (0, .ref 497), (1, .int (iI (X_at tb len a)))]) (st' := []) rfl ?_
      refine T_p xr_54_39 xn_54 (pc' := 40) (ls' := [(2, .int (iI 1)), (0, .ref 497), (1, .int (iI (X_at tb len a)))]) (st' := [.int (iI (X_at tb len a))]) rfl ?_
      refine T_cs xr_54_40 (by decide) xf_59.1 xn_59 (as := [.int (iI (X_at tb len a))]) (r := []) rfl (Nat.le_of_ble_eq_true rfl) (Nat.le_of_ble_eq_true rfl) (pc' := 43) rfl (ls' := [(0, .int (iI (X_at tb len a)))]) rfl ?_
      refine T_mono (c_isSign sc S290 (X_at tb len a) (X_at_r tb len a)) (fun v334 S335 h333 => ?_)
      obtain ⟨h336, h337⟩ := h333
      rw [h336, h337]
      show X_T sc 54 (43, [(2, .int (iI 1)), (0, .ref 497), (1, .int (iI (X_at tb len a)))], [.int (iI (bI (X_isSg (X_at tb len a))))], S290) _
      refine T_bif_eq xr_54_43 (t := 54) (pc' := 46) rfl rfl (fun c338 => ?_) (fun c338 => ?_)
      · skip
        have c338 : ¬ (X_isSg (X_at tb len a)) := c338
        refine T_p xr_54_54 xn_54 (pc' := 55) (ls' := [(2, .int (iI 1)), (0, .ref 497), (1, .int (iI (X_at tb len a)))]) (st' := [.int (iI 1)]) rfl ?_
        refine T_iret xr_54_55 xf_54.2.2 rfl ?_
        have h339 := (n292 500 (by decide)).trans (hx.2.2.2)
        have h340 := (n292 498 (by decide)).trans (hx.2.1)
        have h341 := (n292 499 (by decide)).trans (hx.2.2.1)
        refine ⟨1, a + 1, ct, rfl, ?_, fun _ _ => rfl, ⟨h291, h340, h341, h339⟩, (X_Fr.rf).tr (X_Fr.of n292 e293 (by omega))⟩
        rw [hct]
        exact Or.inr (Or.inr (Or.inr (Or.inr ⟨hc.1, hc.2.1, hc.2.2.1, hc.2.2.2, rfl, rfl, Or.inr ⟨by first | exact Or.inl (by assumption) | exact Or.inr ⟨by omega, by assumption⟩, rfl⟩⟩)))
      · skip
        have c338 : (X_isSg (X_at tb len a)) := c338
        refine T_p xr_54_46 xn_54 (pc' := 47) (ls' := [(2, .int (iI 1)), (0, .ref 497), (1, .int (iI (X_at tb len a)))]) (st' := [.int (iI 1)]) rfl ?_
        refine T_zif_net xr_54_47 (t := 54) rfl (by decide) ?_
        refine T_p xr_54_54 xn_54 (pc' := 55) (ls' := [(2, .int (iI 1)), (0, .ref 497), (1, .int (iI (X_at tb len a)))]) (st' := [.int (iI 1)]) rfl ?_
        refine T_iret xr_54_55 xf_54.2.2 rfl ?_
        have h342 := (n292 500 (by decide)).trans (hx.2.2.2)
        have h343 := (n292 498 (by decide)).trans (hx.2.1)
        have h344 := (n292 499 (by decide)).trans (hx.2.2.1)
        refine ⟨1, a + 1, ct, rfl, ?_, fun _ _ => rfl, ⟨h291, h343, h344, h342⟩, (X_Fr.rf).tr (X_Fr.of n292 e293 (by omega))⟩
        rw [hct]
        exact Or.inr (Or.inr (Or.inr (Or.inr ⟨hc.1, hc.2.1, hc.2.2.1, hc.2.2.2, rfl, rfl, Or.inr ⟨by first | exact Or.inl (by assumption) | exact Or.inr ⟨by omega, by assumption⟩, rfl⟩⟩)))
theorem c_takeToken (sc : X_Sc) (S : X_S) (len : Int) (tb : Int → Int) (a cnt cur : Int) (so pl : Int → Int) (ct : Int → Int64) (ht : C_tp S len tb) (hx : C_lx S a cnt cur so pl ct) (ha : 0 ≤ a ∧ a ≤ len) (hcn : 0 ≤ cnt ∧ cnt ≤ 2000) (hpl : pl cnt = a) (hct : ct cnt = 0) :
    X_T sc 50 (0, [(0, .ref 497), (1, .int (iI (X_at tb len a)))], [], S) (fun v S' => ∃ (r e : Int) (ct' : Int → Int64), v = some (.int (iI r)) ∧ X_Tok tb len a r (ct' cnt) e ∧ (∀ k, k ≠ cnt → ct' k = ct k) ∧ C_lx S' e cnt cur so pl ct' ∧ X_Fr (fun q => q = 497 ∨ q = 500) S S') := by
  have hl : 0 ≤ len ∧ len ≤ 2000 := ht.2.2
  have hat := X_at_r tb len a
  refine T_p xr_50_0 xn_50 (pc' := 1) (ls' := [(0, .ref 497), (1, .int (iI (X_at tb len a)))]) (st' := [.int (iI (X_at tb len a))]) rfl ?_
  refine T_p xr_50_1 xn_50 (pc' := 2) (ls' := [(0, .ref 497), (1, .int (iI (X_at tb len a)))]) (st' := [.int (iI (-1)), .int (iI (X_at tb len a))]) rfl ?_
  refine T_zicmp_ne xr_50_2 (t := 7) (pc' := 5) rfl rfl (fun c345 => ?_) (fun c345 => ?_)
  · skip
    have c345 : ¬ (X_at tb len a) = (-1) := c345
    have ha : 0 ≤ a ∧ a < len := by
      by_cases hz : a < len
      · exact ⟨ha.1, hz⟩
      · exact absurd (X_at_out (tb := tb) (len := len) (p := a) (by omega)) (by assumption)
    refine T_p xr_50_7 xn_50 (pc' := 8) (ls' := [(0, .ref 497), (1, .int (iI (X_at tb len a)))]) (st' := [.int (iI (X_at tb len a))]) rfl ?_
    refine T_cs xr_50_8 (by decide) xf_56.1 xn_56 (as := [.int (iI (X_at tb len a))]) (r := []) rfl (Nat.le_of_ble_eq_true rfl) (Nat.le_of_ble_eq_true rfl) (pc' := 11) rfl (ls' := [(0, .int (iI (X_at tb len a)))]) rfl ?_
    refine T_mono (c_isLetter sc S (X_at tb len a) (X_at_r tb len a)) (fun v347 S348 h346 => ?_)
    obtain ⟨h349, h350⟩ := h346
    rw [h349, h350]
    show X_T sc 50 (11, [(0, .ref 497), (1, .int (iI (X_at tb len a)))], [.int (iI (bI (X_isL (X_at tb len a))))], S) _
    refine T_bif_eq xr_50_11 (t := 19) (pc' := 14) rfl rfl (fun c351 => ?_) (fun c351 => ?_)
    · skip
      have c351 : ¬ (X_isL (X_at tb len a)) := c351
      refine T_p xr_50_19 xn_50 (pc' := 20) (ls' := [(0, .ref 497), (1, .int (iI (X_at tb len a)))]) (st' := [.int (iI (X_at tb len a))]) rfl ?_
      refine T_cs xr_50_20 (by decide) xf_113.1 xn_113 (as := [.int (iI (X_at tb len a))]) (r := []) rfl (Nat.le_of_ble_eq_true rfl) (Nat.le_of_ble_eq_true rfl) (pc' := 23) rfl (ls' := [(0, .int (iI (X_at tb len a)))]) rfl ?_
      refine T_mono (c_isDigit sc S (X_at tb len a) (X_at_r tb len a)) (fun v353 S354 h352 => ?_)
      obtain ⟨h355, h356⟩ := h352
      rw [h355, h356]
      show X_T sc 50 (23, [(0, .ref 497), (1, .int (iI (X_at tb len a)))], [.int (iI (bI (X_isD (X_at tb len a))))], S) _
      refine T_bif_eq xr_50_23 (t := 31) (pc' := 26) rfl rfl (fun c357 => ?_) (fun c357 => ?_)
      · skip
        have c357 : ¬ (X_isD (X_at tb len a)) := c357
        refine T_p xr_50_31 xn_50 (pc' := 32) (ls' := [(0, .ref 497), (1, .int (iI (X_at tb len a)))]) (st' := [.int (iI (X_at tb len a))]) rfl ?_
        refine T_p xr_50_32 xn_50 (pc' := 34) (ls' := [(0, .ref 497), (1, .int (iI (X_at tb len a)))]) (st' := [.int (iI 34), .int (iI (X_at tb len a))]) rfl ?_
        refine T_zicmp_ne xr_50_34 (t := 44) (pc' := 37) rfl rfl (fun c358 => ?_) (fun c358 => ?_)
        · skip
          have c358 : ¬ (X_at tb len a) = 34 := c358
          refine T_p xr_50_44 xn_50 (pc' := 45) (ls' := [(0, .ref 497), (1, .int (iI (X_at tb len a)))]) (st' := [.ref 497]) rfl ?_
          refine T_p xr_50_45 xn_50 (pc' := 46) (ls' := [(0, .ref 497), (1, .int (iI (X_at tb len a)))]) (st' := [.int (iI (X_at tb len a)), .ref 497]) rfl ?_
          refine T_cv (S := S) (q := 497) xr_50_46 xf_54.1 xf_54.2.1 xn_54 (as := [.int (iI (X_at tb len a))]) (r := []) rfl hx.1 (Nat.le_of_ble_eq_true rfl) (Nat.le_of_ble_eq_true rfl) (pc' := 49) rfl (ls' := [(0, .ref 497), (1, .int (iI (X_at tb len a)))]) rfl ?_
          refine T_mono (c_takeSign sc S len tb a cnt cur so pl ct ⟨ht.1, ht.2.1, hl⟩ ⟨hx.1, hx.2.1, hx.2.2.1, hx.2.2.2⟩ (by omega) hcn hpl hct ⟨by assumption, by assumption, by assumption, by omega⟩) (fun v367 S368 h369 => ?_)
          obtain ⟨r359, e360, ct361, h362, ht363, hu364, hlx365, hf366⟩ := h369
          rw [h362]
          show X_T sc 50 (49, [(0, .ref 497), (1, .int (iI (X_at tb len a)))], [.int (iI r359)], S368) _
          refine T_iret xr_50_49 xf_50.2.2 rfl ?_
          exact ⟨r359, e360, ct361, rfl, ht363, hu364, ⟨hlx365.1, hlx365.2.1, hlx365.2.2.1, hlx365.2.2.2⟩, (X_Fr.rf).tr (X_Fr.mono ⟨hf366.1, hf366.2⟩ (fun q hq => by omega))⟩
        · skip
          have c358 : ¬ (¬ (X_at tb len a) = 34) := c358
          refine T_p xr_50_37 xn_50 (pc' := 38) (ls' := [(0, .ref 497), (1, .int (iI (X_at tb len a)))]) (st' := [.ref 497]) rfl ?_
          refine T_cv (S := S) (q := 497) xr_50_38 xf_53.1 xf_53.2.1 xn_53 (as := []) (r := []) rfl hx.1 (Nat.le_of_ble_eq_true rfl) (Nat.le_of_ble_eq_true rfl) (pc' := 41) rfl (ls' := [(0, .ref 497)]) rfl ?_
          refine T_mono (c_takePart sc S len tb a cnt cur so pl ct ⟨ht.1, ht.2.1, hl⟩ ⟨hx.1, hx.2.1, hx.2.2.1, hx.2.2.2⟩ (by omega) hcn hpl hct (by omega)) (fun v378 S379 h380 => ?_)
          obtain ⟨r370, e371, ct372, h373, ht374, hu375, hlx376, hf377⟩ := h380
          rw [h373]
          show X_T sc 50 (41, [(0, .ref 497), (1, .int (iI (X_at tb len a)))], [.int (iI r370)], S379) _
          refine T_p xr_50_41 xn_50 (pc' := 49) (ls' := [(0, .ref 497), (1, .int (iI (X_at tb len a)))]) (st' := [.int (iI r370)]) rfl ?_
          refine T_iret xr_50_49 xf_50.2.2 rfl ?_
          exact ⟨r370, e371, ct372, rfl, ht374, hu375, ⟨hlx376.1, hlx376.2.1, hlx376.2.2.1, hlx376.2.2.2⟩, (X_Fr.rf).tr (X_Fr.mono ⟨hf377.1, hf377.2⟩ (fun q hq => by omega))⟩
      · skip
        have c357 : (X_isD (X_at tb len a)) := c357
        refine T_p xr_50_26 xn_50 (pc' := 27) (ls' := [(0, .ref 497), (1, .int (iI (X_at tb len a)))]) (st' := [.ref 497]) rfl ?_
        refine T_cv (S := S) (q := 497) xr_50_27 xf_52.1 xf_52.2.1 xn_52 (as := []) (r := []) rfl hx.1 (Nat.le_of_ble_eq_true rfl) (Nat.le_of_ble_eq_true rfl) (pc' := 30) rfl (ls' := [(0, .ref 497)]) rfl ?_
        refine T_mono (c_takeNumber sc S len tb a cnt cur so pl ct ⟨ht.1, ht.2.1, hl⟩ ⟨hx.1, hx.2.1, hx.2.2.1, hx.2.2.2⟩ (by omega) hcn hpl hct (by assumption)) (fun v389 S390 h391 => ?_)
        obtain ⟨r381, e382, ct383, h384, ht385, hu386, hlx387, hf388⟩ := h391
        rw [h384]
        show X_T sc 50 (30, [(0, .ref 497), (1, .int (iI (X_at tb len a)))], [.int (iI r381)], S390) _
        refine T_iret xr_50_30 xf_50.2.2 rfl ?_
        exact ⟨r381, e382, ct383, rfl, ht385, hu386, ⟨hlx387.1, hlx387.2.1, hlx387.2.2.1, hlx387.2.2.2⟩, (X_Fr.rf).tr (X_Fr.mono ⟨hf388.1, hf388.2⟩ (fun q hq => by omega))⟩
    · skip
      have c351 : (X_isL (X_at tb len a)) := c351
      refine T_p xr_50_14 xn_50 (pc' := 15) (ls' := [(0, .ref 497), (1, .int (iI (X_at tb len a)))]) (st' := [.ref 497]) rfl ?_
      refine T_cv (S := S) (q := 497) xr_50_15 xf_51.1 xf_51.2.1 xn_51 (as := []) (r := []) rfl hx.1 (Nat.le_of_ble_eq_true rfl) (Nat.le_of_ble_eq_true rfl) (pc' := 18) rfl (ls' := [(0, .ref 497)]) rfl ?_
      refine T_mono (c_takeName sc S len tb a cnt cur so pl ct ⟨ht.1, ht.2.1, hl⟩ ⟨hx.1, hx.2.1, hx.2.2.1, hx.2.2.2⟩ (by omega) hcn hpl hct (by assumption)) (fun v400 S401 h402 => ?_)
      obtain ⟨r392, e393, ct394, h395, ht396, hu397, hlx398, hf399⟩ := h402
      rw [h395]
      show X_T sc 50 (18, [(0, .ref 497), (1, .int (iI (X_at tb len a)))], [.int (iI r392)], S401) _
      refine T_iret xr_50_18 xf_50.2.2 rfl ?_
      exact ⟨r392, e393, ct394, rfl, ht396, hu397, ⟨hlx398.1, hlx398.2.1, hlx398.2.2.1, hlx398.2.2.2⟩, (X_Fr.rf).tr (X_Fr.mono ⟨hf399.1, hf399.2⟩ (fun q hq => by omega))⟩
  · skip
    have c345 : ¬ (¬ (X_at tb len a) = (-1)) := c345
    refine T_p xr_50_5 xn_50 (pc' := 6) (ls' := [(0, .ref 497), (1, .int (iI (X_at tb len a)))]) (st' := [.int (iI 0)]) rfl ?_
    refine T_iret xr_50_6 xf_50.2.2 rfl ?_
    exact ⟨0, a, ct, rfl, by rw [hct]; exact Or.inl ⟨Classical.not_not.mp (by assumption), rfl, rfl, rfl⟩, fun _ _ => rfl, ⟨hx.1, hx.2.1, hx.2.2.1, hx.2.2.2⟩, X_Fr.rf⟩
theorem c_skip_l (sc : X_Sc) (len : Int) (tb : Int → Int) (cnt cur a0 : Int) (so pl : Int → Int) (ct : Int → Int64) (hl : 0 ≤ len ∧ len ≤ 2000) (Q : Option Value → X_S → Prop) : ∀ (n : Nat) (S : X_S) (at_ : Int) (ht : C_tp S len tb) (hx : C_lx S at_ cnt cur so pl ct) (ha : a0 ≤ at_ ∧ 0 ≤ at_ ∧ at_ ≤ len) (hn : len - at_ ≤ n)
    (hex : ∀ S' : X_S, C_tp S' len tb → C_lx S' (X_se X_isBl tb len at_) cnt cur so pl ct → X_Fr (fun r => r = 497) S S' → X_T sc 49 (75, [(1, .int (iI 1)), (0, .ref 497)], [], S') Q), X_T sc 49 (31, [(1, .int (iI 1)), (0, .ref 497)], [], S) Q := by
  intro n
  induction n with
  | zero =>
    intro S at_ ht hx ha hn hex
    refine T_p xr_49_31 xn_49 (pc' := 32) (ls' := [(1, .int (iI 1)), (0, .ref 497)]) (st' := [.ref 497]) rfl ?_
    refine T_get xr_49_32 hx.1 rfl (v := .int (iI at_)) rfl (pc' := 35) rfl ?_
    refine T_p xr_49_35 xn_49 (pc' := 36) (ls' := [(1, .int (iI 1)), (0, .ref 497)]) (st' := [.ref 497, .int (iI at_)]) rfl ?_
    refine T_get xr_49_36 hx.1 rfl (v := .ref 2) rfl (pc' := 39) rfl ?_
    refine T_get xr_49_39 ht.1 rfl (v := .int (iI len)) rfl (pc' := 42) rfl ?_
    refine T_zicmp_ge xr_49_42 (t := 75) (pc' := 45) rfl rfl (fun c425 => ?_) (fun c425 => ?_)
    · skip
      have c425 : len ≤ at_ := c425
      have e2 : X_se X_isBl tb len at_ = at_ := X_se_no (by first | omega | (intro h; exact absurd h.2 (by assumption)))
      have kk := hex S ⟨ht.1, ht.2.1, hl⟩ (by rw [e2]; exact ⟨hx.1, hx.2.1, hx.2.2.1, hx.2.2.2⟩) (X_Fr.rf)
      (try rw [e2] at kk)
      exact kk
    · skip
      have c425 : ¬ (len ≤ at_) := c425
      exact (show False by omega).elim
  | succ n ih =>
    intro S at_ ht hx ha hn hex
    refine T_p xr_49_31 xn_49 (pc' := 32) (ls' := [(1, .int (iI 1)), (0, .ref 497)]) (st' := [.ref 497]) rfl ?_
    refine T_get xr_49_32 hx.1 rfl (v := .int (iI at_)) rfl (pc' := 35) rfl ?_
    refine T_p xr_49_35 xn_49 (pc' := 36) (ls' := [(1, .int (iI 1)), (0, .ref 497)]) (st' := [.ref 497, .int (iI at_)]) rfl ?_
    refine T_get xr_49_36 hx.1 rfl (v := .ref 2) rfl (pc' := 39) rfl ?_
    refine T_get xr_49_39 ht.1 rfl (v := .int (iI len)) rfl (pc' := 42) rfl ?_
    refine T_zicmp_ge xr_49_42 (t := 75) (pc' := 45) rfl rfl (fun c403 => ?_) (fun c403 => ?_)
    · skip
      have c403 : len ≤ at_ := c403
      have e2 : X_se X_isBl tb len at_ = at_ := X_se_no (by first | omega | (intro h; exact absurd h.2 (by assumption)))
      have kk := hex S ⟨ht.1, ht.2.1, hl⟩ (by rw [e2]; exact ⟨hx.1, hx.2.1, hx.2.2.1, hx.2.2.2⟩) (X_Fr.rf)
      (try rw [e2] at kk)
      exact kk
    · skip
      have c403 : ¬ (len ≤ at_) := c403
      refine T_p xr_49_45 xn_49 (pc' := 46) (ls' := [(1, .int (iI 1)), (0, .ref 497)]) (st' := [.ref 497]) rfl ?_
      refine T_get xr_49_46 hx.1 rfl (v := .ref 2) rfl (pc' := 49) rfl ?_
      refine T_p xr_49_49 xn_49 (pc' := 50) (ls' := [(1, .int (iI 1)), (0, .ref 497)]) (st' := [.ref 497, .ref 2]) rfl ?_
      refine T_get xr_49_50 hx.1 rfl (v := .int (iI at_)) rfl (pc' := 53) rfl ?_
      refine T_cv (S := S) (q := 2) xr_49_53 xf_88.1 xf_88.2.1 xn_88 (as := [.int (iI at_)]) (r := []) rfl ht.1 (Nat.le_of_ble_eq_true rfl) (Nat.le_of_ble_eq_true rfl) (pc' := 56) rfl (ls' := [(0, .ref 2), (1, .int (iI at_))]) rfl ?_
      refine T_mono (c_byteAt sc S len at_ tb ht.1 ht.2.1 hl (by omega)) (fun v405 S406 h404 => ?_)
      obtain ⟨h407, h408⟩ := h404
      rw [h407, h408]
      show X_T sc 49 (56, [(1, .int (iI 1)), (0, .ref 497)], [.int (iI (X_at tb len at_))], S) _
      have r409 := X_at_r tb len at_
      refine T_cs xr_49_56 (by decide) xf_114.1 xn_114 (as := [.int (iI (X_at tb len at_))]) (r := []) rfl (Nat.le_of_ble_eq_true rfl) (Nat.le_of_ble_eq_true rfl) (pc' := 59) rfl (ls' := [(0, .int (iI (X_at tb len at_)))]) rfl ?_
      refine T_mono (c_isBlank sc S (X_at tb len at_) (X_at_r tb len at_)) (fun v411 S412 h410 => ?_)
      obtain ⟨h413, h414⟩ := h410
      rw [h413, h414]
      show X_T sc 49 (59, [(1, .int (iI 1)), (0, .ref 497)], [.int (iI (bI (X_isBl (X_at tb len at_))))], S) _
      refine T_bif_eq xr_49_59 (t := 75) (pc' := 62) rfl rfl (fun c415 => ?_) (fun c415 => ?_)
      · skip
        have c415 : ¬ (X_isBl (X_at tb len at_)) := c415
        have e2 : X_se X_isBl tb len at_ = at_ := X_se_no (by first | omega | (intro h; exact absurd h.2 (by assumption)))
        have kk := hex S ⟨ht.1, ht.2.1, hl⟩ (by rw [e2]; exact ⟨hx.1, hx.2.1, hx.2.2.1, hx.2.2.2⟩) (X_Fr.rf)
        (try rw [e2] at kk)
        exact kk
      · skip
        have c415 : (X_isBl (X_at tb len at_)) := c415
        refine T_p xr_49_62 xn_49 (pc' := 63) (ls' := [(1, .int (iI 1)), (0, .ref 497)]) (st' := [.ref 497]) rfl ?_
        refine T_p xr_49_63 xn_49 (pc' := 64) (ls' := [(1, .int (iI 1)), (0, .ref 497)]) (st' := [.ref 497, .ref 497]) rfl ?_
        refine T_get xr_49_64 hx.1 rfl (v := .int (iI at_)) rfl (pc' := 67) rfl ?_
        refine T_p xr_49_67 xn_49 (pc' := 68) (ls' := [(1, .int (iI 1)), (0, .ref 497)]) (st' := [.int (iI 1), .int (iI at_), .ref 497]) rfl ?_
        refine T_ziadd xr_49_68 (z := at_ + 1) rfl (pc' := 69) rfl ?_
        refine T_put xr_49_69 hx.1 rfl (Nat.le_of_ble_eq_true rfl) rfl (fs' := [.ref 2, .int (iI (at_ + 1)), .int (iI cnt), .ref 498, .ref 499, .ref 500, .int (iI cur)]) rfl (pc' := 72) rfl (fun S416 h417 n418 e419 => ?_)
        refine T_p xr_49_72 xn_49 (pc' := 31) (ls' := [(1, .int (iI 1)), (0, .ref 497)]) (st' := []) rfl ?_
        have e2 : X_se X_isBl tb len at_ = X_se X_isBl tb len (at_ + 1) := X_se_go (by omega) (by assumption)
        have h420 := (n418 2 (by decide)).trans (ht.1)
        have h421 := (n418 3 (by decide)).trans (ht.2.1)
        have h422 := (n418 498 (by decide)).trans (hx.2.1)
        have h423 := (n418 499 (by decide)).trans (hx.2.2.1)
        have h424 := (n418 500 (by decide)).trans (hx.2.2.2)
        refine ih S416 (at_ + 1) ⟨h420, h421, hl⟩ ⟨h417, h422, h423, h424⟩ (by omega) (by omega) (fun S' k1 k2 k3 => ?_)
        have kk := hex S' k1 (by rw [e2]; exact k2) (((X_Fr.rf).tr (X_Fr.of n418 e419 (by omega))).tr k3)
        (try rw [e2] at kk)
        exact kk
theorem c_start_l (sc : X_Sc) (len : Int) (tb : Int → Int) (hl : 0 ≤ len ∧ len ≤ 2000) : ∀ (m : Nat) (S : X_S) (n : Int) (so pl : Int → Int) (ct : Int → Int64) (E : Int → Int) (ht : C_tp S len tb) (hx : C_lx S (E n) n 0 so pl ct) (hT : X_Tks tb len n so pl ct E) (hn : 0 ≤ n) (hm : 2002 - n ≤ m) (hE : n ≤ E n) (hE2 : E n ≤ len)
    (hnt : ∀ i, 0 ≤ i → i < n → so i ≠ 0 ∧ so i ≠ 1),
    X_T sc 49 (17, [(1, .int (iI 1)), (0, .ref 497)], [], S) (fun v S' => v = none ∧ ∃ (n' : Int) (so' pl' : Int → Int) (ct' : Int → Int64) (E' : Int → Int), (1 ≤ n' ∧ n' ≤ 2001) ∧ C_lx S' (E' n') n' 0 so' pl' ct' ∧ X_Tks tb len n' so' pl' ct' E' ∧ (∀ i, 0 ≤ i → i < n' - 1 → so' i ≠ 0 ∧ so' i ≠ 1) ∧ (so' (n' - 1) = 0 ∨ so' (n' - 1) = 1) ∧ X_Fr (fun q => q = 497 ∨ q = 498 ∨ q = 499 ∨ q = 500) S S') := by
  intro m
  induction m with
  | zero => intro S n so pl ct E ht hx hT hn hm hE hE2 hnt; omega
  | succ m ih =>
    intro S n so pl ct E ht hx hT hn hm hE hE2 hnt
    refine T_p xr_49_17 xn_49 (pc' := 18) (ls' := [(1, .int (iI 1)), (0, .ref 497)]) (st' := [.int (iI 1)]) rfl ?_
    refine T_zif_eqf xr_49_18 (t := 166) (pc' := 21) rfl rfl (by decide) ?_
    refine T_p xr_49_21 xn_49 (pc' := 22) (ls' := [(1, .int (iI 1)), (0, .ref 497)]) (st' := [.ref 497]) rfl ?_
    refine T_get xr_49_22 hx.1 rfl (v := .int (iI n)) rfl (pc' := 25) rfl ?_
    refine T_p xr_49_25 xn_49 (pc' := 28) (ls' := [(1, .int (iI 1)), (0, .ref 497)]) (st' := [.int (iI 2000), .int (iI n)]) rfl ?_
    refine T_zicmp_gt xr_49_28 (t := 166) (pc' := 31) rfl rfl (fun c426 => ?_) (fun c426 => ?_)
    · skip
      have c426 : 2000 < n := c426
      exact (show False by omega).elim
    · skip
      have c426 : ¬ (2000 < n) := c426
      refine c_skip_l sc len tb n 0 (E n) so pl ct hl _ len.toNat S (E n) ⟨ht.1, ht.2.1, hl⟩ ⟨hx.1, hx.2.1, hx.2.2.1, hx.2.2.2⟩ (by omega) (by omega) (fun S430 k427 k428 k429 => ?_)
      have hse := X_se_r X_isBl tb len (E n)
      refine T_p xr_49_75 xn_49 (pc' := 76) (ls' := [(1, .int (iI 1)), (0, .ref 497)]) (st' := [.ref 497]) rfl ?_
      refine T_get xr_49_76 k428.1 rfl (v := .ref 499) rfl (pc' := 79) rfl ?_
      refine T_p xr_49_79 xn_49 (pc' := 80) (ls' := [(1, .int (iI 1)), (0, .ref 497)]) (st' := [.ref 497, .ref 499]) rfl ?_
      refine T_get xr_49_80 k428.1 rfl (v := .int (iI n)) rfl (pc' := 83) rfl ?_
      refine T_p xr_49_83 xn_49 (pc' := 84) (ls' := [(1, .int (iI 1)), (0, .ref 497)]) (st' := [.ref 497, .int (iI n), .ref 499]) rfl ?_
      refine T_get xr_49_84 k428.1 rfl (v := .int (iI (X_se X_isBl tb len (E n)))) rfl (pc' := 87) rfl ?_
      refine T_ziast xr_49_87 k428.2.2.1 (pc' := 88) rfl (fun S431 h432 n433 e434 => ?_)
      refine T_p xr_49_88 xn_49 (pc' := 89) (ls' := [(1, .int (iI 1)), (0, .ref 497)]) (st' := [.ref 497]) rfl ?_
      have h435 := (n433 497 (by decide)).trans (k428.1)
      refine T_get xr_49_89 h435 rfl (v := .ref 500) rfl (pc' := 92) rfl ?_
      refine T_p xr_49_92 xn_49 (pc' := 93) (ls' := [(1, .int (iI 1)), (0, .ref 497)]) (st' := [.ref 497, .ref 500]) rfl ?_
      refine T_get xr_49_93 h435 rfl (v := .int (iI n)) rfl (pc' := 96) rfl ?_
      refine T_p xr_49_96 xn_49 (pc' := 97) (ls' := [(1, .int (iI 1)), (0, .ref 497)]) (st' := [.long (0 : Int64), .int (iI n), .ref 500]) rfl ?_
      have h436 := (n433 500 (by decide)).trans (k428.2.2.2)
      refine T_zlast xr_49_97 h436 (pc' := 98) rfl (fun S437 h438 n439 e440 => ?_)
      refine T_p xr_49_98 xn_49 (pc' := 99) (ls' := [(1, .int (iI 1)), (0, .ref 497)]) (st' := [.ref 497]) rfl ?_
      have h441 := (n439 497 (by decide)).trans (h435)
      refine T_get xr_49_99 h441 rfl (v := .ref 498) rfl (pc' := 102) rfl ?_
      refine T_p xr_49_102 xn_49 (pc' := 103) (ls' := [(1, .int (iI 1)), (0, .ref 497)]) (st' := [.ref 497, .ref 498]) rfl ?_
      refine T_get xr_49_103 h441 rfl (v := .int (iI n)) rfl (pc' := 106) rfl ?_
      refine T_p xr_49_106 xn_49 (pc' := 107) (ls' := [(1, .int (iI 1)), (0, .ref 497)]) (st' := [.ref 497, .int (iI n), .ref 498]) rfl ?_
      refine T_p xr_49_107 xn_49 (pc' := 108) (ls' := [(1, .int (iI 1)), (0, .ref 497)]) (st' := [.ref 497, .ref 497, .int (iI n), .ref 498]) rfl ?_
      refine T_get xr_49_108 h441 rfl (v := .ref 2) rfl (pc' := 111) rfl ?_
      refine T_p xr_49_111 xn_49 (pc' := 112) (ls' := [(1, .int (iI 1)), (0, .ref 497)]) (st' := [.ref 497, .ref 2, .ref 497, .int (iI n), .ref 498]) rfl ?_
      refine T_get xr_49_112 h441 rfl (v := .int (iI (X_se X_isBl tb len (E n)))) rfl (pc' := 115) rfl ?_
      have h442 := (n439 2 (by decide)).trans ((n433 2 (by decide)).trans (k427.1))
      refine T_cv (S := S437) (q := 2) xr_49_115 xf_88.1 xf_88.2.1 xn_88 (as := [.int (iI (X_se X_isBl tb len (E n)))]) (r := [.ref 497, .int (iI n), .ref 498]) rfl h442 (Nat.le_of_ble_eq_true rfl) (Nat.le_of_ble_eq_true rfl) (pc' := 118) rfl (ls' := [(0, .ref 2), (1, .int (iI (X_se X_isBl tb len (E n))))]) rfl ?_
      have h443 := (n439 3 (by decide)).trans ((n433 3 (by decide)).trans (k427.2.1))
      refine T_mono (c_byteAt sc S437 len (X_se X_isBl tb len (E n)) tb h442 h443 hl (by omega)) (fun v445 S446 h444 => ?_)
      obtain ⟨h447, h448⟩ := h444
      rw [h447, h448]
      show X_T sc 49 (118, [(1, .int (iI 1)), (0, .ref 497)], [.int (iI (X_at tb len (X_se X_isBl tb len (E n)))), .ref 497, .int (iI n), .ref 498], S437) _
      have r449 := X_at_r tb len (X_se X_isBl tb len (E n))
      refine T_cv (S := S437) (q := 497) xr_49_118 xf_50.1 xf_50.2.1 xn_50 (as := [.int (iI (X_at tb len (X_se X_isBl tb len (E n))))]) (r := [.int (iI n), .ref 498]) rfl h441 (Nat.le_of_ble_eq_true rfl) (Nat.le_of_ble_eq_true rfl) (pc' := 121) rfl (ls' := [(0, .ref 497), (1, .int (iI (X_at tb len (X_se X_isBl tb len (E n)))))]) rfl ?_
      have h461 := (n439 498 (by decide)).trans ((n433 498 (by decide)).trans (k428.2.1))
      have h462 := (n439 499 (by decide)).trans (h432)
      refine T_mono (c_takeToken sc S437 len tb (X_se X_isBl tb len (E n)) n 0 so (X_ug pl n (X_se X_isBl tb len (E n))) (X_ug ct n (0 : Int64)) ⟨h442, h443, hl⟩ ⟨h441, h461, h462, h438⟩ (by omega) (by omega) (by rw [X_ug_s]) (by rw [X_ug_s])) (fun v458 S459 h460 => ?_)
      obtain ⟨r450, e451, ct452, h453, ht454, hu455, hlx456, hf457⟩ := h460
      rw [h453]
      show X_T sc 49 (121, [(1, .int (iI 1)), (0, .ref 497)], [.int (iI r450), .int (iI n), .ref 498], S459) _
      have hrt := X_Tok_r (by omega) ht454
      refine T_ziast xr_49_121 hlx456.2.1 (pc' := 122) rfl (fun S463 h464 n465 e466 => ?_)
      refine T_p xr_49_122 xn_49 (pc' := 123) (ls' := [(1, .int (iI 1)), (0, .ref 497)]) (st' := [.ref 497]) rfl ?_
      have h467 := (n465 497 (by decide)).trans (hlx456.1)
      refine T_get xr_49_123 h467 rfl (v := .ref 498) rfl (pc' := 126) rfl ?_
      refine T_p xr_49_126 xn_49 (pc' := 127) (ls' := [(1, .int (iI 1)), (0, .ref 497)]) (st' := [.ref 497, .ref 498]) rfl ?_
      refine T_get xr_49_127 h467 rfl (v := .int (iI n)) rfl (pc' := 130) rfl ?_
      refine T_ziald xr_49_130 h464 (pc' := 131) rfl ?_
      refine T_ie (y := iI r450) (by rw [X_ug_s]) ?_
      refine T_zif_eq xr_49_131 (t := 151) (pc' := 134) rfl rfl (fun c468 => ?_) (fun c468 => ?_)
      · skip
        have c468 : r450 = 0 := c468
        refine T_p xr_49_151 xn_49 (pc' := 152) (ls' := [(1, .int (iI 1)), (0, .ref 497)]) (st' := [.int (iI 0)]) rfl ?_
        refine T_p xr_49_152 xn_49 (pc' := 153) (ls' := [(1, .int (iI 0)), (0, .ref 497)]) (st' := []) rfl ?_
        refine T_p xr_49_153 xn_49 (pc' := 154) (ls' := [(1, .int (iI 0)), (0, .ref 497)]) (st' := [.ref 497]) rfl ?_
        refine T_p xr_49_154 xn_49 (pc' := 155) (ls' := [(1, .int (iI 0)), (0, .ref 497)]) (st' := [.ref 497, .ref 497]) rfl ?_
        refine T_get xr_49_155 h467 rfl (v := .int (iI n)) rfl (pc' := 158) rfl ?_
        refine T_p xr_49_158 xn_49 (pc' := 159) (ls' := [(1, .int (iI 0)), (0, .ref 497)]) (st' := [.int (iI 1), .int (iI n), .ref 497]) rfl ?_
        refine T_ziadd xr_49_159 (z := n + 1) rfl (pc' := 160) rfl ?_
        refine T_put xr_49_160 h467 rfl (Nat.le_of_ble_eq_true rfl) rfl (fs' := [.ref 2, .int (iI e451), .int (iI (n + 1)), .ref 498, .ref 499, .ref 500, .int (iI 0)]) rfl (pc' := 163) rfl (fun S469 h470 n471 e472 => ?_)
        refine T_p xr_49_163 xn_49 (pc' := 17) (ls' := [(1, .int (iI 0)), (0, .ref 497)]) (st' := []) rfl ?_
        refine T_p xr_49_17 xn_49 (pc' := 18) (ls' := [(1, .int (iI 0)), (0, .ref 497)]) (st' := [.int (iI 0)]) rfl ?_
        refine T_zif_eqt xr_49_18 (t := 166) rfl (by decide) ?_
        refine T_vret xr_49_166 xf_49.2.2 ?_
        have h473 := (n471 498 (by decide)).trans (h464)
        have h474 := (n471 499 (by decide)).trans ((n465 499 (by decide)).trans (hlx456.2.2.1))
        have hT2 : X_Tks tb len (n + 1) (X_ug so n r450) (X_ug pl n (X_se X_isBl tb len (E n))) ct452 (X_ug E (n + 1) e451) := X_Tks_go hT hn rfl ht454 (fun k hk => (hu455 k hk).trans (X_ug_n _ _ hk))
        have h475 := (n471 500 (by decide)).trans ((n465 500 (by decide)).trans (hlx456.2.2.2))
        refine ⟨rfl, n + 1, (X_ug so n r450), (X_ug pl n (X_se X_isBl tb len (E n))), ct452, X_ug E (n + 1) e451, by omega, by rw [X_ug_s]; exact ⟨h470, h473, h474, h475⟩, hT2, fun i h1 h2 => ?_, ?_, ((((((X_Fr.rf).tr (X_Fr.mono ⟨k429.1, k429.2⟩ (fun q hq => by omega))).tr (X_Fr.of n433 e434 (by omega))).tr (X_Fr.of n439 e440 (by omega))).tr (X_Fr.mono ⟨hf457.1, hf457.2⟩ (fun q hq => by omega))).tr (X_Fr.of n465 e466 (by omega))).tr (X_Fr.of n471 e472 (by omega))⟩
        · rw [X_ug_n _ _ (by omega)]
          exact hnt i h1 (by omega)
        · rw [show n + 1 - 1 = n by omega, X_ug_s]
          omega
      · skip
        have c468 : ¬ (r450 = 0) := c468
        refine T_p xr_49_134 xn_49 (pc' := 135) (ls' := [(1, .int (iI 1)), (0, .ref 497)]) (st' := [.ref 497]) rfl ?_
        refine T_get xr_49_135 h467 rfl (v := .ref 498) rfl (pc' := 138) rfl ?_
        refine T_p xr_49_138 xn_49 (pc' := 139) (ls' := [(1, .int (iI 1)), (0, .ref 497)]) (st' := [.ref 497, .ref 498]) rfl ?_
        refine T_get xr_49_139 h467 rfl (v := .int (iI n)) rfl (pc' := 142) rfl ?_
        refine T_ziald xr_49_142 h464 (pc' := 143) rfl ?_
        refine T_ie (y := iI r450) (by rw [X_ug_s]) ?_
        refine T_p xr_49_143 xn_49 (pc' := 144) (ls' := [(1, .int (iI 1)), (0, .ref 497)]) (st' := [.int (iI 1), .int (iI r450)]) rfl ?_
        refine T_zicmp_eq xr_49_144 (t := 151) (pc' := 147) rfl rfl (fun c476 => ?_) (fun c476 => ?_)
        · skip
          have c476 : r450 = 1 := c476
          refine T_p xr_49_151 xn_49 (pc' := 152) (ls' := [(1, .int (iI 1)), (0, .ref 497)]) (st' := [.int (iI 0)]) rfl ?_
          refine T_p xr_49_152 xn_49 (pc' := 153) (ls' := [(1, .int (iI 0)), (0, .ref 497)]) (st' := []) rfl ?_
          refine T_p xr_49_153 xn_49 (pc' := 154) (ls' := [(1, .int (iI 0)), (0, .ref 497)]) (st' := [.ref 497]) rfl ?_
          refine T_p xr_49_154 xn_49 (pc' := 155) (ls' := [(1, .int (iI 0)), (0, .ref 497)]) (st' := [.ref 497, .ref 497]) rfl ?_
          refine T_get xr_49_155 h467 rfl (v := .int (iI n)) rfl (pc' := 158) rfl ?_
          refine T_p xr_49_158 xn_49 (pc' := 159) (ls' := [(1, .int (iI 0)), (0, .ref 497)]) (st' := [.int (iI 1), .int (iI n), .ref 497]) rfl ?_
          refine T_ziadd xr_49_159 (z := n + 1) rfl (pc' := 160) rfl ?_
          refine T_put xr_49_160 h467 rfl (Nat.le_of_ble_eq_true rfl) rfl (fs' := [.ref 2, .int (iI e451), .int (iI (n + 1)), .ref 498, .ref 499, .ref 500, .int (iI 0)]) rfl (pc' := 163) rfl (fun S477 h478 n479 e480 => ?_)
          refine T_p xr_49_163 xn_49 (pc' := 17) (ls' := [(1, .int (iI 0)), (0, .ref 497)]) (st' := []) rfl ?_
          refine T_p xr_49_17 xn_49 (pc' := 18) (ls' := [(1, .int (iI 0)), (0, .ref 497)]) (st' := [.int (iI 0)]) rfl ?_
          refine T_zif_eqt xr_49_18 (t := 166) rfl (by decide) ?_
          refine T_vret xr_49_166 xf_49.2.2 ?_
          have h481 := (n479 498 (by decide)).trans (h464)
          have h482 := (n479 499 (by decide)).trans ((n465 499 (by decide)).trans (hlx456.2.2.1))
          have hT2 : X_Tks tb len (n + 1) (X_ug so n r450) (X_ug pl n (X_se X_isBl tb len (E n))) ct452 (X_ug E (n + 1) e451) := X_Tks_go hT hn rfl ht454 (fun k hk => (hu455 k hk).trans (X_ug_n _ _ hk))
          have h483 := (n479 500 (by decide)).trans ((n465 500 (by decide)).trans (hlx456.2.2.2))
          refine ⟨rfl, n + 1, (X_ug so n r450), (X_ug pl n (X_se X_isBl tb len (E n))), ct452, X_ug E (n + 1) e451, by omega, by rw [X_ug_s]; exact ⟨h478, h481, h482, h483⟩, hT2, fun i h1 h2 => ?_, ?_, ((((((X_Fr.rf).tr (X_Fr.mono ⟨k429.1, k429.2⟩ (fun q hq => by omega))).tr (X_Fr.of n433 e434 (by omega))).tr (X_Fr.of n439 e440 (by omega))).tr (X_Fr.mono ⟨hf457.1, hf457.2⟩ (fun q hq => by omega))).tr (X_Fr.of n465 e466 (by omega))).tr (X_Fr.of n479 e480 (by omega))⟩
          · rw [X_ug_n _ _ (by omega)]
            exact hnt i h1 (by omega)
          · rw [show n + 1 - 1 = n by omega, X_ug_s]
            omega
        · skip
          have c476 : ¬ (r450 = 1) := c476
          refine T_p xr_49_147 xn_49 (pc' := 148) (ls' := [(1, .int (iI 1)), (0, .ref 497)]) (st' := [.int (iI 1)]) rfl ?_
          refine T_p xr_49_148 xn_49 (pc' := 152) (ls' := [(1, .int (iI 1)), (0, .ref 497)]) (st' := [.int (iI 1)]) rfl ?_
          refine T_p xr_49_152 xn_49 (pc' := 153) (ls' := [(1, .int (iI 1)), (0, .ref 497)]) (st' := []) rfl ?_
          refine T_p xr_49_153 xn_49 (pc' := 154) (ls' := [(1, .int (iI 1)), (0, .ref 497)]) (st' := [.ref 497]) rfl ?_
          refine T_p xr_49_154 xn_49 (pc' := 155) (ls' := [(1, .int (iI 1)), (0, .ref 497)]) (st' := [.ref 497, .ref 497]) rfl ?_
          refine T_get xr_49_155 h467 rfl (v := .int (iI n)) rfl (pc' := 158) rfl ?_
          refine T_p xr_49_158 xn_49 (pc' := 159) (ls' := [(1, .int (iI 1)), (0, .ref 497)]) (st' := [.int (iI 1), .int (iI n), .ref 497]) rfl ?_
          refine T_ziadd xr_49_159 (z := n + 1) rfl (pc' := 160) rfl ?_
          refine T_put xr_49_160 h467 rfl (Nat.le_of_ble_eq_true rfl) rfl (fs' := [.ref 2, .int (iI e451), .int (iI (n + 1)), .ref 498, .ref 499, .ref 500, .int (iI 0)]) rfl (pc' := 163) rfl (fun S484 h485 n486 e487 => ?_)
          refine T_p xr_49_163 xn_49 (pc' := 17) (ls' := [(1, .int (iI 1)), (0, .ref 497)]) (st' := []) rfl ?_
          have h488 := (n486 498 (by decide)).trans (h464)
          have h489 := (n486 499 (by decide)).trans ((n465 499 (by decide)).trans (hlx456.2.2.1))
          have hT2 : X_Tks tb len (n + 1) (X_ug so n r450) (X_ug pl n (X_se X_isBl tb len (E n))) ct452 (X_ug E (n + 1) e451) := X_Tks_go hT hn rfl ht454 (fun k hk => (hu455 k hk).trans (X_ug_n _ _ hk))
          have h490 := (n486 2 (by decide)).trans ((n465 2 (by decide)).trans ((hf457.1 2 (by omega)).trans (h442)))
          have h491 := (n486 3 (by decide)).trans ((n465 3 (by decide)).trans ((hf457.1 3 (by omega)).trans (h443)))
          have h492 := (n486 500 (by decide)).trans ((n465 500 (by decide)).trans (hlx456.2.2.2))
          refine T_mono (ih S484 (n + 1) (X_ug so n r450) (X_ug pl n (X_se X_isBl tb len (E n))) ct452 (X_ug E (n + 1) e451) ⟨h490, h491, hl⟩ (by rw [X_ug_s]; exact ⟨h485, h488, h489, h492⟩) hT2 (by omega) (by omega) (by rw [X_ug_s]; omega) (by rw [X_ug_s]; omega) (fun i h1 h2 => ?_)) (fun v S' h => ?_)
          · by_cases hi : i = n
            · subst hi
              rw [X_ug_s]
              exact ⟨by omega, by omega⟩
            · rw [X_ug_n _ _ hi]
              exact hnt i h1 (by omega)
          · obtain ⟨hv, n2, so2, pl2, ct2, E2, g1, g2, g3, g4, g5, g6⟩ := h
            exact ⟨hv, n2, so2, pl2, ct2, E2, g1, g2, g3, g4, g5, (((((((X_Fr.rf).tr (X_Fr.mono ⟨k429.1, k429.2⟩ (fun q hq => by omega))).tr (X_Fr.of n433 e434 (by omega))).tr (X_Fr.of n439 e440 (by omega))).tr (X_Fr.mono ⟨hf457.1, hf457.2⟩ (fun q hq => by omega))).tr (X_Fr.of n465 e466 (by omega))).tr (X_Fr.of n486 e487 (by omega))).tr g6⟩
theorem c_start (sc : X_Sc) (S : X_S) (len : Int) (tb : Int → Int) (at_ cnt cur : Int) (so pl : Int → Int) (ct : Int → Int64) (ht : C_tp S len tb) (hx : C_lx S at_ cnt cur so pl ct) :
    X_T sc 49 (0, [(0, .ref 497)], [], S) (fun v S' => v = none ∧ ∃ (n' : Int) (so' pl' : Int → Int) (ct' : Int → Int64) (E' : Int → Int), (1 ≤ n' ∧ n' ≤ 2001) ∧ C_lx S' (E' n') n' 0 so' pl' ct' ∧ X_Tks tb len n' so' pl' ct' E' ∧ (∀ i, 0 ≤ i → i < n' - 1 → so' i ≠ 0 ∧ so' i ≠ 1) ∧ (so' (n' - 1) = 0 ∨ so' (n' - 1) = 1) ∧ X_Fr (fun q => q = 497 ∨ q = 498 ∨ q = 499 ∨ q = 500) S S') := by
  refine T_p xr_49_0 xn_49 (pc' := 1) (ls' := [(0, .ref 497)]) (st' := [.ref 497]) rfl ?_
  refine T_p xr_49_1 xn_49 (pc' := 2) (ls' := [(0, .ref 497)]) (st' := [.int (iI 0), .ref 497]) rfl ?_
  refine T_put xr_49_2 hx.1 rfl (Nat.le_of_ble_eq_true rfl) rfl (fs' := [.ref 2, .int (iI 0), .int (iI cnt), .ref 498, .ref 499, .ref 500, .int (iI cur)]) rfl (pc' := 5) rfl (fun S493 h494 n495 e496 => ?_)
  refine T_p xr_49_5 xn_49 (pc' := 6) (ls' := [(0, .ref 497)]) (st' := [.ref 497]) rfl ?_
  refine T_p xr_49_6 xn_49 (pc' := 7) (ls' := [(0, .ref 497)]) (st' := [.int (iI 0), .ref 497]) rfl ?_
  refine T_put xr_49_7 h494 rfl (Nat.le_of_ble_eq_true rfl) rfl (fs' := [.ref 2, .int (iI 0), .int (iI 0), .ref 498, .ref 499, .ref 500, .int (iI cur)]) rfl (pc' := 10) rfl (fun S497 h498 n499 e500 => ?_)
  refine T_p xr_49_10 xn_49 (pc' := 11) (ls' := [(0, .ref 497)]) (st' := [.ref 497]) rfl ?_
  refine T_p xr_49_11 xn_49 (pc' := 12) (ls' := [(0, .ref 497)]) (st' := [.int (iI 0), .ref 497]) rfl ?_
  refine T_put xr_49_12 h498 rfl (Nat.le_of_ble_eq_true rfl) rfl (fs' := [.ref 2, .int (iI 0), .int (iI 0), .ref 498, .ref 499, .ref 500, .int (iI 0)]) rfl (pc' := 15) rfl (fun S501 h502 n503 e504 => ?_)
  refine T_p xr_49_15 xn_49 (pc' := 16) (ls' := [(0, .ref 497)]) (st' := [.int (iI 1)]) rfl ?_
  refine T_p xr_49_16 xn_49 (pc' := 17) (ls' := [(1, .int (iI 1)), (0, .ref 497)]) (st' := []) rfl ?_
  have h505 := (n503 2 (by decide)).trans ((n499 2 (by decide)).trans ((n495 2 (by decide)).trans (ht.1)))
  have h506 := (n503 3 (by decide)).trans ((n499 3 (by decide)).trans ((n495 3 (by decide)).trans (ht.2.1)))
  have h507 := (n503 498 (by decide)).trans ((n499 498 (by decide)).trans ((n495 498 (by decide)).trans (hx.2.1)))
  have h508 := (n503 499 (by decide)).trans ((n499 499 (by decide)).trans ((n495 499 (by decide)).trans (hx.2.2.1)))
  have h509 := (n503 500 (by decide)).trans ((n499 500 (by decide)).trans ((n495 500 (by decide)).trans (hx.2.2.2)))
  refine T_mono (c_start_l sc len tb ht.2.2 2002 S501 0 so pl ct (fun _ => 0) ⟨h505, h506, ht.2.2⟩ ⟨h502, h507, h508, h509⟩ ⟨rfl, fun i h1 h2 => absurd h2 (by omega)⟩ (by omega) (by omega) (by omega) (by have := ht.2.2; omega) (fun i h1 h2 => absurd h2 (by omega))) (fun v S' h => ?_)
  obtain ⟨hv, n2, so2, pl2, ct2, E2, g1, g2, g3, g4, g5, g6⟩ := h
  exact ⟨hv, n2, so2, pl2, ct2, E2, g1, g2, g3, g4, g5, ((((X_Fr.rf).tr (X_Fr.of n495 e496 (by omega))).tr (X_Fr.of n499 e500 (by omega))).tr (X_Fr.of n503 e504 (by omega))).tr g6⟩
