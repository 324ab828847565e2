theorem xr_10_0 : X_row 10 0 = some (0, (.aload_n 0, 1), (0, 0, 0)) := by decide +kernel
theorem xr_10_1 : X_row 10 1 = some (1, (.getfield 15, 3), (0, 4, 26)) := by decide +kernel
theorem xr_10_4 : X_row 10 4 = some (4, (.iload_n 2, 1), (0, 0, 0)) := by decide +kernel
theorem xr_10_5 : X_row 10 5 = some (5, (.iaload, 1), (0, 0, 0)) := by decide +kernel
theorem xr_10_6 : X_row 10 6 = some (6, (.iconst 1, 1), (0, 0, 0)) := by decide +kernel
theorem xr_10_7 : X_row 10 7 = some (7, (.iload_n 2, 1), (0, 0, 0)) := by decide +kernel
theorem xr_10_8 : X_row 10 8 = some (8, (.ishl, 1), (0, 0, 0)) := by decide +kernel
theorem xr_10_9 : X_row 10 9 = some (9, (.ior, 1), (0, 0, 0)) := by decide +kernel
theorem xr_10_10 : X_row 10 10 = some (10, (.istore_n 3, 1), (0, 0, 0)) := by decide +kernel
theorem xr_10_11 : X_row 10 11 = some (11, (.iconst 0, 1), (0, 0, 0)) := by decide +kernel
theorem xr_10_12 : X_row 10 12 = some (12, (.istore 4, 2), (0, 0, 0)) := by decide +kernel
theorem xr_10_14 : X_row 10 14 = some (14, (.iload 4, 2), (0, 0, 0)) := by decide +kernel
theorem xr_10_16 : X_row 10 16 = some (16, (.aload_n 0, 1), (0, 0, 0)) := by decide +kernel
theorem xr_10_17 : X_row 10 17 = some (17, (.getfield 35, 3), (0, 0, 18)) := by decide +kernel
theorem xr_10_20 : X_row 10 20 = some (20, (.if_icmp .ge 36, 3), (0, 0, 0)) := by decide +kernel
theorem xr_10_23 : X_row 10 23 = some (23, (.iload 4, 2), (0, 0, 0)) := by decide +kernel
theorem xr_10_25 : X_row 10 25 = some (25, (.iload_n 1, 1), (0, 0, 0)) := by decide +kernel
theorem xr_10_26 : X_row 10 26 = some (26, (.if_icmp .eq 13, 3), (0, 0, 0)) := by decide +kernel
theorem xr_10_29 : X_row 10 29 = some (29, (.aload_n 0, 1), (0, 0, 0)) := by decide +kernel
theorem xr_10_30 : X_row 10 30 = some (30, (.iload 4, 2), (0, 0, 0)) := by decide +kernel
theorem xr_10_32 : X_row 10 32 = some (32, (.iload_n 1, 1), (0, 0, 0)) := by decide +kernel
theorem xr_10_33 : X_row 10 33 = some (33, (.invokevirtual 55, 3), (11, 8, 0)) := by decide +kernel
theorem xr_10_36 : X_row 10 36 = some (36, (.ifCond .eq 14, 3), (0, 0, 0)) := by decide +kernel
theorem xr_10_39 : X_row 10 39 = some (39, (.aload_n 0, 1), (0, 0, 0)) := by decide +kernel
theorem xr_10_40 : X_row 10 40 = some (40, (.getfield 15, 3), (0, 4, 26)) := by decide +kernel
theorem xr_10_43 : X_row 10 43 = some (43, (.iload 4, 2), (0, 0, 0)) := by decide +kernel
theorem xr_10_45 : X_row 10 45 = some (45, (.dup2, 1), (0, 0, 0)) := by decide +kernel
theorem xr_10_46 : X_row 10 46 = some (46, (.iaload, 1), (0, 0, 0)) := by decide +kernel
theorem xr_10_47 : X_row 10 47 = some (47, (.iload_n 3, 1), (0, 0, 0)) := by decide +kernel
theorem xr_10_48 : X_row 10 48 = some (48, (.ior, 1), (0, 0, 0)) := by decide +kernel
theorem xr_10_49 : X_row 10 49 = some (49, (.iastore, 1), (0, 0, 0)) := by decide +kernel
theorem xr_10_50 : X_row 10 50 = some (50, (.iinc 4 1, 3), (0, 0, 0)) := by decide +kernel
theorem xr_10_53 : X_row 10 53 = some (53, (.goto (-39), 3), (0, 0, 0)) := by decide +kernel
theorem xr_10_56 : X_row 10 56 = some (56, (.return_, 1), (0, 0, 0)) := by decide +kernel
theorem xr_14_0 : X_row 14 0 = some (0, (.iconst 0, 1), (0, 0, 0)) := by decide +kernel
theorem xr_14_1 : X_row 14 1 = some (1, (.istore_n 2, 1), (0, 0, 0)) := by decide +kernel
theorem xr_14_2 : X_row 14 2 = some (2, (.iconst 0, 1), (0, 0, 0)) := by decide +kernel
theorem xr_14_3 : X_row 14 3 = some (3, (.istore_n 3, 1), (0, 0, 0)) := by decide +kernel
theorem xr_14_4 : X_row 14 4 = some (4, (.iload_n 3, 1), (0, 0, 0)) := by decide +kernel
theorem xr_14_5 : X_row 14 5 = some (5, (.aload_n 0, 1), (0, 0, 0)) := by decide +kernel
theorem xr_14_6 : X_row 14 6 = some (6, (.getfield 39, 3), (0, 1, 20)) := by decide +kernel
theorem xr_14_9 : X_row 14 9 = some (9, (.if_icmp .ge 24, 3), (0, 0, 0)) := by decide +kernel
theorem xr_14_12 : X_row 14 12 = some (12, (.aload_n 0, 1), (0, 0, 0)) := by decide +kernel
theorem xr_14_13 : X_row 14 13 = some (13, (.iload_n 3, 1), (0, 0, 0)) := by decide +kernel
theorem xr_14_14 : X_row 14 14 = some (14, (.iload_n 1, 1), (0, 0, 0)) := by decide +kernel
theorem xr_14_15 : X_row 14 15 = some (15, (.invokevirtual 62, 3), (12, 16, 0)) := by decide +kernel
theorem xr_14_18 : X_row 14 18 = some (18, (.ifCond .eq 9, 3), (0, 0, 0)) := by decide +kernel
theorem xr_14_21 : X_row 14 21 = some (21, (.iload_n 2, 1), (0, 0, 0)) := by decide +kernel
theorem xr_14_22 : X_row 14 22 = some (22, (.iconst 1, 1), (0, 0, 0)) := by decide +kernel
theorem xr_14_23 : X_row 14 23 = some (23, (.iload_n 3, 1), (0, 0, 0)) := by decide +kernel
theorem xr_14_24 : X_row 14 24 = some (24, (.ishl, 1), (0, 0, 0)) := by decide +kernel
theorem xr_14_25 : X_row 14 25 = some (25, (.ior, 1), (0, 0, 0)) := by decide +kernel
theorem xr_14_26 : X_row 14 26 = some (26, (.istore_n 2, 1), (0, 0, 0)) := by decide +kernel
theorem xr_14_27 : X_row 14 27 = some (27, (.iinc 3 1, 3), (0, 0, 0)) := by decide +kernel
theorem xr_14_30 : X_row 14 30 = some (30, (.goto (-26), 3), (0, 0, 0)) := by decide +kernel
theorem xr_14_33 : X_row 14 33 = some (33, (.iload_n 2, 1), (0, 0, 0)) := by decide +kernel
theorem xr_14_34 : X_row 14 34 = some (34, (.ireturn, 1), (0, 0, 0)) := by decide +kernel
theorem xr_15_0 : X_row 15 0 = some (0, (.iconst 0, 1), (0, 0, 0)) := by decide +kernel
theorem xr_15_1 : X_row 15 1 = some (1, (.istore_n 2, 1), (0, 0, 0)) := by decide +kernel
theorem xr_15_2 : X_row 15 2 = some (2, (.iconst 0, 1), (0, 0, 0)) := by decide +kernel
theorem xr_15_3 : X_row 15 3 = some (3, (.istore_n 3, 1), (0, 0, 0)) := by decide +kernel
theorem xr_15_4 : X_row 15 4 = some (4, (.iload_n 3, 1), (0, 0, 0)) := by decide +kernel
theorem xr_15_5 : X_row 15 5 = some (5, (.aload_n 0, 1), (0, 0, 0)) := by decide +kernel
theorem xr_15_6 : X_row 15 6 = some (6, (.getfield 42, 3), (0, 2, 22)) := by decide +kernel
theorem xr_15_9 : X_row 15 9 = some (9, (.if_icmp .ge 31, 3), (0, 0, 0)) := by decide +kernel
theorem xr_15_12 : X_row 15 12 = some (12, (.iload_n 1, 1), (0, 0, 0)) := by decide +kernel
theorem xr_15_13 : X_row 15 13 = some (13, (.aload_n 0, 1), (0, 0, 0)) := by decide +kernel
theorem xr_15_14 : X_row 15 14 = some (14, (.getfield 27, 3), (0, 7, 32)) := by decide +kernel
theorem xr_15_17 : X_row 15 17 = some (17, (.iload_n 3, 1), (0, 0, 0)) := by decide +kernel
theorem xr_15_18 : X_row 15 18 = some (18, (.aaload, 1), (0, 0, 0)) := by decide +kernel
theorem xr_15_19 : X_row 15 19 = some (19, (.getfield 65, 3), (8, 2, 5)) := by decide +kernel
theorem xr_15_22 : X_row 15 22 = some (22, (.invokestatic 59, 3), (131, 7, 0)) := by decide +kernel
theorem xr_15_25 : X_row 15 25 = some (25, (.ifCond .eq 9, 3), (0, 0, 0)) := by decide +kernel
theorem xr_15_28 : X_row 15 28 = some (28, (.iload_n 2, 1), (0, 0, 0)) := by decide +kernel
theorem xr_15_29 : X_row 15 29 = some (29, (.iconst 1, 1), (0, 0, 0)) := by decide +kernel
theorem xr_15_30 : X_row 15 30 = some (30, (.iload_n 3, 1), (0, 0, 0)) := by decide +kernel
theorem xr_15_31 : X_row 15 31 = some (31, (.ishl, 1), (0, 0, 0)) := by decide +kernel
theorem xr_15_32 : X_row 15 32 = some (32, (.ior, 1), (0, 0, 0)) := by decide +kernel
theorem xr_15_33 : X_row 15 33 = some (33, (.istore_n 2, 1), (0, 0, 0)) := by decide +kernel
theorem xr_15_34 : X_row 15 34 = some (34, (.iinc 3 1, 3), (0, 0, 0)) := by decide +kernel
theorem xr_15_37 : X_row 15 37 = some (37, (.goto (-33), 3), (0, 0, 0)) := by decide +kernel
theorem xr_15_40 : X_row 15 40 = some (40, (.iload_n 2, 1), (0, 0, 0)) := by decide +kernel
theorem xr_15_41 : X_row 15 41 = some (41, (.ireturn, 1), (0, 0, 0)) := by decide +kernel
theorem xr_18_0 : X_row 18 0 = some (0, (.aload_n 0, 1), (0, 0, 0)) := by decide +kernel
theorem xr_18_1 : X_row 18 1 = some (1, (.getfield 27, 3), (0, 7, 32)) := by decide +kernel
theorem xr_18_4 : X_row 18 4 = some (4, (.iload_n 1, 1), (0, 0, 0)) := by decide +kernel
theorem xr_18_5 : X_row 18 5 = some (5, (.aaload, 1), (0, 0, 0)) := by decide +kernel
theorem xr_18_6 : X_row 18 6 = some (6, (.astore_n 3, 1), (0, 0, 0)) := by decide +kernel
theorem xr_18_7 : X_row 18 7 = some (7, (.aload_n 0, 1), (0, 0, 0)) := by decide +kernel
theorem xr_18_8 : X_row 18 8 = some (8, (.getfield 27, 3), (0, 7, 32)) := by decide +kernel
theorem xr_18_11 : X_row 18 11 = some (11, (.iload_n 2, 1), (0, 0, 0)) := by decide +kernel
theorem xr_18_12 : X_row 18 12 = some (12, (.aaload, 1), (0, 0, 0)) := by decide +kernel
theorem xr_18_13 : X_row 18 13 = some (13, (.astore 4, 2), (0, 0, 0)) := by decide +kernel
theorem xr_18_15 : X_row 18 15 = some (15, (.iload_n 1, 1), (0, 0, 0)) := by decide +kernel
theorem xr_18_16 : X_row 18 16 = some (16, (.iload_n 2, 1), (0, 0, 0)) := by decide +kernel
theorem xr_18_17 : X_row 18 17 = some (17, (.if_icmp .ne 31, 3), (0, 0, 0)) := by decide +kernel
theorem xr_18_20 : X_row 18 20 = some (20, (.aload_n 3, 1), (0, 0, 0)) := by decide +kernel
theorem xr_18_21 : X_row 18 21 = some (21, (.invokestatic 107, 3), (19, 24, 0)) := by decide +kernel
theorem xr_18_24 : X_row 18 24 = some (24, (.ifCond .ne 18, 3), (0, 0, 0)) := by decide +kernel
theorem xr_18_27 : X_row 18 27 = some (27, (.aload_n 3, 1), (0, 0, 0)) := by decide +kernel
theorem xr_18_28 : X_row 18 28 = some (28, (.invokevirtual 111, 3), (101, 26, 0)) := by decide +kernel
theorem xr_18_31 : X_row 18 31 = some (31, (.iconst 3, 1), (0, 0, 0)) := by decide +kernel
theorem xr_18_32 : X_row 18 32 = some (32, (.if_icmp .ne 14, 3), (0, 0, 0)) := by decide +kernel
theorem xr_18_35 : X_row 18 35 = some (35, (.aload_n 3, 1), (0, 0, 0)) := by decide +kernel
theorem xr_18_36 : X_row 18 36 = some (36, (.getfield 97, 3), (8, 1, 3)) := by decide +kernel
theorem xr_18_39 : X_row 18 39 = some (39, (.ifCond .ne 7, 3), (0, 0, 0)) := by decide +kernel
theorem xr_18_42 : X_row 18 42 = some (42, (.iconst 1, 1), (0, 0, 0)) := by decide +kernel
theorem xr_18_43 : X_row 18 43 = some (43, (.goto 4, 3), (0, 0, 0)) := by decide +kernel
theorem xr_18_46 : X_row 18 46 = some (46, (.iconst 0, 1), (0, 0, 0)) := by decide +kernel
theorem xr_18_47 : X_row 18 47 = some (47, (.ireturn, 1), (0, 0, 0)) := by decide +kernel
theorem xr_18_48 : X_row 18 48 = some (48, (.aload_n 3, 1), (0, 0, 0)) := by decide +kernel
theorem xr_18_49 : X_row 18 49 = some (49, (.aload 4, 2), (0, 0, 0)) := by decide +kernel
theorem xr_18_51 : X_row 18 51 = some (51, (.invokestatic 115, 3), (20, 28, 0)) := by decide +kernel
theorem xr_18_54 : X_row 18 54 = some (54, (.ifCond .eq 5, 3), (0, 0, 0)) := by decide +kernel
theorem xr_18_57 : X_row 18 57 = some (57, (.iconst 1, 1), (0, 0, 0)) := by decide +kernel
theorem xr_18_58 : X_row 18 58 = some (58, (.ireturn, 1), (0, 0, 0)) := by decide +kernel
theorem xr_18_59 : X_row 18 59 = some (59, (.aload_n 3, 1), (0, 0, 0)) := by decide +kernel
theorem xr_18_60 : X_row 18 60 = some (60, (.invokevirtual 100, 3), (102, 22, 0)) := by decide +kernel
theorem xr_18_63 : X_row 18 63 = some (63, (.ifCond .ne 11, 3), (0, 0, 0)) := by decide +kernel
theorem xr_18_66 : X_row 18 66 = some (66, (.aload 4, 2), (0, 0, 0)) := by decide +kernel
theorem xr_18_68 : X_row 18 68 = some (68, (.invokevirtual 100, 3), (102, 22, 0)) := by decide +kernel
theorem xr_18_71 : X_row 18 71 = some (71, (.ifCond .eq 5, 3), (0, 0, 0)) := by decide +kernel
theorem xr_18_74 : X_row 18 74 = some (74, (.iconst 0, 1), (0, 0, 0)) := by decide +kernel
theorem xr_18_75 : X_row 18 75 = some (75, (.ireturn, 1), (0, 0, 0)) := by decide +kernel
theorem xr_18_76 : X_row 18 76 = some (76, (.aload_n 3, 1), (0, 0, 0)) := by decide +kernel
theorem xr_18_77 : X_row 18 77 = some (77, (.getfield 104, 3), (8, 0, 1)) := by decide +kernel
theorem xr_18_80 : X_row 18 80 = some (80, (.aload 4, 2), (0, 0, 0)) := by decide +kernel
theorem xr_18_82 : X_row 18 82 = some (82, (.getfield 104, 3), (8, 0, 1)) := by decide +kernel
theorem xr_18_85 : X_row 18 85 = some (85, (.if_icmp .ne 26, 3), (0, 0, 0)) := by decide +kernel
theorem xr_18_88 : X_row 18 88 = some (88, (.aload_n 3, 1), (0, 0, 0)) := by decide +kernel
theorem xr_18_89 : X_row 18 89 = some (89, (.getfield 97, 3), (8, 1, 3)) := by decide +kernel
theorem xr_18_92 : X_row 18 92 = some (92, (.ifCond .eq 19, 3), (0, 0, 0)) := by decide +kernel
theorem xr_18_95 : X_row 18 95 = some (95, (.aload_n 3, 1), (0, 0, 0)) := by decide +kernel
theorem xr_18_96 : X_row 18 96 = some (96, (.getfield 97, 3), (8, 1, 3)) := by decide +kernel
theorem xr_18_99 : X_row 18 99 = some (99, (.aload 4, 2), (0, 0, 0)) := by decide +kernel
theorem xr_18_101 : X_row 18 101 = some (101, (.getfield 97, 3), (8, 1, 3)) := by decide +kernel
theorem xr_18_104 : X_row 18 104 = some (104, (.if_icmp .ne 7, 3), (0, 0, 0)) := by decide +kernel
theorem xr_18_107 : X_row 18 107 = some (107, (.iconst 1, 1), (0, 0, 0)) := by decide +kernel
theorem xr_18_108 : X_row 18 108 = some (108, (.goto 4, 3), (0, 0, 0)) := by decide +kernel
theorem xr_18_111 : X_row 18 111 = some (111, (.iconst 0, 1), (0, 0, 0)) := by decide +kernel
theorem xr_18_112 : X_row 18 112 = some (112, (.istore 5, 2), (0, 0, 0)) := by decide +kernel
theorem xr_18_114 : X_row 18 114 = some (114, (.iload 5, 2), (0, 0, 0)) := by decide +kernel
theorem xr_18_116 : X_row 18 116 = some (116, (.ifCond .ne 39, 3), (0, 0, 0)) := by decide +kernel
theorem xr_18_119 : X_row 18 119 = some (119, (.aload_n 0, 1), (0, 0, 0)) := by decide +kernel
theorem xr_18_120 : X_row 18 120 = some (120, (.aload_n 3, 1), (0, 0, 0)) := by decide +kernel
theorem xr_18_121 : X_row 18 121 = some (121, (.getfield 104, 3), (8, 0, 1)) := by decide +kernel
theorem xr_18_124 : X_row 18 124 = some (124, (.aload 4, 2), (0, 0, 0)) := by decide +kernel
theorem xr_18_126 : X_row 18 126 = some (126, (.getfield 104, 3), (8, 0, 1)) := by decide +kernel
theorem xr_18_129 : X_row 18 129 = some (129, (.invokevirtual 55, 3), (11, 8, 0)) := by decide +kernel
theorem xr_18_132 : X_row 18 132 = some (132, (.ifCond .ne 23, 3), (0, 0, 0)) := by decide +kernel
theorem xr_18_135 : X_row 18 135 = some (135, (.aload_n 0, 1), (0, 0, 0)) := by decide +kernel
theorem xr_18_136 : X_row 18 136 = some (136, (.aload 4, 2), (0, 0, 0)) := by decide +kernel
theorem xr_18_138 : X_row 18 138 = some (138, (.getfield 104, 3), (8, 0, 1)) := by decide +kernel
theorem xr_18_141 : X_row 18 141 = some (141, (.aload_n 3, 1), (0, 0, 0)) := by decide +kernel
theorem xr_18_142 : X_row 18 142 = some (142, (.getfield 104, 3), (8, 0, 1)) := by decide +kernel
theorem xr_18_145 : X_row 18 145 = some (145, (.invokevirtual 55, 3), (11, 8, 0)) := by decide +kernel
theorem xr_18_148 : X_row 18 148 = some (148, (.ifCond .ne 7, 3), (0, 0, 0)) := by decide +kernel
theorem xr_18_151 : X_row 18 151 = some (151, (.iconst 1, 1), (0, 0, 0)) := by decide +kernel
theorem xr_18_152 : X_row 18 152 = some (152, (.goto 4, 3), (0, 0, 0)) := by decide +kernel
theorem xr_18_155 : X_row 18 155 = some (155, (.iconst 0, 1), (0, 0, 0)) := by decide +kernel
theorem xr_18_156 : X_row 18 156 = some (156, (.ireturn, 1), (0, 0, 0)) := by decide +kernel
theorem xr_19_0 : X_row 19 0 = some (0, (.iconst 0, 1), (0, 0, 0)) := by decide +kernel
theorem xr_19_1 : X_row 19 1 = some (1, (.istore_n 1, 1), (0, 0, 0)) := by decide +kernel
theorem xr_19_2 : X_row 19 2 = some (2, (.iload_n 1, 1), (0, 0, 0)) := by decide +kernel
theorem xr_19_3 : X_row 19 3 = some (3, (.aload_n 0, 1), (0, 0, 0)) := by decide +kernel
theorem xr_19_4 : X_row 19 4 = some (4, (.getfield 68, 3), (8, 3, 7)) := by decide +kernel
theorem xr_19_7 : X_row 19 7 = some (7, (.if_icmp .ge 53, 3), (0, 0, 0)) := by decide +kernel
theorem xr_19_10 : X_row 19 10 = some (10, (.iload_n 1, 1), (0, 0, 0)) := by decide +kernel
theorem xr_19_11 : X_row 19 11 = some (11, (.iconst 1, 1), (0, 0, 0)) := by decide +kernel
theorem xr_19_12 : X_row 19 12 = some (12, (.iadd, 1), (0, 0, 0)) := by decide +kernel
theorem xr_19_13 : X_row 19 13 = some (13, (.istore_n 2, 1), (0, 0, 0)) := by decide +kernel
theorem xr_19_14 : X_row 19 14 = some (14, (.iload_n 2, 1), (0, 0, 0)) := by decide +kernel
theorem xr_19_15 : X_row 19 15 = some (15, (.aload_n 0, 1), (0, 0, 0)) := by decide +kernel
theorem xr_19_16 : X_row 19 16 = some (16, (.getfield 68, 3), (8, 3, 7)) := by decide +kernel
theorem xr_19_19 : X_row 19 19 = some (19, (.if_icmp .ge 35, 3), (0, 0, 0)) := by decide +kernel
theorem xr_19_22 : X_row 19 22 = some (22, (.aload_n 0, 1), (0, 0, 0)) := by decide +kernel
theorem xr_19_23 : X_row 19 23 = some (23, (.iload_n 1, 1), (0, 0, 0)) := by decide +kernel
theorem xr_19_24 : X_row 19 24 = some (24, (.invokevirtual 71, 3), (100, 12, 0)) := by decide +kernel
theorem xr_19_27 : X_row 19 27 = some (27, (.ifCond .ne 21, 3), (0, 0, 0)) := by decide +kernel
theorem xr_19_30 : X_row 19 30 = some (30, (.aload_n 0, 1), (0, 0, 0)) := by decide +kernel
theorem xr_19_31 : X_row 19 31 = some (31, (.getfield 119, 3), (8, 8, 9)) := by decide +kernel
theorem xr_19_34 : X_row 19 34 = some (34, (.iload_n 1, 1), (0, 0, 0)) := by decide +kernel
theorem xr_19_35 : X_row 19 35 = some (35, (.laload, 1), (0, 0, 0)) := by decide +kernel
theorem xr_19_36 : X_row 19 36 = some (36, (.aload_n 0, 1), (0, 0, 0)) := by decide +kernel
theorem xr_19_37 : X_row 19 37 = some (37, (.getfield 119, 3), (8, 8, 9)) := by decide +kernel
theorem xr_19_40 : X_row 19 40 = some (40, (.iload_n 2, 1), (0, 0, 0)) := by decide +kernel
theorem xr_19_41 : X_row 19 41 = some (41, (.laload, 1), (0, 0, 0)) := by decide +kernel
theorem xr_19_42 : X_row 19 42 = some (42, (.lcmp, 1), (0, 0, 0)) := by decide +kernel
theorem xr_19_43 : X_row 19 43 = some (43, (.ifCond .ne 5, 3), (0, 0, 0)) := by decide +kernel
theorem xr_19_46 : X_row 19 46 = some (46, (.iconst 1, 1), (0, 0, 0)) := by decide +kernel
theorem xr_19_47 : X_row 19 47 = some (47, (.ireturn, 1), (0, 0, 0)) := by decide +kernel
theorem xr_19_48 : X_row 19 48 = some (48, (.iinc 2 1, 3), (0, 0, 0)) := by decide +kernel
theorem xr_19_51 : X_row 19 51 = some (51, (.goto (-37), 3), (0, 0, 0)) := by decide +kernel
theorem xr_19_54 : X_row 19 54 = some (54, (.iinc 1 1, 3), (0, 0, 0)) := by decide +kernel
theorem xr_19_57 : X_row 19 57 = some (57, (.goto (-55), 3), (0, 0, 0)) := by decide +kernel
theorem xr_19_60 : X_row 19 60 = some (60, (.iconst 0, 1), (0, 0, 0)) := by decide +kernel
theorem xr_19_61 : X_row 19 61 = some (61, (.ireturn, 1), (0, 0, 0)) := by decide +kernel
theorem xr_20_0 : X_row 20 0 = some (0, (.iconst 0, 1), (0, 0, 0)) := by decide +kernel
theorem xr_20_1 : X_row 20 1 = some (1, (.istore_n 2, 1), (0, 0, 0)) := by decide +kernel
theorem xr_20_2 : X_row 20 2 = some (2, (.iload_n 2, 1), (0, 0, 0)) := by decide +kernel
theorem xr_20_3 : X_row 20 3 = some (3, (.aload_n 0, 1), (0, 0, 0)) := by decide +kernel
theorem xr_20_4 : X_row 20 4 = some (4, (.getfield 68, 3), (8, 3, 7)) := by decide +kernel
theorem xr_20_7 : X_row 20 7 = some (7, (.if_icmp .ge 32, 3), (0, 0, 0)) := by decide +kernel
theorem xr_20_10 : X_row 20 10 = some (10, (.aload_n 0, 1), (0, 0, 0)) := by decide +kernel
theorem xr_20_11 : X_row 20 11 = some (11, (.iload_n 2, 1), (0, 0, 0)) := by decide +kernel
theorem xr_20_12 : X_row 20 12 = some (12, (.invokevirtual 71, 3), (100, 12, 0)) := by decide +kernel
theorem xr_20_15 : X_row 20 15 = some (15, (.ifCond .ne 18, 3), (0, 0, 0)) := by decide +kernel
theorem xr_20_18 : X_row 20 18 = some (18, (.aload_n 1, 1), (0, 0, 0)) := by decide +kernel
theorem xr_20_19 : X_row 20 19 = some (19, (.aload_n 0, 1), (0, 0, 0)) := by decide +kernel
theorem xr_20_20 : X_row 20 20 = some (20, (.getfield 119, 3), (8, 8, 9)) := by decide +kernel
theorem xr_20_23 : X_row 20 23 = some (23, (.iload_n 2, 1), (0, 0, 0)) := by decide +kernel
theorem xr_20_24 : X_row 20 24 = some (24, (.laload, 1), (0, 0, 0)) := by decide +kernel
theorem xr_20_25 : X_row 20 25 = some (25, (.invokevirtual 122, 3), (103, 30, 0)) := by decide +kernel
theorem xr_20_28 : X_row 20 28 = some (28, (.ifCond .eq 5, 3), (0, 0, 0)) := by decide +kernel
theorem xr_20_31 : X_row 20 31 = some (31, (.iconst 1, 1), (0, 0, 0)) := by decide +kernel
theorem xr_20_32 : X_row 20 32 = some (32, (.ireturn, 1), (0, 0, 0)) := by decide +kernel
theorem xr_20_33 : X_row 20 33 = some (33, (.iinc 2 1, 3), (0, 0, 0)) := by decide +kernel
theorem xr_20_36 : X_row 20 36 = some (36, (.goto (-34), 3), (0, 0, 0)) := by decide +kernel
theorem xr_20_39 : X_row 20 39 = some (39, (.iconst 0, 1), (0, 0, 0)) := by decide +kernel
theorem xr_20_40 : X_row 20 40 = some (40, (.ireturn, 1), (0, 0, 0)) := by decide +kernel
theorem xn_10 : X_nL 10 = 5 := by decide +kernel
theorem xf_10 : X_na 10 = 2 ∧ X_ci 10 = 0 ∧ X_rt 10 = none := by decide +kernel
theorem xn_14 : X_nL 14 = 4 := by decide +kernel
theorem xf_14 : X_na 14 = 1 ∧ X_ci 14 = 0 ∧ X_rt 14 = (some .int) := by decide +kernel
theorem xn_15 : X_nL 15 = 4 := by decide +kernel
theorem xf_15 : X_na 15 = 1 ∧ X_ci 15 = 0 ∧ X_rt 15 = (some .int) := by decide +kernel
theorem xn_18 : X_nL 18 = 6 := by decide +kernel
theorem xf_18 : X_na 18 = 2 ∧ X_ci 18 = 0 ∧ X_rt 18 = (some .boolean) := by decide +kernel
theorem xn_19 : X_nL 19 = 3 := by decide +kernel
theorem xf_19 : X_na 19 = 1 ∧ X_ci 19 = 0 ∧ X_rt 19 = (some .boolean) := by decide +kernel
theorem xn_20 : X_nL 20 = 3 := by decide +kernel
theorem xf_20 : X_na 20 = 2 ∧ X_ci 20 = 0 ∧ X_rt 20 = (some .boolean) := by decide +kernel
/-- the ranks that a rank is tighter than, once a is tighter than b -/
noncomputable def X_ti (lo : Int → Int) (a b r : Int) : Int := @ite Int (r = a ∨ X_bt (lo r) a) (Classical.propDecidable _) (X_bO (lo r) (X_bO (lo b) (X_bS b))) (lo r)
noncomputable def X_tf (rc : Int) (lo : Int → Int) (a b r : Int) : Int := if 0 ≤ r ∧ r < rc then X_ti lo a b r else lo r
theorem X_ti_t {lo : Int → Int} {a b r : Int} (h : r = a ∨ X_bt (lo r) a) : X_ti lo a b r = X_bO (lo r) (X_bO (lo b) (X_bS b)) := by unfold X_ti; rw [if_pos h]
theorem X_ti_f {lo : Int → Int} {a b r : Int} (h : ¬ (r = a ∨ X_bt (lo r) a)) : X_ti lo a b r = lo r := by unfold X_ti; rw [if_neg h]
def X_h2 (d : Nat → Int → Int) (q : Int → Int64) : Prop := ∃ e k, 0 ≤ e ∧ e < k ∧ k < d 3 0 ∧ ¬ X_hl d q e ∧ q e = q k
def X_sp (d : Nat → Int → Int) (q : Int → Int64) (d' : Nat → Int → Int) (q' : Int → Int64) : Prop := ∃ e, 0 ≤ e ∧ e < d 3 0 ∧ ¬ X_hl d q e ∧ X_hp d' q' (q e)
/-- one word of a book against another, or against itself -/
def X_ag (lo : Int → Int) (D : Int → Nat → Int → Int) (W : Int → Int → Int64) (x y : Int) : Prop :=
  (x = y ∧ (X_h2 (D x) (W x) ∨ (X_en (D x) (W x) = 3 ∧ D x 1 0 = 0))) ∨
  (¬ x = y ∧ (X_sp (D x) (W x) (D y) (W y) ∨ (¬ X_en (D x) (W x) = 0 ∧ ¬ X_en (D y) (W y) = 0 ∧
    ¬ (D x 0 0 = D y 0 0 ∧ ¬ D x 1 0 = 0 ∧ D x 1 0 = D y 1 0) ∧ ¬ X_bt (lo (D x 0 0)) (D y 0 0) ∧ ¬ X_bt (lo (D y 0 0)) (D x 0 0))))
theorem c_setTighter (sc : X_Sc) (S : X_S) (B : Nat) (rc kc wc : Int) (rn : Int → Int64) (lo : Int → Int) (kn : Int → Int64) (ab : Int → Int) (a b : Int) (hb : C_bk S B rc kc wc rn lo kn ab) (ha : 0 ≤ a ∧ a < rc) (hb_ : 0 ≤ b ∧ b < rc) : X_T sc 10 (0, [(0, .ref B), (1, .int (iI a)), (2, .int (iI b))], [], S) (fun v S' => v = none ∧ C_bk S' B rc kc wc rn (X_tf rc lo a b) kn ab ∧ X_Fr (fun r => B ≤ r ∧ r ≤ B + 4) S S') := by
  obtain ⟨hb0, hb1, hb2, hb3, hb4, ⟨f, hb5, hf⟩, ⟨hrc, hrcb⟩, ⟨hkc, hkcb⟩, ⟨hwc, hwcb⟩⟩ := id hb
  refine X_QI (fun Q hQ => ?_)
  refine T_p xr_10_0 xn_10 (pc' := 1) (ls' := [(0, .ref B), (1, .int (iI a)), (2, .int (iI b))]) (st' := [.ref B]) rfl ?_
  refine T_get xr_10_1 hb0 rfl (v := .ref (B + 2)) rfl (pc' := 4) rfl ?_
  refine T_p xr_10_4 xn_10 (pc' := 5) (ls' := [(0, .ref B), (1, .int (iI a)), (2, .int (iI b))]) (st' := [.int (iI b), .ref (B + 2)]) rfl ?_
  refine T_ziald xr_10_5 hb2 (pc' := 6) rfl ?_
  refine T_p xr_10_6 xn_10 (pc' := 7) (ls' := [(0, .ref B), (1, .int (iI a)), (2, .int (iI b))]) (st' := [.int (iI 1), .int (iI (lo b))]) rfl ?_
  refine T_p xr_10_7 xn_10 (pc' := 8) (ls' := [(0, .ref B), (1, .int (iI a)), (2, .int (iI b))]) (st' := [.int (iI b), .int (iI 1), .int (iI (lo b))]) rfl ?_
  refine T_zop xr_10_8 (pc' := 9) rfl (z := (iI 1 <<< (iI b &&& 31)).toInt) (iI_of _) ?_
  refine T_zop xr_10_9 (pc' := 10) rfl (z := (iI (lo b) ||| iI ((iI 1 <<< (iI b &&& 31)).toInt)).toInt) (iI_of _) ?_
  refine T_p xr_10_10 xn_10 (pc' := 11) (ls' := [(3, .int (iI ((iI (lo b) ||| iI ((iI 1 <<< (iI b &&& 31)).toInt)).toInt))), (0, .ref B), (1, .int (iI a)), (2, .int (iI b))]) (st' := []) rfl ?_
  refine T_p xr_10_11 xn_10 (pc' := 12) (ls' := [(3, .int (iI ((iI (lo b) ||| iI ((iI 1 <<< (iI b &&& 31)).toInt)).toInt))), (0, .ref B), (1, .int (iI a)), (2, .int (iI b))]) (st' := [.int (iI 0)]) rfl ?_
  refine T_p xr_10_12 xn_10 (pc' := 14) (ls' := [(4, .int (iI 0)), (3, .int (iI ((iI (lo b) ||| iI ((iI 1 <<< (iI b &&& 31)).toInt)).toInt))), (0, .ref B), (1, .int (iI a)), (2, .int (iI b))]) (st' := []) rfl ?_
  have L274 : ∀ (m276 : Nat) (S279 : X_S) (i : Int) (l1 : Int → Int) (hl1 : S279.1 (B + 2) = .inl (.int, 12, .inl fun k : Nat => iI (l1 (k : Int)))) (hF278 : X_Fr (fun r => r = B + 2) S S279) (hi : 0 ≤ i ∧ i ≤ rc) (hlt : ∀ k, 0 ≤ k → k < i → l1 k = X_ti lo a b k) (hge : ∀ k, (i ≤ k ∨ k < 0) → l1 k = lo k) (hm277 : rc - i < m276), X_T sc 10 (14, [(4, .int (iI i)), (3, .int (iI ((iI (lo b) ||| iI ((iI 1 <<< (iI b &&& 31)).toInt)).toInt))), (0, .ref B), (1, .int (iI a)), (2, .int (iI b))], [], S279) Q := by
    intro m276
    induction m276 with
    | zero =>
      intro S279 i l1 hl1 hF278 hi hlt hge hm277
      exact (show False by omega).elim
    | succ m276 ih275 =>
      intro S279 i l1 hl1 hF278 hi hlt hge hm277
      refine T_p xr_10_14 xn_10 (pc' := 16) (ls' := [(4, .int (iI i)), (3, .int (iI ((iI (lo b) ||| iI ((iI 1 <<< (iI b &&& 31)).toInt)).toInt))), (0, .ref B), (1, .int (iI a)), (2, .int (iI b))]) (st' := [.int (iI i)]) rfl ?_
      refine T_p xr_10_16 xn_10 (pc' := 17) (ls' := [(4, .int (iI i)), (3, .int (iI ((iI (lo b) ||| iI ((iI 1 <<< (iI b &&& 31)).toInt)).toInt))), (0, .ref B), (1, .int (iI a)), (2, .int (iI b))]) (st' := [.ref B, .int (iI i)]) rfl ?_
      have h280 := (hF278.1 B (by omega)).trans (hb0)
      refine T_get xr_10_17 h280 rfl (v := .int (iI rc)) rfl (pc' := 20) rfl ?_
      refine T_zicmp_ge xr_10_20 (t := 56) (pc' := 23) rfl rfl (fun c281 => ?_) (fun c281 => ?_)
      · skip
        have c281 : rc ≤ i := c281
        refine T_vret xr_10_56 xf_10.2.2 ?_
        refine hQ _ _ ?_
        have el : l1 = X_tf rc lo a b := by
          funext r
          unfold X_tf
          split
          · exact hlt r (by omega) (by omega)
          · exact hge r (by omega)
        subst el
        have h282 := (hF278.1 (B + 1) (by omega)).trans (hb1)
        have h283 := (hF278.1 (B + 3) (by omega)).trans (hb3)
        have h284 := (hF278.1 (B + 4) (by omega)).trans (hb4)
        have h285 := (hF278.1 (B + 5) (by omega)).trans (hb5)
        exact ⟨rfl, ⟨h280, h282, hl1, h283, h284, ⟨f, h285, hf⟩, ⟨by omega, by omega⟩, ⟨by omega, by omega⟩, ⟨by omega, by omega⟩⟩, (X_Fr.rf).tr (X_Fr.mono ⟨hF278.1, hF278.2⟩ (fun q hq => (by omega)))⟩
      · skip
        have c281 : ¬ (rc ≤ i) := c281
        refine T_p xr_10_23 xn_10 (pc' := 25) (ls' := [(4, .int (iI i)), (3, .int (iI ((iI (lo b) ||| iI ((iI 1 <<< (iI b &&& 31)).toInt)).toInt))), (0, .ref B), (1, .int (iI a)), (2, .int (iI b))]) (st' := [.int (iI i)]) rfl ?_
        refine T_p xr_10_25 xn_10 (pc' := 26) (ls' := [(4, .int (iI i)), (3, .int (iI ((iI (lo b) ||| iI ((iI 1 <<< (iI b &&& 31)).toInt)).toInt))), (0, .ref B), (1, .int (iI a)), (2, .int (iI b))]) (st' := [.int (iI a), .int (iI i)]) rfl ?_
        refine T_zicmp_eq xr_10_26 (t := 39) (pc' := 29) rfl rfl (fun c286 => ?_) (fun c286 => ?_)
        · skip
          have c286 : i = a := c286
          refine T_p xr_10_39 xn_10 (pc' := 40) (ls' := [(4, .int (iI i)), (3, .int (iI ((iI (lo b) ||| iI ((iI 1 <<< (iI b &&& 31)).toInt)).toInt))), (0, .ref B), (1, .int (iI a)), (2, .int (iI b))]) (st' := [.ref B]) rfl ?_
          refine T_get xr_10_40 h280 rfl (v := .ref (B + 2)) rfl (pc' := 43) rfl ?_
          refine T_p xr_10_43 xn_10 (pc' := 45) (ls' := [(4, .int (iI i)), (3, .int (iI ((iI (lo b) ||| iI ((iI 1 <<< (iI b &&& 31)).toInt)).toInt))), (0, .ref B), (1, .int (iI a)), (2, .int (iI b))]) (st' := [.int (iI i), .ref (B + 2)]) rfl ?_
          refine T_p xr_10_45 xn_10 (pc' := 46) (ls' := [(4, .int (iI i)), (3, .int (iI ((iI (lo b) ||| iI ((iI 1 <<< (iI b &&& 31)).toInt)).toInt))), (0, .ref B), (1, .int (iI a)), (2, .int (iI b))]) (st' := [.int (iI i), .ref (B + 2), .int (iI i), .ref (B + 2)]) rfl ?_
          refine T_ziald xr_10_46 hl1 (pc' := 47) rfl ?_
          refine T_p xr_10_47 xn_10 (pc' := 48) (ls' := [(4, .int (iI i)), (3, .int (iI ((iI (lo b) ||| iI ((iI 1 <<< (iI b &&& 31)).toInt)).toInt))), (0, .ref B), (1, .int (iI a)), (2, .int (iI b))]) (st' := [.int (iI ((iI (lo b) ||| iI ((iI 1 <<< (iI b &&& 31)).toInt)).toInt)), .int (iI (l1 i)), .int (iI i), .ref (B + 2)]) rfl ?_
          refine T_zop xr_10_48 (pc' := 49) rfl (z := (iI (l1 i) ||| iI ((iI (lo b) ||| iI ((iI 1 <<< (iI b &&& 31)).toInt)).toInt)).toInt) (iI_of _) ?_
          refine T_ziast xr_10_49 hl1 (pc' := 50) rfl (fun S287 h288 n289 e290 => ?_)
          refine T_ziinc xr_10_50 xn_10 (a := i) (z := i + 1) rfl (Nat.le_of_ble_eq_true rfl) (by omega) (ls' := [(4, .int (iI (i + 1))), (3, .int (iI ((iI (lo b) ||| iI ((iI 1 <<< (iI b &&& 31)).toInt)).toInt))), (0, .ref B), (1, .int (iI a)), (2, .int (iI b))]) rfl (pc' := 53) rfl ?_
          refine T_p xr_10_53 xn_10 (pc' := 14) (ls' := [(4, .int (iI (i + 1))), (3, .int (iI ((iI (lo b) ||| iI ((iI 1 <<< (iI b &&& 31)).toInt)).toInt))), (0, .ref B), (1, .int (iI a)), (2, .int (iI b))]) (st' := []) rfl ?_
          exact ih275 S287 (i + 1) (X_ug l1 i ((iI (l1 i) ||| iI ((iI (lo b) ||| iI ((iI 1 <<< (iI b &&& 31)).toInt)).toInt)).toInt)) h288 (hF278.tr ((X_Fr.rf).tr (X_Fr.of n289 e290 (by omega)))) (by omega) (fun k h1 h2 => by
                by_cases hk : k = i
                · subst hk
                  rw [X_ug_s, X_ti_t (by first | exact Or.inl (by omega) | (rw [← hge k (Or.inl (by omega))]; exact Or.inr (by assumption))), hge k (Or.inl (by omega))]; rfl
                · rw [X_ug_n _ _ hk]
                  exact hlt k h1 (by omega)) (fun k h1 => by
                rw [X_ug_n _ _ (by omega)]
                exact hge k (by omega)) (by omega)
        · skip
          have c286 : ¬ (i = a) := c286
          refine T_p xr_10_29 xn_10 (pc' := 30) (ls' := [(4, .int (iI i)), (3, .int (iI ((iI (lo b) ||| iI ((iI 1 <<< (iI b &&& 31)).toInt)).toInt))), (0, .ref B), (1, .int (iI a)), (2, .int (iI b))]) (st' := [.ref B]) rfl ?_
          refine T_p xr_10_30 xn_10 (pc' := 32) (ls' := [(4, .int (iI i)), (3, .int (iI ((iI (lo b) ||| iI ((iI 1 <<< (iI b &&& 31)).toInt)).toInt))), (0, .ref B), (1, .int (iI a)), (2, .int (iI b))]) (st' := [.int (iI i), .ref B]) rfl ?_
          refine T_p xr_10_32 xn_10 (pc' := 33) (ls' := [(4, .int (iI i)), (3, .int (iI ((iI (lo b) ||| iI ((iI 1 <<< (iI b &&& 31)).toInt)).toInt))), (0, .ref B), (1, .int (iI a)), (2, .int (iI b))]) (st' := [.int (iI a), .int (iI i), .ref B]) rfl ?_
          refine T_cv (S := S279) (q := B) xr_10_33 xf_11.1 xf_11.2.1 xn_11 (as := [.int (iI i), .int (iI a)]) (r := []) rfl h280 (Nat.le_of_ble_eq_true rfl) (Nat.le_of_ble_eq_true rfl) (pc' := 36) rfl (ls' := [(0, .ref B), (1, .int (iI i)), (2, .int (iI a))]) rfl ?_
          have h291 := (hF278.1 (B + 1) (by omega)).trans (hb1)
          have h292 := (hF278.1 (B + 3) (by omega)).trans (hb3)
          have h293 := (hF278.1 (B + 4) (by omega)).trans (hb4)
          have h294 := (hF278.1 (B + 5) (by omega)).trans (hb5)
          refine T_mono (c_isTighter sc S279 B rc kc wc rn l1 kn ab i a ⟨h280, h291, hl1, h292, h293, ⟨f, h294, hf⟩, ⟨by omega, by omega⟩, ⟨by omega, by omega⟩, ⟨by omega, by omega⟩⟩ (by omega)) (fun v296 S297 h295 => ?_)
          obtain ⟨h298, h299⟩ := h295
          rw [h298, h299]
          show X_T sc 10 (36, [(4, .int (iI i)), (3, .int (iI ((iI (lo b) ||| iI ((iI 1 <<< (iI b &&& 31)).toInt)).toInt))), (0, .ref B), (1, .int (iI a)), (2, .int (iI b))], [.int (iI (bI (X_bt (l1 i) a)))], S279) _
          refine T_bif_eq xr_10_36 (t := 50) (pc' := 39) rfl rfl (fun c300 => ?_) (fun c300 => ?_)
          · skip
            have c300 : ¬ (X_bt (l1 i) a) := c300
            refine T_ziinc xr_10_50 xn_10 (a := i) (z := i + 1) rfl (Nat.le_of_ble_eq_true rfl) (by omega) (ls' := [(4, .int (iI (i + 1))), (3, .int (iI ((iI (lo b) ||| iI ((iI 1 <<< (iI b &&& 31)).toInt)).toInt))), (0, .ref B), (1, .int (iI a)), (2, .int (iI b))]) rfl (pc' := 53) rfl ?_
            refine T_p xr_10_53 xn_10 (pc' := 14) (ls' := [(4, .int (iI (i + 1))), (3, .int (iI ((iI (lo b) ||| iI ((iI 1 <<< (iI b &&& 31)).toInt)).toInt))), (0, .ref B), (1, .int (iI a)), (2, .int (iI b))]) (st' := []) rfl ?_
            exact ih275 S279 (i + 1) l1 hl1 (hF278.tr (X_Fr.rf)) (by omega) (fun k h1 h2 => by
                  by_cases hk : k = i
                  · subst hk
                    rw [hge k (Or.inl (by omega)), X_ti_f (by rintro (h | h) <;> first | omega | (rw [← hge k (Or.inl (by omega))] at h; exact absurd h (by assumption)))]
                  · exact hlt k h1 (by omega)) (fun k h1 => hge k (by omega)) (by omega)
          · skip
            have c300 : (X_bt (l1 i) a) := c300
            refine T_p xr_10_39 xn_10 (pc' := 40) (ls' := [(4, .int (iI i)), (3, .int (iI ((iI (lo b) ||| iI ((iI 1 <<< (iI b &&& 31)).toInt)).toInt))), (0, .ref B), (1, .int (iI a)), (2, .int (iI b))]) (st' := [.ref B]) rfl ?_
            refine T_get xr_10_40 h280 rfl (v := .ref (B + 2)) rfl (pc' := 43) rfl ?_
            refine T_p xr_10_43 xn_10 (pc' := 45) (ls' := [(4, .int (iI i)), (3, .int (iI ((iI (lo b) ||| iI ((iI 1 <<< (iI b &&& 31)).toInt)).toInt))), (0, .ref B), (1, .int (iI a)), (2, .int (iI b))]) (st' := [.int (iI i), .ref (B + 2)]) rfl ?_
            refine T_p xr_10_45 xn_10 (pc' := 46) (ls' := [(4, .int (iI i)), (3, .int (iI ((iI (lo b) ||| iI ((iI 1 <<< (iI b &&& 31)).toInt)).toInt))), (0, .ref B), (1, .int (iI a)), (2, .int (iI b))]) (st' := [.int (iI i), .ref (B + 2), .int (iI i), .ref (B + 2)]) rfl ?_
            refine T_ziald xr_10_46 hl1 (pc' := 47) rfl ?_
            refine T_p xr_10_47 xn_10 (pc' := 48) (ls' := [(4, .int (iI i)), (3, .int (iI ((iI (lo b) ||| iI ((iI 1 <<< (iI b &&& 31)).toInt)).toInt))), (0, .ref B), (1, .int (iI a)), (2, .int (iI b))]) (st' := [.int (iI ((iI (lo b) ||| iI ((iI 1 <<< (iI b &&& 31)).toInt)).toInt)), .int (iI (l1 i)), .int (iI i), .ref (B + 2)]) rfl ?_
            refine T_zop xr_10_48 (pc' := 49) rfl (z := (iI (l1 i) ||| iI ((iI (lo b) ||| iI ((iI 1 <<< (iI b &&& 31)).toInt)).toInt)).toInt) (iI_of _) ?_
            refine T_ziast xr_10_49 hl1 (pc' := 50) rfl (fun S301 h302 n303 e304 => ?_)
            refine T_ziinc xr_10_50 xn_10 (a := i) (z := i + 1) rfl (Nat.le_of_ble_eq_true rfl) (by omega) (ls' := [(4, .int (iI (i + 1))), (3, .int (iI ((iI (lo b) ||| iI ((iI 1 <<< (iI b &&& 31)).toInt)).toInt))), (0, .ref B), (1, .int (iI a)), (2, .int (iI b))]) rfl (pc' := 53) rfl ?_
            refine T_p xr_10_53 xn_10 (pc' := 14) (ls' := [(4, .int (iI (i + 1))), (3, .int (iI ((iI (lo b) ||| iI ((iI 1 <<< (iI b &&& 31)).toInt)).toInt))), (0, .ref B), (1, .int (iI a)), (2, .int (iI b))]) (st' := []) rfl ?_
            exact ih275 S301 (i + 1) (X_ug l1 i ((iI (l1 i) ||| iI ((iI (lo b) ||| iI ((iI 1 <<< (iI b &&& 31)).toInt)).toInt)).toInt)) h302 (hF278.tr ((X_Fr.rf).tr (X_Fr.of n303 e304 (by omega)))) (by omega) (fun k h1 h2 => by
                  by_cases hk : k = i
                  · subst hk
                    rw [X_ug_s, X_ti_t (by first | exact Or.inl (by omega) | (rw [← hge k (Or.inl (by omega))]; exact Or.inr (by assumption))), hge k (Or.inl (by omega))]; rfl
                  · rw [X_ug_n _ _ hk]
                    exact hlt k h1 (by omega)) (fun k h1 => by
                  rw [X_ug_n _ _ (by omega)]
                  exact hge k (by omega)) (by omega)
  exact L274 (rc + 1).toNat S 0 lo hb2 ((X_Fr.rf)) (by omega) (fun k h1 h2 => (show False by omega).elim) (fun k h1 => rfl) (by omega)
theorem c_kindsUnder (sc : X_Sc) (S : X_S) (B : Nat) (rc kc wc : Int) (rn : Int → Int64) (lo : Int → Int) (kn : Int → Int64) (ab : Int → Int) (u : Int) (hb : C_bk S B rc kc wc rn lo kn ab)  : X_T sc 14 (0, [(0, .ref B), (1, .int (iI u))], [], S) (fun v S' => ∃ b, v = some (.int (iI b)) ∧ (∀ k, 0 ≤ k → k < 32 → (X_bt b k ↔ k < kc ∧ X_bt (ab k) u)) ∧ S' = S) := by
  obtain ⟨hb0, hb1, hb2, hb3, hb4, ⟨f, hb5, hf⟩, ⟨hrc, hrcb⟩, ⟨hkc, hkcb⟩, ⟨hwc, hwcb⟩⟩ := id hb
  refine X_QI (fun Q hQ => ?_)
  refine T_p xr_14_0 xn_14 (pc' := 1) (ls' := [(0, .ref B), (1, .int (iI u))]) (st' := [.int (iI 0)]) rfl ?_
  refine T_p xr_14_1 xn_14 (pc' := 2) (ls' := [(2, .int (iI 0)), (0, .ref B), (1, .int (iI u))]) (st' := []) rfl ?_
  refine T_p xr_14_2 xn_14 (pc' := 3) (ls' := [(2, .int (iI 0)), (0, .ref B), (1, .int (iI u))]) (st' := [.int (iI 0)]) rfl ?_
  refine T_p xr_14_3 xn_14 (pc' := 4) (ls' := [(3, .int (iI 0)), (2, .int (iI 0)), (0, .ref B), (1, .int (iI u))]) (st' := []) rfl ?_
  have L305 : ∀ (m307 : Nat) (i : Int) (b : Int) (hi : 0 ≤ i ∧ i ≤ kc) (hbt : ∀ k, 0 ≤ k → k < 32 → (X_bt b k ↔ k < i ∧ X_bt (ab k) u)) (hm308 : kc - i < m307), X_T sc 14 (4, [(3, .int (iI i)), (2, .int (iI b)), (0, .ref B), (1, .int (iI u))], [], S) Q := by
    intro m307
    induction m307 with
    | zero =>
      intro i b hi hbt hm308
      exact (show False by omega).elim
    | succ m307 ih306 =>
      intro i b hi hbt hm308
      refine T_p xr_14_4 xn_14 (pc' := 5) (ls' := [(3, .int (iI i)), (2, .int (iI b)), (0, .ref B), (1, .int (iI u))]) (st' := [.int (iI i)]) rfl ?_
      refine T_p xr_14_5 xn_14 (pc' := 6) (ls' := [(3, .int (iI i)), (2, .int (iI b)), (0, .ref B), (1, .int (iI u))]) (st' := [.ref B, .int (iI i)]) rfl ?_
      refine T_get xr_14_6 hb0 rfl (v := .int (iI kc)) rfl (pc' := 9) rfl ?_
      refine T_zicmp_ge xr_14_9 (t := 33) (pc' := 12) rfl rfl (fun c310 => ?_) (fun c310 => ?_)
      · skip
        have c310 : kc ≤ i := c310
        refine T_p xr_14_33 xn_14 (pc' := 34) (ls' := [(3, .int (iI i)), (2, .int (iI b)), (0, .ref B), (1, .int (iI u))]) (st' := [.int (iI b)]) rfl ?_
        refine T_iret xr_14_34 xf_14.2.2 rfl ?_
        refine hQ _ _ ?_
        exact ⟨b, rfl, fun k h1 h2 => by rw [hbt k h1 h2, show i = kc by omega], rfl⟩
      · skip
        have c310 : ¬ (kc ≤ i) := c310
        refine T_p xr_14_12 xn_14 (pc' := 13) (ls' := [(3, .int (iI i)), (2, .int (iI b)), (0, .ref B), (1, .int (iI u))]) (st' := [.ref B]) rfl ?_
        refine T_p xr_14_13 xn_14 (pc' := 14) (ls' := [(3, .int (iI i)), (2, .int (iI b)), (0, .ref B), (1, .int (iI u))]) (st' := [.int (iI i), .ref B]) rfl ?_
        refine T_p xr_14_14 xn_14 (pc' := 15) (ls' := [(3, .int (iI i)), (2, .int (iI b)), (0, .ref B), (1, .int (iI u))]) (st' := [.int (iI u), .int (iI i), .ref B]) rfl ?_
        refine T_cv (S := S) (q := B) xr_14_15 xf_12.1 xf_12.2.1 xn_12 (as := [.int (iI i), .int (iI u)]) (r := []) rfl hb0 (Nat.le_of_ble_eq_true rfl) (Nat.le_of_ble_eq_true rfl) (pc' := 18) rfl (ls' := [(0, .ref B), (1, .int (iI i)), (2, .int (iI u))]) rfl ?_
        refine T_mono (c_isUnder sc S B rc kc wc rn lo kn ab i u ⟨hb0, hb1, hb2, hb3, hb4, ⟨f, hb5, hf⟩, ⟨by omega, by omega⟩, ⟨by omega, by omega⟩, ⟨by omega, by omega⟩⟩ (by omega)) (fun v312 S313 h311 => ?_)
        obtain ⟨h314, h315⟩ := h311
        rw [h314, h315]
        show X_T sc 14 (18, [(3, .int (iI i)), (2, .int (iI b)), (0, .ref B), (1, .int (iI u))], [.int (iI (bI (X_bt (ab i) u)))], S) _
        refine T_bif_eq xr_14_18 (t := 27) (pc' := 21) rfl rfl (fun c316 => ?_) (fun c316 => ?_)
        · skip
          have c316 : ¬ (X_bt (ab i) u) := c316
          refine T_ziinc xr_14_27 xn_14 (a := i) (z := i + 1) rfl (Nat.le_of_ble_eq_true rfl) (by omega) (ls' := [(3, .int (iI (i + 1))), (2, .int (iI b)), (0, .ref B), (1, .int (iI u))]) rfl (pc' := 30) rfl ?_
          refine T_p xr_14_30 xn_14 (pc' := 4) (ls' := [(3, .int (iI (i + 1))), (2, .int (iI b)), (0, .ref B), (1, .int (iI u))]) (st' := []) rfl ?_
          exact ih306 (i + 1) b  (by omega) (fun k h1 h2 => by
                rw [hbt k h1 h2]
                constructor
                · rintro ⟨g1, g2⟩; exact ⟨by omega, g2⟩
                · rintro ⟨g1, g2⟩
                  by_cases hk : k = i
                  · subst hk; exact absurd g2 (by assumption)
                  · exact ⟨by omega, g2⟩) (by omega)
        · skip
          have c316 : (X_bt (ab i) u) := c316
          refine T_p xr_14_21 xn_14 (pc' := 22) (ls' := [(3, .int (iI i)), (2, .int (iI b)), (0, .ref B), (1, .int (iI u))]) (st' := [.int (iI b)]) rfl ?_
          refine T_p xr_14_22 xn_14 (pc' := 23) (ls' := [(3, .int (iI i)), (2, .int (iI b)), (0, .ref B), (1, .int (iI u))]) (st' := [.int (iI 1), .int (iI b)]) rfl ?_
          refine T_p xr_14_23 xn_14 (pc' := 24) (ls' := [(3, .int (iI i)), (2, .int (iI b)), (0, .ref B), (1, .int (iI u))]) (st' := [.int (iI i), .int (iI 1), .int (iI b)]) rfl ?_
          refine T_zop xr_14_24 (pc' := 25) rfl (z := (iI 1 <<< (iI i &&& 31)).toInt) (iI_of _) ?_
          refine T_zop xr_14_25 (pc' := 26) rfl (z := (iI b ||| iI ((iI 1 <<< (iI i &&& 31)).toInt)).toInt) (iI_of _) ?_
          refine T_p xr_14_26 xn_14 (pc' := 27) (ls' := [(2, .int (iI ((iI b ||| iI ((iI 1 <<< (iI i &&& 31)).toInt)).toInt))), (3, .int (iI i)), (0, .ref B), (1, .int (iI u))]) (st' := []) rfl ?_
          refine T_ziinc xr_14_27 xn_14 (a := i) (z := i + 1) rfl (Nat.le_of_ble_eq_true rfl) (by omega) (ls' := [(3, .int (iI (i + 1))), (2, .int (iI ((iI b ||| iI ((iI 1 <<< (iI i &&& 31)).toInt)).toInt))), (0, .ref B), (1, .int (iI u))]) rfl (pc' := 30) rfl ?_
          refine T_p xr_14_30 xn_14 (pc' := 4) (ls' := [(3, .int (iI (i + 1))), (2, .int (iI ((iI b ||| iI ((iI 1 <<< (iI i &&& 31)).toInt)).toInt))), (0, .ref B), (1, .int (iI u))]) (st' := []) rfl ?_
          exact ih306 (i + 1) ((iI b ||| iI ((iI 1 <<< (iI i &&& 31)).toInt)).toInt)  (by omega) (fun k h1 h2 => by
                show X_bt (X_bO b (X_bS i)) k ↔ _
                rw [X_bt_or _ _ _ ⟨h1, h2⟩, hbt k h1 h2, X_bt_sh _ _ (by omega) ⟨h1, h2⟩]
                constructor
                · rintro (⟨g1, g2⟩ | g1)
                  · exact ⟨by omega, g2⟩
                  · subst g1; exact ⟨by omega, by assumption⟩
                · rintro ⟨g1, g2⟩
                  by_cases hk : k = i
                  · exact Or.inr hk
                  · exact Or.inl ⟨by omega, g2⟩) (by omega)
  exact L305 (kc + 1).toNat 0 0  (by omega) (fun k h1 h2 => ⟨fun h => absurd h (X_bt_0 k ⟨h1, h2⟩), fun h => absurd h.1 (by omega)⟩) (by omega)
theorem c_wordsOfKinds (sc : X_Sc) (S : X_S) (B : Nat) (rc kc wc : Int) (rn : Int → Int64) (lo : Int → Int) (kn : Int → Int64) (ab : Int → Int) (D : Int → Nat → Int → Int) (W : Int → Int → Int64) (ks : Int) (hb : C_bk S B rc kc wc rn lo kn ab) (hs : C_ws S B D W)  : X_T sc 15 (0, [(0, .ref B), (1, .int (iI ks))], [], S) (fun v S' => ∃ b, v = some (.int (iI b)) ∧ (∀ k, 0 ≤ k → k < 32 → (X_bt b k ↔ k < wc ∧ X_bt ks (D k 2 0))) ∧ S' = S) := by
  obtain ⟨hb0, hb1, hb2, hb3, hb4, ⟨f, hb5, hf⟩, ⟨hrc, hrcb⟩, ⟨hkc, hkcb⟩, ⟨hwc, hwcb⟩⟩ := id hb
  refine X_QI (fun Q hQ => ?_)
  refine T_p xr_15_0 xn_15 (pc' := 1) (ls' := [(0, .ref B), (1, .int (iI ks))]) (st' := [.int (iI 0)]) rfl ?_
  refine T_p xr_15_1 xn_15 (pc' := 2) (ls' := [(2, .int (iI 0)), (0, .ref B), (1, .int (iI ks))]) (st' := []) rfl ?_
  refine T_p xr_15_2 xn_15 (pc' := 3) (ls' := [(2, .int (iI 0)), (0, .ref B), (1, .int (iI ks))]) (st' := [.int (iI 0)]) rfl ?_
  refine T_p xr_15_3 xn_15 (pc' := 4) (ls' := [(3, .int (iI 0)), (2, .int (iI 0)), (0, .ref B), (1, .int (iI ks))]) (st' := []) rfl ?_
  have L317 : ∀ (m319 : Nat) (i : Int) (b : Int) (hi : 0 ≤ i ∧ i ≤ wc) (hbt : ∀ k, 0 ≤ k → k < 32 → (X_bt b k ↔ k < i ∧ X_bt ks (D k 2 0))) (hm320 : wc - i < m319), X_T sc 15 (4, [(3, .int (iI i)), (2, .int (iI b)), (0, .ref B), (1, .int (iI ks))], [], S) Q := by
    intro m319
    induction m319 with
    | zero =>
      intro i b hi hbt hm320
      exact (show False by omega).elim
    | succ m319 ih318 =>
      intro i b hi hbt hm320
      refine T_p xr_15_4 xn_15 (pc' := 5) (ls' := [(3, .int (iI i)), (2, .int (iI b)), (0, .ref B), (1, .int (iI ks))]) (st' := [.int (iI i)]) rfl ?_
      refine T_p xr_15_5 xn_15 (pc' := 6) (ls' := [(3, .int (iI i)), (2, .int (iI b)), (0, .ref B), (1, .int (iI ks))]) (st' := [.ref B, .int (iI i)]) rfl ?_
      refine T_get xr_15_6 hb0 rfl (v := .int (iI wc)) rfl (pc' := 9) rfl ?_
      refine T_zicmp_ge xr_15_9 (t := 40) (pc' := 12) rfl rfl (fun c322 => ?_) (fun c322 => ?_)
      · skip
        have c322 : wc ≤ i := c322
        refine T_p xr_15_40 xn_15 (pc' := 41) (ls' := [(3, .int (iI i)), (2, .int (iI b)), (0, .ref B), (1, .int (iI ks))]) (st' := [.int (iI b)]) rfl ?_
        refine T_iret xr_15_41 xf_15.2.2 rfl ?_
        refine hQ _ _ ?_
        exact ⟨b, rfl, fun k h1 h2 => by rw [hbt k h1 h2, show i = wc by omega], rfl⟩
      · skip
        have c322 : ¬ (wc ≤ i) := c322
        refine T_p xr_15_12 xn_15 (pc' := 13) (ls' := [(3, .int (iI i)), (2, .int (iI b)), (0, .ref B), (1, .int (iI ks))]) (st' := [.int (iI ks)]) rfl ?_
        refine T_p xr_15_13 xn_15 (pc' := 14) (ls' := [(3, .int (iI i)), (2, .int (iI b)), (0, .ref B), (1, .int (iI ks))]) (st' := [.ref B, .int (iI ks)]) rfl ?_
        refine T_get xr_15_14 hb0 rfl (v := .ref (B + 5)) rfl (pc' := 17) rfl ?_
        refine T_p xr_15_17 xn_15 (pc' := 18) (ls' := [(3, .int (iI i)), (2, .int (iI b)), (0, .ref B), (1, .int (iI ks))]) (st' := [.int (iI i), .ref (B + 5), .int (iI ks)]) rfl ?_
        have hw323 := hs i (by omega) (by omega)
        obtain ⟨a324, ha325⟩ : ∃ z : Nat, z = B + 6 + 8 * (i : Int).toNat := ⟨_, rfl⟩
        rw [← ha325] at hw323
        obtain ⟨⟨_, _⟩, ⟨_, _⟩, ⟨_, _⟩, ⟨_, _⟩, ⟨_, _⟩, ⟨_, _⟩, ⟨_, _⟩, ⟨_, _⟩⟩ := id hw323.2
        refine T_zaald xr_15_18 hb5 (w := a324) (by rw [ha325]; exact hf _ (by omega)) (pc' := 19) rfl ?_
        refine T_get xr_15_19 hw323.1.1 rfl (v := .int (iI (D i 2 0))) rfl (pc' := 22) rfl ?_
        refine T_cs xr_15_22 (by decide) xf_131.1 xn_131 (as := [.int (iI ks), .int (iI (D i 2 0))]) (r := []) rfl (Nat.le_of_ble_eq_true rfl) (Nat.le_of_ble_eq_true rfl) (pc' := 25) rfl (ls' := [(0, .int (iI ks)), (1, .int (iI (D i 2 0)))]) rfl ?_
        refine T_mono (c_hasBit sc S ks (D i 2 0)) (fun v327 S328 h326 => ?_)
        obtain ⟨h329, h330⟩ := h326
        rw [h329, h330]
        show X_T sc 15 (25, [(3, .int (iI i)), (2, .int (iI b)), (0, .ref B), (1, .int (iI ks))], [.int (iI (bI (X_bt ks (D i 2 0))))], S) _
        refine T_bif_eq xr_15_25 (t := 34) (pc' := 28) rfl rfl (fun c331 => ?_) (fun c331 => ?_)
        · skip
          have c331 : ¬ (X_bt ks (D i 2 0)) := c331
          refine T_ziinc xr_15_34 xn_15 (a := i) (z := i + 1) rfl (Nat.le_of_ble_eq_true rfl) (by omega) (ls' := [(3, .int (iI (i + 1))), (2, .int (iI b)), (0, .ref B), (1, .int (iI ks))]) rfl (pc' := 37) rfl ?_
          refine T_p xr_15_37 xn_15 (pc' := 4) (ls' := [(3, .int (iI (i + 1))), (2, .int (iI b)), (0, .ref B), (1, .int (iI ks))]) (st' := []) rfl ?_
          exact ih318 (i + 1) b  (by omega) (fun k h1 h2 => by
                rw [hbt k h1 h2]
                constructor
                · rintro ⟨g1, g2⟩; exact ⟨by omega, g2⟩
                · rintro ⟨g1, g2⟩
                  by_cases hk : k = i
                  · subst hk; exact absurd g2 (by assumption)
                  · exact ⟨by omega, g2⟩) (by omega)
        · skip
          have c331 : (X_bt ks (D i 2 0)) := c331
          refine T_p xr_15_28 xn_15 (pc' := 29) (ls' := [(3, .int (iI i)), (2, .int (iI b)), (0, .ref B), (1, .int (iI ks))]) (st' := [.int (iI b)]) rfl ?_
          refine T_p xr_15_29 xn_15 (pc' := 30) (ls' := [(3, .int (iI i)), (2, .int (iI b)), (0, .ref B), (1, .int (iI ks))]) (st' := [.int (iI 1), .int (iI b)]) rfl ?_
          refine T_p xr_15_30 xn_15 (pc' := 31) (ls' := [(3, .int (iI i)), (2, .int (iI b)), (0, .ref B), (1, .int (iI ks))]) (st' := [.int (iI i), .int (iI 1), .int (iI b)]) rfl ?_
          refine T_zop xr_15_31 (pc' := 32) rfl (z := (iI 1 <<< (iI i &&& 31)).toInt) (iI_of _) ?_
          refine T_zop xr_15_32 (pc' := 33) rfl (z := (iI b ||| iI ((iI 1 <<< (iI i &&& 31)).toInt)).toInt) (iI_of _) ?_
          refine T_p xr_15_33 xn_15 (pc' := 34) (ls' := [(2, .int (iI ((iI b ||| iI ((iI 1 <<< (iI i &&& 31)).toInt)).toInt))), (3, .int (iI i)), (0, .ref B), (1, .int (iI ks))]) (st' := []) rfl ?_
          refine T_ziinc xr_15_34 xn_15 (a := i) (z := i + 1) rfl (Nat.le_of_ble_eq_true rfl) (by omega) (ls' := [(3, .int (iI (i + 1))), (2, .int (iI ((iI b ||| iI ((iI 1 <<< (iI i &&& 31)).toInt)).toInt))), (0, .ref B), (1, .int (iI ks))]) rfl (pc' := 37) rfl ?_
          refine T_p xr_15_37 xn_15 (pc' := 4) (ls' := [(3, .int (iI (i + 1))), (2, .int (iI ((iI b ||| iI ((iI 1 <<< (iI i &&& 31)).toInt)).toInt))), (0, .ref B), (1, .int (iI ks))]) (st' := []) rfl ?_
          exact ih318 (i + 1) ((iI b ||| iI ((iI 1 <<< (iI i &&& 31)).toInt)).toInt)  (by omega) (fun k h1 h2 => by
                show X_bt (X_bO b (X_bS i)) k ↔ _
                rw [X_bt_or _ _ _ ⟨h1, h2⟩, hbt k h1 h2, X_bt_sh _ _ (by omega) ⟨h1, h2⟩]
                constructor
                · rintro (⟨g1, g2⟩ | g1)
                  · exact ⟨by omega, g2⟩
                  · subst g1; exact ⟨by omega, by assumption⟩
                · rintro ⟨g1, g2⟩
                  by_cases hk : k = i
                  · exact Or.inr hk
                  · exact Or.inl ⟨by omega, g2⟩) (by omega)
  exact L317 (wc + 1).toNat 0 0  (by omega) (fun k h1 h2 => ⟨fun h => absurd h (X_bt_0 k ⟨h1, h2⟩), fun h => absurd h.1 (by omega)⟩) (by omega)
theorem c_hasPartTwice (sc : X_Sc) (S : X_S) (a : Nat) (d : Nat → Int → Int) (q : Int → Int64) (hw : C_wd S a d q) (hr : X_wr d) : X_T sc 19 (0, [(0, .ref a)], [], S) (fun v S' => v = some (.int (iI (bI (X_h2 d q)))) ∧ S' = S) := by
  obtain ⟨⟨hr0, hr0b⟩, ⟨hr1, hr1b⟩, ⟨hr2, hr2b⟩, ⟨hr3, hr3b⟩, ⟨hr4, hr4b⟩, ⟨hr5, hr5b⟩, ⟨hr6, hr6b⟩, ⟨hr7, hr7b⟩⟩ := id hr
  refine X_QI (fun Q hQ => ?_)
  refine T_p xr_19_0 xn_19 (pc' := 1) (ls' := [(0, .ref a)]) (st' := [.int (iI 0)]) rfl ?_
  refine T_p xr_19_1 xn_19 (pc' := 2) (ls' := [(1, .int (iI 0)), (0, .ref a)]) (st' := []) rfl ?_
  have L332 : ∀ (m334 : Nat) (e : Int) (he : 0 ≤ e ∧ e ≤ d 3 0) (hno : ∀ e1 k1, 0 ≤ e1 → e1 < e → e1 < k1 → k1 < d 3 0 → ¬ X_hl d q e1 → ¬ q e1 = q k1) (hm335 : d 3 0 - e < m334), X_T sc 19 (2, [(1, .int (iI e)), (0, .ref a)], [], S) Q := by
    intro m334
    induction m334 with
    | zero =>
      intro e he hno hm335
      exact (show False by omega).elim
    | succ m334 ih333 =>
      intro e he hno hm335
      refine T_p xr_19_2 xn_19 (pc' := 3) (ls' := [(1, .int (iI e)), (0, .ref a)]) (st' := [.int (iI e)]) rfl ?_
      refine T_p xr_19_3 xn_19 (pc' := 4) (ls' := [(1, .int (iI e)), (0, .ref a)]) (st' := [.ref a, .int (iI e)]) rfl ?_
      refine T_get xr_19_4 hw.1 rfl (v := .int (iI (d 3 0))) rfl (pc' := 7) rfl ?_
      refine T_zicmp_ge xr_19_7 (t := 60) (pc' := 10) rfl rfl (fun c337 => ?_) (fun c337 => ?_)
      · skip
        have c337 : (d 3 0) ≤ e := c337
        refine T_p xr_19_60 xn_19 (pc' := 61) (ls' := [(1, .int (iI e)), (0, .ref a)]) (st' := [.int (iI 0)]) rfl ?_
        refine T_iret xr_19_61 xf_19.2.2 (by decide) ?_
        refine hQ _ _ ?_
        exact ⟨by rw [bI_f (by rintro ⟨e1, k1, h1, h2, h3, h4, h5⟩; exact hno e1 k1 h1 (by omega) h2 h3 h4 h5)], rfl⟩
      · skip
        have c337 : ¬ ((d 3 0) ≤ e) := c337
        refine T_p xr_19_10 xn_19 (pc' := 11) (ls' := [(1, .int (iI e)), (0, .ref a)]) (st' := [.int (iI e)]) rfl ?_
        refine T_p xr_19_11 xn_19 (pc' := 12) (ls' := [(1, .int (iI e)), (0, .ref a)]) (st' := [.int (iI 1), .int (iI e)]) rfl ?_
        refine T_ziadd xr_19_12 (z := e + 1) rfl (pc' := 13) rfl ?_
        refine T_p xr_19_13 xn_19 (pc' := 14) (ls' := [(2, .int (iI (e + 1))), (1, .int (iI e)), (0, .ref a)]) (st' := []) rfl ?_
        have L338 : ∀ (m340 : Nat) (k : Int) (hk : e + 1 ≤ k ∧ k ≤ d 3 0) (hnk : ∀ k1, e < k1 → k1 < k → ¬ X_hl d q e → ¬ q e = q k1) (hm341 : d 3 0 - k < m340), X_T sc 19 (14, [(2, .int (iI k)), (1, .int (iI e)), (0, .ref a)], [], S) Q := by
          intro m340
          induction m340 with
          | zero =>
            intro k hk hnk hm341
            exact (show False by omega).elim
          | succ m340 ih339 =>
            intro k hk hnk hm341
            refine T_p xr_19_14 xn_19 (pc' := 15) (ls' := [(2, .int (iI k)), (1, .int (iI e)), (0, .ref a)]) (st' := [.int (iI k)]) rfl ?_
            refine T_p xr_19_15 xn_19 (pc' := 16) (ls' := [(2, .int (iI k)), (1, .int (iI e)), (0, .ref a)]) (st' := [.ref a, .int (iI k)]) rfl ?_
            refine T_get xr_19_16 hw.1 rfl (v := .int (iI (d 3 0))) rfl (pc' := 19) rfl ?_
            refine T_zicmp_ge xr_19_19 (t := 54) (pc' := 22) rfl rfl (fun c343 => ?_) (fun c343 => ?_)
            · skip
              have c343 : (d 3 0) ≤ k := c343
              refine T_ziinc xr_19_54 xn_19 (a := e) (z := e + 1) rfl (Nat.le_of_ble_eq_true rfl) (by omega) (ls' := [(1, .int (iI (e + 1))), (2, .int (iI k)), (0, .ref a)]) rfl (pc' := 57) rfl ?_
              refine T_p xr_19_57 xn_19 (pc' := 2) (ls' := [(1, .int (iI (e + 1))), (2, .int (iI k)), (0, .ref a)]) (st' := []) rfl ?_
              refine T_sub (ls := [(1, .int (iI (e + 1))), (0, .ref a)]) ⟨rfl, rfl, trivial⟩ rfl rfl ?_
              exact ih333 (e + 1)  (by omega) (fun e1 k1 h1 h2 h3 h4 h5 => by
                    by_cases hk : e1 = e
                    · subst hk; exact hnk k1 h3 (by omega) h5
                    · exact hno e1 k1 h1 (by omega) h3 h4 h5) (by omega)
            · skip
              have c343 : ¬ ((d 3 0) ≤ k) := c343
              refine T_p xr_19_22 xn_19 (pc' := 23) (ls' := [(2, .int (iI k)), (1, .int (iI e)), (0, .ref a)]) (st' := [.ref a]) rfl ?_
              refine T_p xr_19_23 xn_19 (pc' := 24) (ls' := [(2, .int (iI k)), (1, .int (iI e)), (0, .ref a)]) (st' := [.int (iI e), .ref a]) rfl ?_
              refine T_cv (S := S) (q := a) xr_19_24 xf_100.1 xf_100.2.1 xn_100 (as := [.int (iI e)]) (r := []) rfl hw.1 (Nat.le_of_ble_eq_true rfl) (Nat.le_of_ble_eq_true rfl) (pc' := 27) rfl (ls' := [(0, .ref a), (1, .int (iI e))]) rfl ?_
              refine T_mono (c_isHole sc S a d q e ⟨hw.1, hw.2.1, hw.2.2.1, hw.2.2.2.1, hw.2.2.2.2.1, hw.2.2.2.2.2.1, hw.2.2.2.2.2.2.1, hw.2.2.2.2.2.2.2⟩ hr (by omega)) (fun v345 S346 h344 => ?_)
              obtain ⟨h347, h348⟩ := h344
              rw [h347, h348]
              show X_T sc 19 (27, [(2, .int (iI k)), (1, .int (iI e)), (0, .ref a)], [.int (iI (bI (X_hl d q e)))], S) _
              refine T_bif_ne xr_19_27 (t := 48) (pc' := 30) rfl rfl (fun c349 => ?_) (fun c349 => ?_)
              · skip
                have c349 : (X_hl d q e) := c349
                refine T_ziinc xr_19_48 xn_19 (a := k) (z := k + 1) rfl (Nat.le_of_ble_eq_true rfl) (by omega) (ls' := [(2, .int (iI (k + 1))), (1, .int (iI e)), (0, .ref a)]) rfl (pc' := 51) rfl ?_
                refine T_p xr_19_51 xn_19 (pc' := 14) (ls' := [(2, .int (iI (k + 1))), (1, .int (iI e)), (0, .ref a)]) (st' := []) rfl ?_
                exact ih339 (k + 1)  (by omega) (fun k1 h1 h2 h3 => by
                      by_cases hk : k1 = k
                      · subst hk; first | assumption | exact absurd (by assumption) h3
                      · exact hnk k1 h1 (by omega) h3) (by omega)
              · skip
                have c349 : ¬ (X_hl d q e) := c349
                refine T_p xr_19_30 xn_19 (pc' := 31) (ls' := [(2, .int (iI k)), (1, .int (iI e)), (0, .ref a)]) (st' := [.ref a]) rfl ?_
                refine T_get xr_19_31 hw.1 rfl (v := .ref (a + 1)) rfl (pc' := 34) rfl ?_
                refine T_p xr_19_34 xn_19 (pc' := 35) (ls' := [(2, .int (iI k)), (1, .int (iI e)), (0, .ref a)]) (st' := [.int (iI e), .ref (a + 1)]) rfl ?_
                refine T_zlald xr_19_35 hw.2.1 (pc' := 36) rfl ?_
                refine T_p xr_19_36 xn_19 (pc' := 37) (ls' := [(2, .int (iI k)), (1, .int (iI e)), (0, .ref a)]) (st' := [.ref a, .long (q e)]) rfl ?_
                refine T_get xr_19_37 hw.1 rfl (v := .ref (a + 1)) rfl (pc' := 40) rfl ?_
                refine T_p xr_19_40 xn_19 (pc' := 41) (ls' := [(2, .int (iI k)), (1, .int (iI e)), (0, .ref a)]) (st' := [.int (iI k), .ref (a + 1), .long (q e)]) rfl ?_
                refine T_zlald xr_19_41 hw.2.1 (pc' := 42) rfl ?_
                refine T_lc_ne xr_19_42 xr_19_43 (t := 48) (pc' := 46) rfl rfl (fun c350 => ?_) (fun c350 => ?_)
                · skip
                  have c350 : ¬ (q e) = (q k) := c350
                  refine T_ziinc xr_19_48 xn_19 (a := k) (z := k + 1) rfl (Nat.le_of_ble_eq_true rfl) (by omega) (ls' := [(2, .int (iI (k + 1))), (1, .int (iI e)), (0, .ref a)]) rfl (pc' := 51) rfl ?_
                  refine T_p xr_19_51 xn_19 (pc' := 14) (ls' := [(2, .int (iI (k + 1))), (1, .int (iI e)), (0, .ref a)]) (st' := []) rfl ?_
                  exact ih339 (k + 1)  (by omega) (fun k1 h1 h2 h3 => by
                        by_cases hk : k1 = k
                        · subst hk; first | assumption | exact absurd (by assumption) h3
                        · exact hnk k1 h1 (by omega) h3) (by omega)
                · skip
                  have c350 : ¬ (¬ (q e) = (q k)) := c350
                  refine T_p xr_19_46 xn_19 (pc' := 47) (ls' := [(2, .int (iI k)), (1, .int (iI e)), (0, .ref a)]) (st' := [.int (iI 1)]) rfl ?_
                  refine T_iret xr_19_47 xf_19.2.2 (by decide) ?_
                  refine hQ _ _ ?_
                  exact ⟨by rw [bI_t ⟨e, k, by omega, by omega, by omega, by assumption, by first | assumption | exact Classical.not_not.mp (by assumption)⟩], rfl⟩
        exact L338 (d 3 0 + 1).toNat (e + 1)  (by omega) (fun k1 h1 h2 => (show False by omega).elim) (by omega)
  exact L332 (d 3 0 + 1).toNat 0  (by omega) (fun e1 k1 h1 h2 => (show False by omega).elim) (by omega)
theorem c_shareAPart (sc : X_Sc) (S : X_S) (a : Nat) (d : Nat → Int → Int) (q : Int → Int64) (a2 : Nat) (d2 : Nat → Int → Int) (q2 : Int → Int64) (hw : C_wd S a d q) (hr : X_wr d) (hw2 : C_wd S a2 d2 q2) (hR2 : X_wr d2) : X_T sc 20 (0, [(0, .ref a), (1, .ref a2)], [], S) (fun v S' => v = some (.int (iI (bI (X_sp d q d2 q2)))) ∧ S' = S) := by
  obtain ⟨⟨hr0, hr0b⟩, ⟨hr1, hr1b⟩, ⟨hr2, hr2b⟩, ⟨hr3, hr3b⟩, ⟨hr4, hr4b⟩, ⟨hr5, hr5b⟩, ⟨hr6, hr6b⟩, ⟨hr7, hr7b⟩⟩ := id hr
  refine X_QI (fun Q hQ => ?_)
  refine T_p xr_20_0 xn_20 (pc' := 1) (ls' := [(0, .ref a), (1, .ref a2)]) (st' := [.int (iI 0)]) rfl ?_
  refine T_p xr_20_1 xn_20 (pc' := 2) (ls' := [(2, .int (iI 0)), (0, .ref a), (1, .ref a2)]) (st' := []) rfl ?_
  have L351 : ∀ (m353 : Nat) (e : Int) (he : 0 ≤ e ∧ e ≤ d 3 0) (hno : ∀ e1, 0 ≤ e1 → e1 < e → ¬ X_hl d q e1 → ¬ X_hp d2 q2 (q e1)) (hm354 : d 3 0 - e < m353), X_T sc 20 (2, [(2, .int (iI e)), (0, .ref a), (1, .ref a2)], [], S) Q := by
    intro m353
    induction m353 with
    | zero =>
      intro e he hno hm354
      exact (show False by omega).elim
    | succ m353 ih352 =>
      intro e he hno hm354
      refine T_p xr_20_2 xn_20 (pc' := 3) (ls' := [(2, .int (iI e)), (0, .ref a), (1, .ref a2)]) (st' := [.int (iI e)]) rfl ?_
      refine T_p xr_20_3 xn_20 (pc' := 4) (ls' := [(2, .int (iI e)), (0, .ref a), (1, .ref a2)]) (st' := [.ref a, .int (iI e)]) rfl ?_
      refine T_get xr_20_4 hw.1 rfl (v := .int (iI (d 3 0))) rfl (pc' := 7) rfl ?_
      refine T_zicmp_ge xr_20_7 (t := 39) (pc' := 10) rfl rfl (fun c356 => ?_) (fun c356 => ?_)
      · skip
        have c356 : (d 3 0) ≤ e := c356
        refine T_p xr_20_39 xn_20 (pc' := 40) (ls' := [(2, .int (iI e)), (0, .ref a), (1, .ref a2)]) (st' := [.int (iI 0)]) rfl ?_
        refine T_iret xr_20_40 xf_20.2.2 (by decide) ?_
        refine hQ _ _ ?_
        exact ⟨by rw [bI_f (by rintro ⟨e1, h1, h2, h3, h4⟩; exact hno e1 h1 (by omega) h3 h4)], rfl⟩
      · skip
        have c356 : ¬ ((d 3 0) ≤ e) := c356
        refine T_p xr_20_10 xn_20 (pc' := 11) (ls' := [(2, .int (iI e)), (0, .ref a), (1, .ref a2)]) (st' := [.ref a]) rfl ?_
        refine T_p xr_20_11 xn_20 (pc' := 12) (ls' := [(2, .int (iI e)), (0, .ref a), (1, .ref a2)]) (st' := [.int (iI e), .ref a]) rfl ?_
        refine T_cv (S := S) (q := a) xr_20_12 xf_100.1 xf_100.2.1 xn_100 (as := [.int (iI e)]) (r := []) rfl hw.1 (Nat.le_of_ble_eq_true rfl) (Nat.le_of_ble_eq_true rfl) (pc' := 15) rfl (ls' := [(0, .ref a), (1, .int (iI e))]) rfl ?_
        refine T_mono (c_isHole sc S a d q e ⟨hw.1, hw.2.1, hw.2.2.1, hw.2.2.2.1, hw.2.2.2.2.1, hw.2.2.2.2.2.1, hw.2.2.2.2.2.2.1, hw.2.2.2.2.2.2.2⟩ hr (by omega)) (fun v358 S359 h357 => ?_)
        obtain ⟨h360, h361⟩ := h357
        rw [h360, h361]
        show X_T sc 20 (15, [(2, .int (iI e)), (0, .ref a), (1, .ref a2)], [.int (iI (bI (X_hl d q e)))], S) _
        refine T_bif_ne xr_20_15 (t := 33) (pc' := 18) rfl rfl (fun c362 => ?_) (fun c362 => ?_)
        · skip
          have c362 : (X_hl d q e) := c362
          refine T_ziinc xr_20_33 xn_20 (a := e) (z := e + 1) rfl (Nat.le_of_ble_eq_true rfl) (by omega) (ls' := [(2, .int (iI (e + 1))), (0, .ref a), (1, .ref a2)]) rfl (pc' := 36) rfl ?_
          refine T_p xr_20_36 xn_20 (pc' := 2) (ls' := [(2, .int (iI (e + 1))), (0, .ref a), (1, .ref a2)]) (st' := []) rfl ?_
          exact ih352 (e + 1)  (by omega) (fun e1 h1 h2 h3 => by
                by_cases hk : e1 = e
                · subst hk; first | assumption | exact absurd (by assumption) h3
                · exact hno e1 h1 (by omega) h3) (by omega)
        · skip
          have c362 : ¬ (X_hl d q e) := c362
          refine T_p xr_20_18 xn_20 (pc' := 19) (ls' := [(2, .int (iI e)), (0, .ref a), (1, .ref a2)]) (st' := [.ref a2]) rfl ?_
          refine T_p xr_20_19 xn_20 (pc' := 20) (ls' := [(2, .int (iI e)), (0, .ref a), (1, .ref a2)]) (st' := [.ref a, .ref a2]) rfl ?_
          refine T_get xr_20_20 hw.1 rfl (v := .ref (a + 1)) rfl (pc' := 23) rfl ?_
          refine T_p xr_20_23 xn_20 (pc' := 24) (ls' := [(2, .int (iI e)), (0, .ref a), (1, .ref a2)]) (st' := [.int (iI e), .ref (a + 1), .ref a2]) rfl ?_
          refine T_zlald xr_20_24 hw.2.1 (pc' := 25) rfl ?_
          refine T_cv (S := S) (q := a2) xr_20_25 xf_103.1 xf_103.2.1 xn_103 (as := [.long (q e)]) (r := []) rfl hw2.1 (Nat.le_of_ble_eq_true rfl) (Nat.le_of_ble_eq_true rfl) (pc' := 28) rfl (ls' := [(0, .ref a2), (1, .long (q e))]) rfl ?_
          refine T_mono (c_hasPart sc S a2 d2 q2 (q e) ⟨hw2.1, hw2.2.1, hw2.2.2.1, hw2.2.2.2.1, hw2.2.2.2.2.1, hw2.2.2.2.2.2.1, hw2.2.2.2.2.2.2.1, hw2.2.2.2.2.2.2.2⟩ hR2) (fun v364 S365 h363 => ?_)
          obtain ⟨h366, h367⟩ := h363
          rw [h366, h367]
          show X_T sc 20 (28, [(2, .int (iI e)), (0, .ref a), (1, .ref a2)], [.int (iI (bI (X_hp d2 q2 (q e))))], S) _
          refine T_bif_eq xr_20_28 (t := 33) (pc' := 31) rfl rfl (fun c368 => ?_) (fun c368 => ?_)
          · skip
            have c368 : ¬ (X_hp d2 q2 (q e)) := c368
            refine T_ziinc xr_20_33 xn_20 (a := e) (z := e + 1) rfl (Nat.le_of_ble_eq_true rfl) (by omega) (ls' := [(2, .int (iI (e + 1))), (0, .ref a), (1, .ref a2)]) rfl (pc' := 36) rfl ?_
            refine T_p xr_20_36 xn_20 (pc' := 2) (ls' := [(2, .int (iI (e + 1))), (0, .ref a), (1, .ref a2)]) (st' := []) rfl ?_
            exact ih352 (e + 1)  (by omega) (fun e1 h1 h2 h3 => by
                  by_cases hk : e1 = e
                  · subst hk; first | assumption | exact absurd (by assumption) h3
                  · exact hno e1 h1 (by omega) h3) (by omega)
          · skip
            have c368 : (X_hp d2 q2 (q e)) := c368
            refine T_p xr_20_31 xn_20 (pc' := 32) (ls' := [(2, .int (iI e)), (0, .ref a), (1, .ref a2)]) (st' := [.int (iI 1)]) rfl ?_
            refine T_iret xr_20_32 xf_20.2.2 (by decide) ?_
            refine hQ _ _ ?_
            exact ⟨by rw [bI_t ⟨e, by omega, by omega, by assumption, by assumption⟩], rfl⟩
  exact L351 (d 3 0 + 1).toNat 0  (by omega) (fun e1 h1 h2 => (show False by omega).elim) (by omega)
theorem c_isAgainst (sc : X_Sc) (S : X_S) (B : Nat) (rc kc wc : Int) (rn : Int → Int64) (lo : Int → Int) (kn : Int → Int64) (ab : Int → Int) (D : Int → Nat → Int → Int) (W : Int → Int → Int64) (x y : Int) (hb : C_bk S B rc kc wc rn lo kn ab) (hs : C_ws S B D W) (hx : 0 ≤ x ∧ x < wc) (hy : 0 ≤ y ∧ y < wc) : X_T sc 18 (0, [(0, .ref B), (1, .int (iI x)), (2, .int (iI y))], [], S) (fun v S' => v = some (.int (iI (bI (X_ag lo D W x y)))) ∧ S' = S) := by
  obtain ⟨hb0, hb1, hb2, hb3, hb4, ⟨f, hb5, hf⟩, ⟨hrc, hrcb⟩, ⟨hkc, hkcb⟩, ⟨hwc, hwcb⟩⟩ := id hb
  have hex := X_en_r (D x) (W x)
  have hey := X_en_r (D y) (W y)
  refine X_QI (fun Q hQ => ?_)
  refine T_p xr_18_0 xn_18 (pc' := 1) (ls' := [(0, .ref B), (1, .int (iI x)), (2, .int (iI y))]) (st' := [.ref B]) rfl ?_
  refine T_get xr_18_1 hb0 rfl (v := .ref (B + 5)) rfl (pc' := 4) rfl ?_
  refine T_p xr_18_4 xn_18 (pc' := 5) (ls' := [(0, .ref B), (1, .int (iI x)), (2, .int (iI y))]) (st' := [.int (iI x), .ref (B + 5)]) rfl ?_
  have hw369 := hs x (by omega) (by omega)
  obtain ⟨a370, ha371⟩ : ∃ z : Nat, z = B + 6 + 8 * (x : Int).toNat := ⟨_, rfl⟩
  rw [← ha371] at hw369
  obtain ⟨⟨_, _⟩, ⟨_, _⟩, ⟨_, _⟩, ⟨_, _⟩, ⟨_, _⟩, ⟨_, _⟩, ⟨_, _⟩, ⟨_, _⟩⟩ := id hw369.2
  refine T_zaald xr_18_5 hb5 (w := a370) (by rw [ha371]; exact hf _ (by omega)) (pc' := 6) rfl ?_
  refine T_p xr_18_6 xn_18 (pc' := 7) (ls' := [(3, .ref a370), (0, .ref B), (1, .int (iI x)), (2, .int (iI y))]) (st' := []) rfl ?_
  refine T_p xr_18_7 xn_18 (pc' := 8) (ls' := [(3, .ref a370), (0, .ref B), (1, .int (iI x)), (2, .int (iI y))]) (st' := [.ref B]) rfl ?_
  refine T_get xr_18_8 hb0 rfl (v := .ref (B + 5)) rfl (pc' := 11) rfl ?_
  refine T_p xr_18_11 xn_18 (pc' := 12) (ls' := [(3, .ref a370), (0, .ref B), (1, .int (iI x)), (2, .int (iI y))]) (st' := [.int (iI y), .ref (B + 5)]) rfl ?_
  have hw372 := hs y (by omega) (by omega)
  obtain ⟨a373, ha374⟩ : ∃ z : Nat, z = B + 6 + 8 * (y : Int).toNat := ⟨_, rfl⟩
  rw [← ha374] at hw372
  obtain ⟨⟨_, _⟩, ⟨_, _⟩, ⟨_, _⟩, ⟨_, _⟩, ⟨_, _⟩, ⟨_, _⟩, ⟨_, _⟩, ⟨_, _⟩⟩ := id hw372.2
  refine T_zaald xr_18_12 hb5 (w := a373) (by rw [ha374]; exact hf _ (by omega)) (pc' := 13) rfl ?_
  refine T_p xr_18_13 xn_18 (pc' := 15) (ls' := [(4, .ref a373), (3, .ref a370), (0, .ref B), (1, .int (iI x)), (2, .int (iI y))]) (st' := []) rfl ?_
  refine T_p xr_18_15 xn_18 (pc' := 16) (ls' := [(4, .ref a373), (3, .ref a370), (0, .ref B), (1, .int (iI x)), (2, .int (iI y))]) (st' := [.int (iI x)]) rfl ?_
  refine T_p xr_18_16 xn_18 (pc' := 17) (ls' := [(4, .ref a373), (3, .ref a370), (0, .ref B), (1, .int (iI x)), (2, .int (iI y))]) (st' := [.int (iI y), .int (iI x)]) rfl ?_
  refine T_zicmp_ne xr_18_17 (t := 48) (pc' := 20) rfl rfl (fun c375 => ?_) (fun c375 => ?_)
  · skip
    have c375 : ¬ x = y := c375
    refine T_p xr_18_48 xn_18 (pc' := 49) (ls' := [(4, .ref a373), (3, .ref a370), (0, .ref B), (1, .int (iI x)), (2, .int (iI y))]) (st' := [.ref a370]) rfl ?_
    refine T_p xr_18_49 xn_18 (pc' := 51) (ls' := [(4, .ref a373), (3, .ref a370), (0, .ref B), (1, .int (iI x)), (2, .int (iI y))]) (st' := [.ref a373, .ref a370]) rfl ?_
    refine T_cs xr_18_51 (by decide) xf_20.1 xn_20 (as := [.ref a370, .ref a373]) (r := []) rfl (Nat.le_of_ble_eq_true rfl) (Nat.le_of_ble_eq_true rfl) (pc' := 54) rfl (ls' := [(0, .ref a370), (1, .ref a373)]) rfl ?_
    refine T_mono (c_shareAPart sc S a370 (D x) (W x) a373 (D y) (W y) ⟨hw369.1.1, hw369.1.2.1, hw369.1.2.2.1, hw369.1.2.2.2.1, hw369.1.2.2.2.2.1, hw369.1.2.2.2.2.2.1, hw369.1.2.2.2.2.2.2.1, hw369.1.2.2.2.2.2.2.2⟩ hw369.2 ⟨hw372.1.1, hw372.1.2.1, hw372.1.2.2.1, hw372.1.2.2.2.1, hw372.1.2.2.2.2.1, hw372.1.2.2.2.2.2.1, hw372.1.2.2.2.2.2.2.1, hw372.1.2.2.2.2.2.2.2⟩ hw372.2) (fun v377 S378 h376 => ?_)
    obtain ⟨h379, h380⟩ := h376
    rw [h379, h380]
    show X_T sc 18 (54, [(4, .ref a373), (3, .ref a370), (0, .ref B), (1, .int (iI x)), (2, .int (iI y))], [.int (iI (bI (X_sp (D x) (W x) (D y) (W y))))], S) _
    refine T_bif_eq xr_18_54 (t := 59) (pc' := 57) rfl rfl (fun c381 => ?_) (fun c381 => ?_)
    · skip
      have c381 : ¬ (X_sp (D x) (W x) (D y) (W y)) := c381
      refine T_p xr_18_59 xn_18 (pc' := 60) (ls' := [(4, .ref a373), (3, .ref a370), (0, .ref B), (1, .int (iI x)), (2, .int (iI y))]) (st' := [.ref a370]) rfl ?_
      refine T_cv (S := S) (q := a370) xr_18_60 xf_102.1 xf_102.2.1 xn_102 (as := []) (r := []) rfl hw369.1.1 (Nat.le_of_ble_eq_true rfl) (Nat.le_of_ble_eq_true rfl) (pc' := 63) rfl (ls' := [(0, .ref a370)]) rfl ?_
      refine T_mono (c_isClosed sc S a370 (D x) (W x) ⟨hw369.1.1, hw369.1.2.1, hw369.1.2.2.1, hw369.1.2.2.2.1, hw369.1.2.2.2.2.1, hw369.1.2.2.2.2.2.1, hw369.1.2.2.2.2.2.2.1, hw369.1.2.2.2.2.2.2.2⟩ hw369.2) (fun v383 S384 h382 => ?_)
      obtain ⟨h385, h386⟩ := h382
      rw [h385, h386]
      show X_T sc 18 (63, [(4, .ref a373), (3, .ref a370), (0, .ref B), (1, .int (iI x)), (2, .int (iI y))], [.int (iI (bI (X_en (D x) (W x) = 0)))], S) _
      refine T_bif_ne xr_18_63 (t := 74) (pc' := 66) rfl rfl (fun c387 => ?_) (fun c387 => ?_)
      · skip
        have c387 : (X_en (D x) (W x) = 0) := c387
        refine T_p xr_18_74 xn_18 (pc' := 75) (ls' := [(4, .ref a373), (3, .ref a370), (0, .ref B), (1, .int (iI x)), (2, .int (iI y))]) (st' := [.int (iI 0)]) rfl ?_
        refine T_iret xr_18_75 xf_18.2.2 (by decide) ?_
        refine hQ _ _ ?_
        exact ⟨by rw [bI_f (by unfold X_ag; rintro (⟨h1, h2 | ⟨h2, h3⟩⟩ | ⟨h1, h2 | ⟨h2, h3, h4, h5, h6⟩⟩) <;> first | omega | contradiction)], rfl⟩
      · skip
        have c387 : ¬ (X_en (D x) (W x) = 0) := c387
        refine T_p xr_18_66 xn_18 (pc' := 68) (ls' := [(4, .ref a373), (3, .ref a370), (0, .ref B), (1, .int (iI x)), (2, .int (iI y))]) (st' := [.ref a373]) rfl ?_
        refine T_cv (S := S) (q := a373) xr_18_68 xf_102.1 xf_102.2.1 xn_102 (as := []) (r := []) rfl hw372.1.1 (Nat.le_of_ble_eq_true rfl) (Nat.le_of_ble_eq_true rfl) (pc' := 71) rfl (ls' := [(0, .ref a373)]) rfl ?_
        refine T_mono (c_isClosed sc S a373 (D y) (W y) ⟨hw372.1.1, hw372.1.2.1, hw372.1.2.2.1, hw372.1.2.2.2.1, hw372.1.2.2.2.2.1, hw372.1.2.2.2.2.2.1, hw372.1.2.2.2.2.2.2.1, hw372.1.2.2.2.2.2.2.2⟩ hw372.2) (fun v389 S390 h388 => ?_)
        obtain ⟨h391, h392⟩ := h388
        rw [h391, h392]
        show X_T sc 18 (71, [(4, .ref a373), (3, .ref a370), (0, .ref B), (1, .int (iI x)), (2, .int (iI y))], [.int (iI (bI (X_en (D y) (W y) = 0)))], S) _
        refine T_bif_eq xr_18_71 (t := 76) (pc' := 74) rfl rfl (fun c393 => ?_) (fun c393 => ?_)
        · skip
          have c393 : ¬ (X_en (D y) (W y) = 0) := c393
          have J394 : X_T sc 18 (112, [(4, .ref a373), (3, .ref a370), (0, .ref B), (1, .int (iI x)), (2, .int (iI y))], [.int (iI (bI (D x 0 0 = D y 0 0 ∧ ¬ D x 1 0 = 0 ∧ D x 1 0 = D y 1 0)))], S) Q := by
            refine T_p xr_18_112 xn_18 (pc' := 114) (ls' := [(5, .int (iI (bI (D x 0 0 = D y 0 0 ∧ ¬ D x 1 0 = 0 ∧ D x 1 0 = D y 1 0)))), (4, .ref a373), (3, .ref a370), (0, .ref B), (1, .int (iI x)), (2, .int (iI y))]) (st' := []) rfl ?_
            refine T_p xr_18_114 xn_18 (pc' := 116) (ls' := [(5, .int (iI (bI (D x 0 0 = D y 0 0 ∧ ¬ D x 1 0 = 0 ∧ D x 1 0 = D y 1 0)))), (4, .ref a373), (3, .ref a370), (0, .ref B), (1, .int (iI x)), (2, .int (iI y))]) (st' := [.int (iI (bI (D x 0 0 = D y 0 0 ∧ ¬ D x 1 0 = 0 ∧ D x 1 0 = D y 1 0)))]) rfl ?_
            refine T_bif_ne xr_18_116 (t := 155) (pc' := 119) rfl rfl (fun c395 => ?_) (fun c395 => ?_)
            · skip
              have c395 : (D x 0 0 = D y 0 0 ∧ ¬ D x 1 0 = 0 ∧ D x 1 0 = D y 1 0) := c395
              refine T_p xr_18_155 xn_18 (pc' := 156) (ls' := [(5, .int (iI (bI (D x 0 0 = D y 0 0 ∧ ¬ D x 1 0 = 0 ∧ D x 1 0 = D y 1 0)))), (4, .ref a373), (3, .ref a370), (0, .ref B), (1, .int (iI x)), (2, .int (iI y))]) (st' := [.int (iI 0)]) rfl ?_
              refine T_iret xr_18_156 xf_18.2.2 (by decide) ?_
              refine hQ _ _ ?_
              exact ⟨by rw [bI_f (by unfold X_ag; rintro (⟨h1, h2 | ⟨h2, h3⟩⟩ | ⟨h1, h2 | ⟨h2, h3, h4, h5, h6⟩⟩) <;> first | omega | contradiction)], rfl⟩
            · skip
              have c395 : ¬ (D x 0 0 = D y 0 0 ∧ ¬ D x 1 0 = 0 ∧ D x 1 0 = D y 1 0) := c395
              refine T_p xr_18_119 xn_18 (pc' := 120) (ls' := [(5, .int (iI (bI (D x 0 0 = D y 0 0 ∧ ¬ D x 1 0 = 0 ∧ D x 1 0 = D y 1 0)))), (4, .ref a373), (3, .ref a370), (0, .ref B), (1, .int (iI x)), (2, .int (iI y))]) (st' := [.ref B]) rfl ?_
              refine T_p xr_18_120 xn_18 (pc' := 121) (ls' := [(5, .int (iI (bI (D x 0 0 = D y 0 0 ∧ ¬ D x 1 0 = 0 ∧ D x 1 0 = D y 1 0)))), (4, .ref a373), (3, .ref a370), (0, .ref B), (1, .int (iI x)), (2, .int (iI y))]) (st' := [.ref a370, .ref B]) rfl ?_
              refine T_get xr_18_121 hw369.1.1 rfl (v := .int (iI (D x 0 0))) rfl (pc' := 124) rfl ?_
              refine T_p xr_18_124 xn_18 (pc' := 126) (ls' := [(5, .int (iI (bI (D x 0 0 = D y 0 0 ∧ ¬ D x 1 0 = 0 ∧ D x 1 0 = D y 1 0)))), (4, .ref a373), (3, .ref a370), (0, .ref B), (1, .int (iI x)), (2, .int (iI y))]) (st' := [.ref a373, .int (iI (D x 0 0)), .ref B]) rfl ?_
              refine T_get xr_18_126 hw372.1.1 rfl (v := .int (iI (D y 0 0))) rfl (pc' := 129) rfl ?_
              refine T_cv (S := S) (q := B) xr_18_129 xf_11.1 xf_11.2.1 xn_11 (as := [.int (iI (D x 0 0)), .int (iI (D y 0 0))]) (r := []) rfl hb0 (Nat.le_of_ble_eq_true rfl) (Nat.le_of_ble_eq_true rfl) (pc' := 132) rfl (ls' := [(0, .ref B), (1, .int (iI (D x 0 0))), (2, .int (iI (D y 0 0)))]) rfl ?_
              refine T_mono (c_isTighter sc S B rc kc wc rn lo kn ab (D x 0 0) (D y 0 0) ⟨hb0, hb1, hb2, hb3, hb4, ⟨f, hb5, hf⟩, ⟨by omega, by omega⟩, ⟨by omega, by omega⟩, ⟨by omega, by omega⟩⟩ (by omega)) (fun v397 S398 h396 => ?_)
              obtain ⟨h399, h400⟩ := h396
              rw [h399, h400]
              show X_T sc 18 (132, [(5, .int (iI (bI (D x 0 0 = D y 0 0 ∧ ¬ D x 1 0 = 0 ∧ D x 1 0 = D y 1 0)))), (4, .ref a373), (3, .ref a370), (0, .ref B), (1, .int (iI x)), (2, .int (iI y))], [.int (iI (bI (X_bt (lo (D x 0 0)) (D y 0 0))))], S) _
              refine T_bif_ne xr_18_132 (t := 155) (pc' := 135) rfl rfl (fun c401 => ?_) (fun c401 => ?_)
              · skip
                have c401 : (X_bt (lo (D x 0 0)) (D y 0 0)) := c401
                refine T_p xr_18_155 xn_18 (pc' := 156) (ls' := [(5, .int (iI (bI (D x 0 0 = D y 0 0 ∧ ¬ D x 1 0 = 0 ∧ D x 1 0 = D y 1 0)))), (4, .ref a373), (3, .ref a370), (0, .ref B), (1, .int (iI x)), (2, .int (iI y))]) (st' := [.int (iI 0)]) rfl ?_
                refine T_iret xr_18_156 xf_18.2.2 (by decide) ?_
                refine hQ _ _ ?_
                exact ⟨by rw [bI_f (by unfold X_ag; rintro (⟨h1, h2 | ⟨h2, h3⟩⟩ | ⟨h1, h2 | ⟨h2, h3, h4, h5, h6⟩⟩) <;> first | omega | contradiction)], rfl⟩
              · skip
                have c401 : ¬ (X_bt (lo (D x 0 0)) (D y 0 0)) := c401
                refine T_p xr_18_135 xn_18 (pc' := 136) (ls' := [(5, .int (iI (bI (D x 0 0 = D y 0 0 ∧ ¬ D x 1 0 = 0 ∧ D x 1 0 = D y 1 0)))), (4, .ref a373), (3, .ref a370), (0, .ref B), (1, .int (iI x)), (2, .int (iI y))]) (st' := [.ref B]) rfl ?_
                refine T_p xr_18_136 xn_18 (pc' := 138) (ls' := [(5, .int (iI (bI (D x 0 0 = D y 0 0 ∧ ¬ D x 1 0 = 0 ∧ D x 1 0 = D y 1 0)))), (4, .ref a373), (3, .ref a370), (0, .ref B), (1, .int (iI x)), (2, .int (iI y))]) (st' := [.ref a373, .ref B]) rfl ?_
                refine T_get xr_18_138 hw372.1.1 rfl (v := .int (iI (D y 0 0))) rfl (pc' := 141) rfl ?_
                refine T_p xr_18_141 xn_18 (pc' := 142) (ls' := [(5, .int (iI (bI (D x 0 0 = D y 0 0 ∧ ¬ D x 1 0 = 0 ∧ D x 1 0 = D y 1 0)))), (4, .ref a373), (3, .ref a370), (0, .ref B), (1, .int (iI x)), (2, .int (iI y))]) (st' := [.ref a370, .int (iI (D y 0 0)), .ref B]) rfl ?_
                refine T_get xr_18_142 hw369.1.1 rfl (v := .int (iI (D x 0 0))) rfl (pc' := 145) rfl ?_
                refine T_cv (S := S) (q := B) xr_18_145 xf_11.1 xf_11.2.1 xn_11 (as := [.int (iI (D y 0 0)), .int (iI (D x 0 0))]) (r := []) rfl hb0 (Nat.le_of_ble_eq_true rfl) (Nat.le_of_ble_eq_true rfl) (pc' := 148) rfl (ls' := [(0, .ref B), (1, .int (iI (D y 0 0))), (2, .int (iI (D x 0 0)))]) rfl ?_
                refine T_mono (c_isTighter sc S B rc kc wc rn lo kn ab (D y 0 0) (D x 0 0) ⟨hb0, hb1, hb2, hb3, hb4, ⟨f, hb5, hf⟩, ⟨by omega, by omega⟩, ⟨by omega, by omega⟩, ⟨by omega, by omega⟩⟩ (by omega)) (fun v403 S404 h402 => ?_)
                obtain ⟨h405, h406⟩ := h402
                rw [h405, h406]
                show X_T sc 18 (148, [(5, .int (iI (bI (D x 0 0 = D y 0 0 ∧ ¬ D x 1 0 = 0 ∧ D x 1 0 = D y 1 0)))), (4, .ref a373), (3, .ref a370), (0, .ref B), (1, .int (iI x)), (2, .int (iI y))], [.int (iI (bI (X_bt (lo (D y 0 0)) (D x 0 0))))], S) _
                refine T_bif_ne xr_18_148 (t := 155) (pc' := 151) rfl rfl (fun c407 => ?_) (fun c407 => ?_)
                · skip
                  have c407 : (X_bt (lo (D y 0 0)) (D x 0 0)) := c407
                  refine T_p xr_18_155 xn_18 (pc' := 156) (ls' := [(5, .int (iI (bI (D x 0 0 = D y 0 0 ∧ ¬ D x 1 0 = 0 ∧ D x 1 0 = D y 1 0)))), (4, .ref a373), (3, .ref a370), (0, .ref B), (1, .int (iI x)), (2, .int (iI y))]) (st' := [.int (iI 0)]) rfl ?_
                  refine T_iret xr_18_156 xf_18.2.2 (by decide) ?_
                  refine hQ _ _ ?_
                  exact ⟨by rw [bI_f (by unfold X_ag; rintro (⟨h1, h2 | ⟨h2, h3⟩⟩ | ⟨h1, h2 | ⟨h2, h3, h4, h5, h6⟩⟩) <;> first | omega | contradiction)], rfl⟩
                · skip
                  have c407 : ¬ (X_bt (lo (D y 0 0)) (D x 0 0)) := c407
                  refine T_p xr_18_151 xn_18 (pc' := 152) (ls' := [(5, .int (iI (bI (D x 0 0 = D y 0 0 ∧ ¬ D x 1 0 = 0 ∧ D x 1 0 = D y 1 0)))), (4, .ref a373), (3, .ref a370), (0, .ref B), (1, .int (iI x)), (2, .int (iI y))]) (st' := [.int (iI 1)]) rfl ?_
                  refine T_p xr_18_152 xn_18 (pc' := 156) (ls' := [(5, .int (iI (bI (D x 0 0 = D y 0 0 ∧ ¬ D x 1 0 = 0 ∧ D x 1 0 = D y 1 0)))), (4, .ref a373), (3, .ref a370), (0, .ref B), (1, .int (iI x)), (2, .int (iI y))]) (st' := [.int (iI 1)]) rfl ?_
                  refine T_iret xr_18_156 xf_18.2.2 (by decide) ?_
                  refine hQ _ _ ?_
                  exact ⟨by rw [bI_t (by unfold X_ag; first
                          | exact Or.inl ⟨by omega, Or.inl (by assumption)⟩
                          | exact Or.inl ⟨by omega, Or.inr ⟨by omega, by omega⟩⟩
                          | exact Or.inr ⟨by omega, Or.inl (by assumption)⟩
                          | exact Or.inr ⟨by omega, Or.inr ⟨by assumption, by assumption, by assumption, by assumption, by assumption⟩⟩)], rfl⟩
          refine T_p xr_18_76 xn_18 (pc' := 77) (ls' := [(4, .ref a373), (3, .ref a370), (0, .ref B), (1, .int (iI x)), (2, .int (iI y))]) (st' := [.ref a370]) rfl ?_
          refine T_get xr_18_77 hw369.1.1 rfl (v := .int (iI (D x 0 0))) rfl (pc' := 80) rfl ?_
          refine T_p xr_18_80 xn_18 (pc' := 82) (ls' := [(4, .ref a373), (3, .ref a370), (0, .ref B), (1, .int (iI x)), (2, .int (iI y))]) (st' := [.ref a373, .int (iI (D x 0 0))]) rfl ?_
          refine T_get xr_18_82 hw372.1.1 rfl (v := .int (iI (D y 0 0))) rfl (pc' := 85) rfl ?_
          refine T_zicmp_ne xr_18_85 (t := 111) (pc' := 88) rfl rfl (fun c408 => ?_) (fun c408 => ?_)
          · skip
            have c408 : ¬ (D x 0 0) = (D y 0 0) := c408
            refine T_p xr_18_111 xn_18 (pc' := 112) (ls' := [(4, .ref a373), (3, .ref a370), (0, .ref B), (1, .int (iI x)), (2, .int (iI y))]) (st' := [.int (iI 0)]) rfl ?_
            refine T_ie (y := iI (bI (D x 0 0 = D y 0 0 ∧ ¬ D x 1 0 = 0 ∧ D x 1 0 = D y 1 0))) (by rw [bI_f (by omega)]) ?_
            exact J394
          · skip
            have c408 : ¬ (¬ (D x 0 0) = (D y 0 0)) := c408
            refine T_p xr_18_88 xn_18 (pc' := 89) (ls' := [(4, .ref a373), (3, .ref a370), (0, .ref B), (1, .int (iI x)), (2, .int (iI y))]) (st' := [.ref a370]) rfl ?_
            refine T_get xr_18_89 hw369.1.1 rfl (v := .int (iI (D x 1 0))) rfl (pc' := 92) rfl ?_
            refine T_zif_eq xr_18_92 (t := 111) (pc' := 95) rfl rfl (fun c409 => ?_) (fun c409 => ?_)
            · skip
              have c409 : (D x 1 0) = 0 := c409
              refine T_p xr_18_111 xn_18 (pc' := 112) (ls' := [(4, .ref a373), (3, .ref a370), (0, .ref B), (1, .int (iI x)), (2, .int (iI y))]) (st' := [.int (iI 0)]) rfl ?_
              refine T_ie (y := iI (bI (D x 0 0 = D y 0 0 ∧ ¬ D x 1 0 = 0 ∧ D x 1 0 = D y 1 0))) (by rw [bI_f (by omega)]) ?_
              exact J394
            · skip
              have c409 : ¬ ((D x 1 0) = 0) := c409
              refine T_p xr_18_95 xn_18 (pc' := 96) (ls' := [(4, .ref a373), (3, .ref a370), (0, .ref B), (1, .int (iI x)), (2, .int (iI y))]) (st' := [.ref a370]) rfl ?_
              refine T_get xr_18_96 hw369.1.1 rfl (v := .int (iI (D x 1 0))) rfl (pc' := 99) rfl ?_
              refine T_p xr_18_99 xn_18 (pc' := 101) (ls' := [(4, .ref a373), (3, .ref a370), (0, .ref B), (1, .int (iI x)), (2, .int (iI y))]) (st' := [.ref a373, .int (iI (D x 1 0))]) rfl ?_
              refine T_get xr_18_101 hw372.1.1 rfl (v := .int (iI (D y 1 0))) rfl (pc' := 104) rfl ?_
              refine T_zicmp_ne xr_18_104 (t := 111) (pc' := 107) rfl rfl (fun c410 => ?_) (fun c410 => ?_)
              · skip
                have c410 : ¬ (D x 1 0) = (D y 1 0) := c410
                refine T_p xr_18_111 xn_18 (pc' := 112) (ls' := [(4, .ref a373), (3, .ref a370), (0, .ref B), (1, .int (iI x)), (2, .int (iI y))]) (st' := [.int (iI 0)]) rfl ?_
                refine T_ie (y := iI (bI (D x 0 0 = D y 0 0 ∧ ¬ D x 1 0 = 0 ∧ D x 1 0 = D y 1 0))) (by rw [bI_f (by omega)]) ?_
                exact J394
              · skip
                have c410 : ¬ (¬ (D x 1 0) = (D y 1 0)) := c410
                refine T_p xr_18_107 xn_18 (pc' := 108) (ls' := [(4, .ref a373), (3, .ref a370), (0, .ref B), (1, .int (iI x)), (2, .int (iI y))]) (st' := [.int (iI 1)]) rfl ?_
                refine T_p xr_18_108 xn_18 (pc' := 112) (ls' := [(4, .ref a373), (3, .ref a370), (0, .ref B), (1, .int (iI x)), (2, .int (iI y))]) (st' := [.int (iI 1)]) rfl ?_
                refine T_ie (y := iI (bI (D x 0 0 = D y 0 0 ∧ ¬ D x 1 0 = 0 ∧ D x 1 0 = D y 1 0))) (by rw [bI_t (by exact ⟨by omega, by omega, by omega⟩)]) ?_
                exact J394
        · skip
          have c393 : (X_en (D y) (W y) = 0) := c393
          refine T_p xr_18_74 xn_18 (pc' := 75) (ls' := [(4, .ref a373), (3, .ref a370), (0, .ref B), (1, .int (iI x)), (2, .int (iI y))]) (st' := [.int (iI 0)]) rfl ?_
          refine T_iret xr_18_75 xf_18.2.2 (by decide) ?_
          refine hQ _ _ ?_
          exact ⟨by rw [bI_f (by unfold X_ag; rintro (⟨h1, h2 | ⟨h2, h3⟩⟩ | ⟨h1, h2 | ⟨h2, h3, h4, h5, h6⟩⟩) <;> first | omega | contradiction)], rfl⟩
    · skip
      have c381 : (X_sp (D x) (W x) (D y) (W y)) := c381
      refine T_p xr_18_57 xn_18 (pc' := 58) (ls' := [(4, .ref a373), (3, .ref a370), (0, .ref B), (1, .int (iI x)), (2, .int (iI y))]) (st' := [.int (iI 1)]) rfl ?_
      refine T_iret xr_18_58 xf_18.2.2 (by decide) ?_
      refine hQ _ _ ?_
      exact ⟨by rw [bI_t (by unfold X_ag; first
              | exact Or.inl ⟨by omega, Or.inl (by assumption)⟩
              | exact Or.inl ⟨by omega, Or.inr ⟨by omega, by omega⟩⟩
              | exact Or.inr ⟨by omega, Or.inl (by assumption)⟩
              | exact Or.inr ⟨by omega, Or.inr ⟨by assumption, by assumption, by assumption, by assumption, by assumption⟩⟩)], rfl⟩
  · skip
    have c375 : ¬ (¬ x = y) := c375
    refine T_p xr_18_20 xn_18 (pc' := 21) (ls' := [(4, .ref a373), (3, .ref a370), (0, .ref B), (1, .int (iI x)), (2, .int (iI y))]) (st' := [.ref a370]) rfl ?_
    refine T_cs xr_18_21 (by decide) xf_19.1 xn_19 (as := [.ref a370]) (r := []) rfl (Nat.le_of_ble_eq_true rfl) (Nat.le_of_ble_eq_true rfl) (pc' := 24) rfl (ls' := [(0, .ref a370)]) rfl ?_
    refine T_mono (c_hasPartTwice sc S a370 (D x) (W x) ⟨hw369.1.1, hw369.1.2.1, hw369.1.2.2.1, hw369.1.2.2.2.1, hw369.1.2.2.2.2.1, hw369.1.2.2.2.2.2.1, hw369.1.2.2.2.2.2.2.1, hw369.1.2.2.2.2.2.2.2⟩ hw369.2) (fun v412 S413 h411 => ?_)
    obtain ⟨h414, h415⟩ := h411
    rw [h414, h415]
    show X_T sc 18 (24, [(4, .ref a373), (3, .ref a370), (0, .ref B), (1, .int (iI x)), (2, .int (iI y))], [.int (iI (bI (X_h2 (D x) (W x))))], S) _
    refine T_bif_ne xr_18_24 (t := 42) (pc' := 27) rfl rfl (fun c416 => ?_) (fun c416 => ?_)
    · skip
      have c416 : (X_h2 (D x) (W x)) := c416
      refine T_p xr_18_42 xn_18 (pc' := 43) (ls' := [(4, .ref a373), (3, .ref a370), (0, .ref B), (1, .int (iI x)), (2, .int (iI y))]) (st' := [.int (iI 1)]) rfl ?_
      refine T_p xr_18_43 xn_18 (pc' := 47) (ls' := [(4, .ref a373), (3, .ref a370), (0, .ref B), (1, .int (iI x)), (2, .int (iI y))]) (st' := [.int (iI 1)]) rfl ?_
      refine T_iret xr_18_47 xf_18.2.2 (by decide) ?_
      refine hQ _ _ ?_
      exact ⟨by rw [bI_t (by unfold X_ag; first
              | exact Or.inl ⟨by omega, Or.inl (by assumption)⟩
              | exact Or.inl ⟨by omega, Or.inr ⟨by omega, by omega⟩⟩
              | exact Or.inr ⟨by omega, Or.inl (by assumption)⟩
              | exact Or.inr ⟨by omega, Or.inr ⟨by assumption, by assumption, by assumption, by assumption, by assumption⟩⟩)], rfl⟩
    · skip
      have c416 : ¬ (X_h2 (D x) (W x)) := c416
      refine T_p xr_18_27 xn_18 (pc' := 28) (ls' := [(4, .ref a373), (3, .ref a370), (0, .ref B), (1, .int (iI x)), (2, .int (iI y))]) (st' := [.ref a370]) rfl ?_
      refine T_cv (S := S) (q := a370) xr_18_28 xf_101.1 xf_101.2.1 xn_101 (as := []) (r := []) rfl hw369.1.1 (Nat.le_of_ble_eq_true rfl) (Nat.le_of_ble_eq_true rfl) (pc' := 31) rfl (ls' := [(0, .ref a370)]) rfl ?_
      refine T_mono (c_ends sc S a370 (D x) (W x) ⟨hw369.1.1, hw369.1.2.1, hw369.1.2.2.1, hw369.1.2.2.2.1, hw369.1.2.2.2.2.1, hw369.1.2.2.2.2.2.1, hw369.1.2.2.2.2.2.2.1, hw369.1.2.2.2.2.2.2.2⟩ hw369.2) (fun v418 S419 h417 => ?_)
      obtain ⟨h420, h421⟩ := h417
      rw [h420, h421]
      show X_T sc 18 (31, [(4, .ref a373), (3, .ref a370), (0, .ref B), (1, .int (iI x)), (2, .int (iI y))], [.int (iI (X_en (D x) (W x)))], S) _
      refine T_p xr_18_31 xn_18 (pc' := 32) (ls' := [(4, .ref a373), (3, .ref a370), (0, .ref B), (1, .int (iI x)), (2, .int (iI y))]) (st' := [.int (iI 3), .int (iI (X_en (D x) (W x)))]) rfl ?_
      refine T_zicmp_ne xr_18_32 (t := 46) (pc' := 35) rfl rfl (fun c422 => ?_) (fun c422 => ?_)
      · skip
        have c422 : ¬ (X_en (D x) (W x)) = 3 := c422
        refine T_p xr_18_46 xn_18 (pc' := 47) (ls' := [(4, .ref a373), (3, .ref a370), (0, .ref B), (1, .int (iI x)), (2, .int (iI y))]) (st' := [.int (iI 0)]) rfl ?_
        refine T_iret xr_18_47 xf_18.2.2 (by decide) ?_
        refine hQ _ _ ?_
        exact ⟨by rw [bI_f (by unfold X_ag; rintro (⟨h1, h2 | ⟨h2, h3⟩⟩ | ⟨h1, h2 | ⟨h2, h3, h4, h5, h6⟩⟩) <;> first | omega | contradiction)], rfl⟩
      · skip
        have c422 : ¬ (¬ (X_en (D x) (W x)) = 3) := c422
        refine T_p xr_18_35 xn_18 (pc' := 36) (ls' := [(4, .ref a373), (3, .ref a370), (0, .ref B), (1, .int (iI x)), (2, .int (iI y))]) (st' := [.ref a370]) rfl ?_
        refine T_get xr_18_36 hw369.1.1 rfl (v := .int (iI (D x 1 0))) rfl (pc' := 39) rfl ?_
        refine T_zif_ne xr_18_39 (t := 46) (pc' := 42) rfl rfl (fun c423 => ?_) (fun c423 => ?_)
        · skip
          have c423 : ¬ (D x 1 0) = 0 := c423
          refine T_p xr_18_46 xn_18 (pc' := 47) (ls' := [(4, .ref a373), (3, .ref a370), (0, .ref B), (1, .int (iI x)), (2, .int (iI y))]) (st' := [.int (iI 0)]) rfl ?_
          refine T_iret xr_18_47 xf_18.2.2 (by decide) ?_
          refine hQ _ _ ?_
          exact ⟨by rw [bI_f (by unfold X_ag; rintro (⟨h1, h2 | ⟨h2, h3⟩⟩ | ⟨h1, h2 | ⟨h2, h3, h4, h5, h6⟩⟩) <;> first | omega | contradiction)], rfl⟩
        · skip
          have c423 : ¬ (¬ (D x 1 0) = 0) := c423
          refine T_p xr_18_42 xn_18 (pc' := 43) (ls' := [(4, .ref a373), (3, .ref a370), (0, .ref B), (1, .int (iI x)), (2, .int (iI y))]) (st' := [.int (iI 1)]) rfl ?_
          refine T_p xr_18_43 xn_18 (pc' := 47) (ls' := [(4, .ref a373), (3, .ref a370), (0, .ref B), (1, .int (iI x)), (2, .int (iI y))]) (st' := [.int (iI 1)]) rfl ?_
          refine T_iret xr_18_47 xf_18.2.2 (by decide) ?_
          refine hQ _ _ ?_
          exact ⟨by rw [bI_t (by unfold X_ag; first
                  | exact Or.inl ⟨by omega, Or.inl (by assumption)⟩
                  | exact Or.inl ⟨by omega, Or.inr ⟨by omega, by omega⟩⟩
                  | exact Or.inr ⟨by omega, Or.inl (by assumption)⟩
                  | exact Or.inr ⟨by omega, Or.inr ⟨by assumption, by assumption, by assumption, by assumption, by assumption⟩⟩)], rfl⟩
