theorem xr_85_0 : X_row 85 0 = some (0, (.aload_n 0, 1), (0, 0, 0)) := by decide +kernel
theorem xr_85_1 : X_row 85 1 = some (1, (.getfield 31, 3), (5, 6, 12)) := by decide +kernel
theorem xr_85_4 : X_row 85 4 = some (4, (.iload_n 1, 1), (0, 0, 0)) := by decide +kernel
theorem xr_85_5 : X_row 85 5 = some (5, (.iconst 4, 1), (0, 0, 0)) := by decide +kernel
theorem xr_85_6 : X_row 85 6 = some (6, (.imul, 1), (0, 0, 0)) := by decide +kernel
theorem xr_85_7 : X_row 85 7 = some (7, (.iload_n 2, 1), (0, 0, 0)) := by decide +kernel
theorem xr_85_8 : X_row 85 8 = some (8, (.iadd, 1), (0, 0, 0)) := by decide +kernel
theorem xr_85_9 : X_row 85 9 = some (9, (.iaload, 1), (0, 0, 0)) := by decide +kernel
theorem xr_85_10 : X_row 85 10 = some (10, (.ireturn, 1), (0, 0, 0)) := by decide +kernel
theorem xr_108_0 : X_row 108 0 = some (0, (.aload_n 0, 1), (0, 0, 0)) := by decide +kernel
theorem xr_108_1 : X_row 108 1 = some (1, (.iconst 0, 1), (0, 0, 0)) := by decide +kernel
theorem xr_108_2 : X_row 108 2 = some (2, (.putfield 25, 3), (9, 6, 32)) := by decide +kernel
theorem xr_108_5 : X_row 108 5 = some (5, (.iconst 0, 1), (0, 0, 0)) := by decide +kernel
theorem xr_108_6 : X_row 108 6 = some (6, (.istore_n 3, 1), (0, 0, 0)) := by decide +kernel
theorem xr_108_7 : X_row 108 7 = some (7, (.iload_n 3, 1), (0, 0, 0)) := by decide +kernel
theorem xr_108_8 : X_row 108 8 = some (8, (.aload_n 1, 1), (0, 0, 0)) := by decide +kernel
theorem xr_108_9 : X_row 108 9 = some (9, (.getfield 73, 3), (8, 5, 1)) := by decide +kernel
theorem xr_108_12 : X_row 108 12 = some (12, (.if_icmp .ge 82, 3), (0, 0, 0)) := by decide +kernel
theorem xr_108_15 : X_row 108 15 = some (15, (.aload_n 1, 1), (0, 0, 0)) := by decide +kernel
theorem xr_108_16 : X_row 108 16 = some (16, (.getfield 89, 3), (8, 13, 7)) := by decide +kernel
theorem xr_108_19 : X_row 108 19 = some (19, (.iload_n 3, 1), (0, 0, 0)) := by decide +kernel
theorem xr_108_20 : X_row 108 20 = some (20, (.iaload, 1), (0, 0, 0)) := by decide +kernel
theorem xr_108_21 : X_row 108 21 = some (21, (.istore 4, 2), (0, 0, 0)) := by decide +kernel
theorem xr_108_23 : X_row 108 23 = some (23, (.aload_n 1, 1), (0, 0, 0)) := by decide +kernel
theorem xr_108_24 : X_row 108 24 = some (24, (.getfield 92, 3), (8, 14, 9)) := by decide +kernel
theorem xr_108_27 : X_row 108 27 = some (27, (.iload_n 3, 1), (0, 0, 0)) := by decide +kernel
theorem xr_108_28 : X_row 108 28 = some (28, (.iaload, 1), (0, 0, 0)) := by decide +kernel
theorem xr_108_29 : X_row 108 29 = some (29, (.istore 5, 2), (0, 0, 0)) := by decide +kernel
theorem xr_108_31 : X_row 108 31 = some (31, (.iload 4, 2), (0, 0, 0)) := by decide +kernel
theorem xr_108_33 : X_row 108 33 = some (33, (.iconst 4, 1), (0, 0, 0)) := by decide +kernel
theorem xr_108_34 : X_row 108 34 = some (34, (.if_icmp .ne 12, 3), (0, 0, 0)) := by decide +kernel
theorem xr_108_37 : X_row 108 37 = some (37, (.aload_n 0, 1), (0, 0, 0)) := by decide +kernel
theorem xr_108_38 : X_row 108 38 = some (38, (.iload 5, 2), (0, 0, 0)) := by decide +kernel
theorem xr_108_40 : X_row 108 40 = some (40, (.invokevirtual 97, 3), (109, 10, 0)) := by decide +kernel
theorem xr_108_43 : X_row 108 43 = some (43, (.goto 45, 3), (0, 0, 0)) := by decide +kernel
theorem xr_108_46 : X_row 108 46 = some (46, (.iload 4, 2), (0, 0, 0)) := by decide +kernel
theorem xr_108_48 : X_row 108 48 = some (48, (.bipush 64, 2), (0, 0, 0)) := by decide +kernel
theorem xr_108_50 : X_row 108 50 = some (50, (.if_icmp .ne 27, 3), (0, 0, 0)) := by decide +kernel
theorem xr_108_53 : X_row 108 53 = some (53, (.aload_n 0, 1), (0, 0, 0)) := by decide +kernel
theorem xr_108_54 : X_row 108 54 = some (54, (.aload_n 0, 1), (0, 0, 0)) := by decide +kernel
theorem xr_108_55 : X_row 108 55 = some (55, (.getfield 18, 3), (9, 4, 28)) := by decide +kernel
theorem xr_108_58 : X_row 108 58 = some (58, (.aload_n 0, 1), (0, 0, 0)) := by decide +kernel
theorem xr_108_59 : X_row 108 59 = some (59, (.getfield 32, 3), (9, 1, 22)) := by decide +kernel
theorem xr_108_62 : X_row 108 62 = some (62, (.iload_n 2, 1), (0, 0, 0)) := by decide +kernel
theorem xr_108_63 : X_row 108 63 = some (63, (.iload 5, 2), (0, 0, 0)) := by decide +kernel
theorem xr_108_65 : X_row 108 65 = some (65, (.iconst 1, 1), (0, 0, 0)) := by decide +kernel
theorem xr_108_66 : X_row 108 66 = some (66, (.isub, 1), (0, 0, 0)) := by decide +kernel
theorem xr_108_67 : X_row 108 67 = some (67, (.invokevirtual 63, 3), (85, 6, 0)) := by decide +kernel
theorem xr_108_70 : X_row 108 70 = some (70, (.iaload, 1), (0, 0, 0)) := by decide +kernel
theorem xr_108_71 : X_row 108 71 = some (71, (.invokevirtual 97, 3), (109, 10, 0)) := by decide +kernel
theorem xr_108_74 : X_row 108 74 = some (74, (.goto 14, 3), (0, 0, 0)) := by decide +kernel
theorem xr_108_77 : X_row 108 77 = some (77, (.aload_n 0, 1), (0, 0, 0)) := by decide +kernel
theorem xr_108_78 : X_row 108 78 = some (78, (.iload 4, 2), (0, 0, 0)) := by decide +kernel
theorem xr_108_80 : X_row 108 80 = some (80, (.invokevirtual 101, 3), (110, 12, 0)) := by decide +kernel
theorem xr_108_83 : X_row 108 83 = some (83, (.ifCond .ne 5, 3), (0, 0, 0)) := by decide +kernel
theorem xr_108_86 : X_row 108 86 = some (86, (.iconst 0, 1), (0, 0, 0)) := by decide +kernel
theorem xr_108_87 : X_row 108 87 = some (87, (.ireturn, 1), (0, 0, 0)) := by decide +kernel
theorem xr_108_88 : X_row 108 88 = some (88, (.iinc 3 1, 3), (0, 0, 0)) := by decide +kernel
theorem xr_108_91 : X_row 108 91 = some (91, (.goto (-84), 3), (0, 0, 0)) := by decide +kernel
theorem xr_108_94 : X_row 108 94 = some (94, (.aload_n 0, 1), (0, 0, 0)) := by decide +kernel
theorem xr_108_95 : X_row 108 95 = some (95, (.getfield 18, 3), (9, 4, 28)) := by decide +kernel
theorem xr_108_98 : X_row 108 98 = some (98, (.iload_n 2, 1), (0, 0, 0)) := by decide +kernel
theorem xr_108_99 : X_row 108 99 = some (99, (.aload_n 0, 1), (0, 0, 0)) := by decide +kernel
theorem xr_108_100 : X_row 108 100 = some (100, (.getfield 22, 3), (9, 5, 30)) := by decide +kernel
theorem xr_108_103 : X_row 108 103 = some (103, (.iconst 0, 1), (0, 0, 0)) := by decide +kernel
theorem xr_108_104 : X_row 108 104 = some (104, (.iaload, 1), (0, 0, 0)) := by decide +kernel
theorem xr_108_105 : X_row 108 105 = some (105, (.iastore, 1), (0, 0, 0)) := by decide +kernel
theorem xr_108_106 : X_row 108 106 = some (106, (.iconst 1, 1), (0, 0, 0)) := by decide +kernel
theorem xr_108_107 : X_row 108 107 = some (107, (.ireturn, 1), (0, 0, 0)) := by decide +kernel
theorem xr_109_0 : X_row 109 0 = some (0, (.aload_n 0, 1), (0, 0, 0)) := by decide +kernel
theorem xr_109_1 : X_row 109 1 = some (1, (.getfield 25, 3), (9, 6, 32)) := by decide +kernel
theorem xr_109_4 : X_row 109 4 = some (4, (.bipush 16, 2), (0, 0, 0)) := by decide +kernel
theorem xr_109_6 : X_row 109 6 = some (6, (.if_icmp .ge 23, 3), (0, 0, 0)) := by decide +kernel
theorem xr_109_9 : X_row 109 9 = some (9, (.aload_n 0, 1), (0, 0, 0)) := by decide +kernel
theorem xr_109_10 : X_row 109 10 = some (10, (.getfield 22, 3), (9, 5, 30)) := by decide +kernel
theorem xr_109_13 : X_row 109 13 = some (13, (.aload_n 0, 1), (0, 0, 0)) := by decide +kernel
theorem xr_109_14 : X_row 109 14 = some (14, (.getfield 25, 3), (9, 6, 32)) := by decide +kernel
theorem xr_109_17 : X_row 109 17 = some (17, (.iload_n 1, 1), (0, 0, 0)) := by decide +kernel
theorem xr_109_18 : X_row 109 18 = some (18, (.iastore, 1), (0, 0, 0)) := by decide +kernel
theorem xr_109_19 : X_row 109 19 = some (19, (.aload_n 0, 1), (0, 0, 0)) := by decide +kernel
theorem xr_109_20 : X_row 109 20 = some (20, (.dup, 1), (0, 0, 0)) := by decide +kernel
theorem xr_109_21 : X_row 109 21 = some (21, (.getfield 25, 3), (9, 6, 32)) := by decide +kernel
theorem xr_109_24 : X_row 109 24 = some (24, (.iconst 1, 1), (0, 0, 0)) := by decide +kernel
theorem xr_109_25 : X_row 109 25 = some (25, (.iadd, 1), (0, 0, 0)) := by decide +kernel
theorem xr_109_26 : X_row 109 26 = some (26, (.putfield 25, 3), (9, 6, 32)) := by decide +kernel
theorem xr_109_29 : X_row 109 29 = some (29, (.return_, 1), (0, 0, 0)) := by decide +kernel
theorem xr_110_0 : X_row 110 0 = some (0, (.aload_n 0, 1), (0, 0, 0)) := by decide +kernel
theorem xr_110_1 : X_row 110 1 = some (1, (.getfield 25, 3), (9, 6, 32)) := by decide +kernel
theorem xr_110_4 : X_row 110 4 = some (4, (.iconst 2, 1), (0, 0, 0)) := by decide +kernel
theorem xr_110_5 : X_row 110 5 = some (5, (.if_icmp .ge 5, 3), (0, 0, 0)) := by decide +kernel
theorem xr_110_10 : X_row 110 10 = some (10, (.aload_n 0, 1), (0, 0, 0)) := by decide +kernel
theorem xr_110_11 : X_row 110 11 = some (11, (.getfield 22, 3), (9, 5, 30)) := by decide +kernel
theorem xr_110_14 : X_row 110 14 = some (14, (.aload_n 0, 1), (0, 0, 0)) := by decide +kernel
theorem xr_110_15 : X_row 110 15 = some (15, (.getfield 25, 3), (9, 6, 32)) := by decide +kernel
theorem xr_110_18 : X_row 110 18 = some (18, (.iconst 1, 1), (0, 0, 0)) := by decide +kernel
theorem xr_110_19 : X_row 110 19 = some (19, (.isub, 1), (0, 0, 0)) := by decide +kernel
theorem xr_110_20 : X_row 110 20 = some (20, (.iaload, 1), (0, 0, 0)) := by decide +kernel
theorem xr_110_21 : X_row 110 21 = some (21, (.istore_n 2, 1), (0, 0, 0)) := by decide +kernel
theorem xr_110_22 : X_row 110 22 = some (22, (.aload_n 0, 1), (0, 0, 0)) := by decide +kernel
theorem xr_110_23 : X_row 110 23 = some (23, (.getfield 22, 3), (9, 5, 30)) := by decide +kernel
theorem xr_110_26 : X_row 110 26 = some (26, (.aload_n 0, 1), (0, 0, 0)) := by decide +kernel
theorem xr_110_27 : X_row 110 27 = some (27, (.getfield 25, 3), (9, 6, 32)) := by decide +kernel
theorem xr_110_30 : X_row 110 30 = some (30, (.iconst 2, 1), (0, 0, 0)) := by decide +kernel
theorem xr_110_31 : X_row 110 31 = some (31, (.isub, 1), (0, 0, 0)) := by decide +kernel
theorem xr_110_32 : X_row 110 32 = some (32, (.iaload, 1), (0, 0, 0)) := by decide +kernel
theorem xr_110_33 : X_row 110 33 = some (33, (.istore_n 3, 1), (0, 0, 0)) := by decide +kernel
theorem xr_110_34 : X_row 110 34 = some (34, (.iload_n 2, 1), (0, 0, 0)) := by decide +kernel
theorem xr_110_35 : X_row 110 35 = some (35, (.ifCond .ne 17, 3), (0, 0, 0)) := by decide +kernel
theorem xr_110_38 : X_row 110 38 = some (38, (.iload_n 1, 1), (0, 0, 0)) := by decide +kernel
theorem xr_110_39 : X_row 110 39 = some (39, (.bipush 47, 2), (0, 0, 0)) := by decide +kernel
theorem xr_110_41 : X_row 110 41 = some (41, (.if_icmp .eq 9, 3), (0, 0, 0)) := by decide +kernel
theorem xr_110_44 : X_row 110 44 = some (44, (.iload_n 1, 1), (0, 0, 0)) := by decide +kernel
theorem xr_110_45 : X_row 110 45 = some (45, (.bipush 37, 2), (0, 0, 0)) := by decide +kernel
theorem xr_110_47 : X_row 110 47 = some (47, (.if_icmp .ne 5, 3), (0, 0, 0)) := by decide +kernel
theorem xr_110_50 : X_row 110 50 = some (50, (.iconst 0, 1), (0, 0, 0)) := by decide +kernel
theorem xr_110_51 : X_row 110 51 = some (51, (.ireturn, 1), (0, 0, 0)) := by decide +kernel
theorem xr_110_52 : X_row 110 52 = some (52, (.aload_n 0, 1), (0, 0, 0)) := by decide +kernel
theorem xr_110_53 : X_row 110 53 = some (53, (.dup, 1), (0, 0, 0)) := by decide +kernel
theorem xr_110_54 : X_row 110 54 = some (54, (.getfield 25, 3), (9, 6, 32)) := by decide +kernel
theorem xr_110_57 : X_row 110 57 = some (57, (.iconst 1, 1), (0, 0, 0)) := by decide +kernel
theorem xr_110_58 : X_row 110 58 = some (58, (.isub, 1), (0, 0, 0)) := by decide +kernel
theorem xr_110_59 : X_row 110 59 = some (59, (.putfield 25, 3), (9, 6, 32)) := by decide +kernel
theorem xr_110_62 : X_row 110 62 = some (62, (.aload_n 0, 1), (0, 0, 0)) := by decide +kernel
theorem xr_110_63 : X_row 110 63 = some (63, (.getfield 22, 3), (9, 5, 30)) := by decide +kernel
theorem xr_110_66 : X_row 110 66 = some (66, (.aload_n 0, 1), (0, 0, 0)) := by decide +kernel
theorem xr_110_67 : X_row 110 67 = some (67, (.getfield 25, 3), (9, 6, 32)) := by decide +kernel
theorem xr_110_70 : X_row 110 70 = some (70, (.iconst 1, 1), (0, 0, 0)) := by decide +kernel
theorem xr_110_71 : X_row 110 71 = some (71, (.isub, 1), (0, 0, 0)) := by decide +kernel
theorem xr_110_72 : X_row 110 72 = some (72, (.iload_n 1, 1), (0, 0, 0)) := by decide +kernel
theorem xr_110_73 : X_row 110 73 = some (73, (.iload_n 3, 1), (0, 0, 0)) := by decide +kernel
theorem xr_110_74 : X_row 110 74 = some (74, (.iload_n 2, 1), (0, 0, 0)) := by decide +kernel
theorem xr_110_75 : X_row 110 75 = some (75, (.invokestatic 105, 3), (111, 14, 0)) := by decide +kernel
theorem xr_110_78 : X_row 110 78 = some (78, (.iastore, 1), (0, 0, 0)) := by decide +kernel
theorem xr_110_79 : X_row 110 79 = some (79, (.iconst 1, 1), (0, 0, 0)) := by decide +kernel
theorem xr_110_80 : X_row 110 80 = some (80, (.ireturn, 1), (0, 0, 0)) := by decide +kernel
theorem xr_111_0 : X_row 111 0 = some (0, (.iload_n 0, 1), (0, 0, 0)) := by decide +kernel
theorem xr_111_1 : X_row 111 1 = some (1, (.tableswitch 95 37 47 #[83, 95, 95, 95, 95, 67, 59, 95, 63, 95, 71], 59), (0, 0, 0)) := by decide +kernel
theorem xr_111_60 : X_row 111 60 = some (60, (.iload_n 1, 1), (0, 0, 0)) := by decide +kernel
theorem xr_111_61 : X_row 111 61 = some (61, (.iload_n 2, 1), (0, 0, 0)) := by decide +kernel
theorem xr_111_62 : X_row 111 62 = some (62, (.iadd, 1), (0, 0, 0)) := by decide +kernel
theorem xr_111_63 : X_row 111 63 = some (63, (.ireturn, 1), (0, 0, 0)) := by decide +kernel
theorem xr_111_64 : X_row 111 64 = some (64, (.iload_n 1, 1), (0, 0, 0)) := by decide +kernel
theorem xr_111_65 : X_row 111 65 = some (65, (.iload_n 2, 1), (0, 0, 0)) := by decide +kernel
theorem xr_111_66 : X_row 111 66 = some (66, (.isub, 1), (0, 0, 0)) := by decide +kernel
theorem xr_111_67 : X_row 111 67 = some (67, (.ireturn, 1), (0, 0, 0)) := by decide +kernel
theorem xr_111_68 : X_row 111 68 = some (68, (.iload_n 1, 1), (0, 0, 0)) := by decide +kernel
theorem xr_111_69 : X_row 111 69 = some (69, (.iload_n 2, 1), (0, 0, 0)) := by decide +kernel
theorem xr_111_70 : X_row 111 70 = some (70, (.imul, 1), (0, 0, 0)) := by decide +kernel
theorem xr_111_71 : X_row 111 71 = some (71, (.ireturn, 1), (0, 0, 0)) := by decide +kernel
theorem xr_111_72 : X_row 111 72 = some (72, (.iload_n 2, 1), (0, 0, 0)) := by decide +kernel
theorem xr_111_73 : X_row 111 73 = some (73, (.ifCond .ne 7, 3), (0, 0, 0)) := by decide +kernel
theorem xr_111_80 : X_row 111 80 = some (80, (.iload_n 1, 1), (0, 0, 0)) := by decide +kernel
theorem xr_111_81 : X_row 111 81 = some (81, (.iload_n 2, 1), (0, 0, 0)) := by decide +kernel
theorem xr_111_82 : X_row 111 82 = some (82, (.idiv, 1), (0, 0, 0)) := by decide +kernel
theorem xr_111_83 : X_row 111 83 = some (83, (.ireturn, 1), (0, 0, 0)) := by decide +kernel
theorem xr_111_84 : X_row 111 84 = some (84, (.iload_n 2, 1), (0, 0, 0)) := by decide +kernel
theorem xr_111_85 : X_row 111 85 = some (85, (.ifCond .ne 7, 3), (0, 0, 0)) := by decide +kernel
theorem xr_111_92 : X_row 111 92 = some (92, (.iload_n 1, 1), (0, 0, 0)) := by decide +kernel
theorem xr_111_93 : X_row 111 93 = some (93, (.iload_n 2, 1), (0, 0, 0)) := by decide +kernel
theorem xr_111_94 : X_row 111 94 = some (94, (.irem, 1), (0, 0, 0)) := by decide +kernel
theorem xr_111_95 : X_row 111 95 = some (95, (.ireturn, 1), (0, 0, 0)) := by decide +kernel
theorem xr_111_96 : X_row 111 96 = some (96, (.iload_n 1, 1), (0, 0, 0)) := by decide +kernel
theorem xr_111_97 : X_row 111 97 = some (97, (.iload_n 2, 1), (0, 0, 0)) := by decide +kernel
theorem xr_111_98 : X_row 111 98 = some (98, (.if_icmp .ge 7, 3), (0, 0, 0)) := by decide +kernel
theorem xr_111_101 : X_row 111 101 = some (101, (.iconst 1, 1), (0, 0, 0)) := by decide +kernel
theorem xr_111_102 : X_row 111 102 = some (102, (.goto 4, 3), (0, 0, 0)) := by decide +kernel
theorem xr_111_105 : X_row 111 105 = some (105, (.iconst 0, 1), (0, 0, 0)) := by decide +kernel
theorem xr_111_106 : X_row 111 106 = some (106, (.ireturn, 1), (0, 0, 0)) := by decide +kernel
theorem xn_85 : X_nL 85 = 3 := by decide +kernel
theorem xf_85 : X_na 85 = 2 ∧ X_ci 85 = 5 ∧ X_rt 85 = (some .int) := by decide +kernel
theorem xn_108 : X_nL 108 = 6 := by decide +kernel
theorem xf_108 : X_na 108 = 2 ∧ X_ci 108 = 9 ∧ X_rt 108 = (some .boolean) := by decide +kernel
theorem xn_109 : X_nL 109 = 2 := by decide +kernel
theorem xf_109 : X_na 109 = 1 ∧ X_ci 109 = 9 ∧ X_rt 109 = none := by decide +kernel
theorem xn_110 : X_nL 110 = 4 := by decide +kernel
theorem xf_110 : X_na 110 = 1 ∧ X_ci 110 = 9 ∧ X_rt 110 = (some .boolean) := by decide +kernel
theorem xn_111 : X_nL 111 = 3 := by decide +kernel
theorem xf_111 : X_na 111 = 3 ∧ X_ci 111 = 9 ∧ X_rt 111 = (some .int) := by decide +kernel
theorem c_outcome (sc : X_Sc) (S : X_S) (s : Int) (a : Int) (b : Int) (hs : X_isOp s) (hab : (-2147483648 ≤ a ∧ a ≤ 2147483647) ∧ -2147483648 ≤ b ∧ b ≤ 2147483647) (h0 : s = 47 ∨ s = 37 → ¬ b = 0) : X_T sc 111 (0, [(0, .int (iI s)), (1, .int (iI a)), (2, .int (iI b))], [], S) (fun v S' => v = some (.int (iI (X_out2 s a b))) ∧ S' = S) := by
  have hsr : 37 ≤ s ∧ s ≤ 60 := by unfold X_isOp at hs; omega
  refine X_QI (fun Q hQ => ?_)
  refine T_p xr_111_0 xn_111 (pc' := 1) (ls' := [(0, .int (iI s)), (1, .int (iI a)), (2, .int (iI b))]) (st' := [.int (iI s)]) rfl ?_
  rcases (show s = 37 ∨ s = 38 ∨ s = 39 ∨ s = 40 ∨ s = 41 ∨ s = 42 ∨ s = 43 ∨ s = 44 ∨ s = 45 ∨ s = 46 ∨ s = 47 ∨ (s < 37 ∨ 47 < s) by omega) with cs1875 | cs1875 | cs1875 | cs1875 | cs1875 | cs1875 | cs1875 | cs1875 | cs1875 | cs1875 | cs1875 | cs1875
  · skip
    refine T_tsk xr_111_1 cs1875 (by decide) (by decide) (off := 83) rfl (t := 84) rfl ?_
    refine T_p xr_111_84 xn_111 (pc' := 85) (ls' := [(0, .int (iI s)), (1, .int (iI a)), (2, .int (iI b))]) (st' := [.int (iI b)]) rfl ?_
    refine T_zif_ne xr_111_85 (t := 92) (pc' := 88) rfl rfl (fun c1876 => ?_) (fun c1876 => ?_)
    · skip
      have c1876 : ¬ b = 0 := c1876
      refine T_p xr_111_92 xn_111 (pc' := 93) (ls' := [(0, .int (iI s)), (1, .int (iI a)), (2, .int (iI b))]) (st' := [.int (iI a)]) rfl ?_
      refine T_p xr_111_93 xn_111 (pc' := 94) (ls' := [(0, .int (iI s)), (1, .int (iI a)), (2, .int (iI b))]) (st' := [.int (iI b), .int (iI a)]) rfl ?_
      refine T_p xr_111_94 xn_111 (pc' := 95) (ls' := [(0, .int (iI s)), (1, .int (iI a)), (2, .int (iI b))]) (st' := .int (iI a - iI a / iI b * iI b) :: []) (by simp only [X_pstep, X_i2]; rw [if_neg (by exact fun z => absurd ((iI_eq (b := 0) (by omega) (by omega) (by omega) (by omega)).mp z) (by omega))]) ?_
      refine T_ie (y := iI ((iI a - iI a / iI b * iI b).toInt)) (iI_of _) ?_
      refine T_iret xr_111_95 xf_111.2.2 rfl ?_
      refine hQ _ _ ?_
      exact ⟨(congrArg (fun z => some (Value.int z)) (X_out2_f hs (Or.inr (Or.inr (Or.inr (Or.inr (Or.inl ⟨by omega, (iI_of _).symm⟩))))))), rfl⟩
    · skip
      have c1876 : ¬ (¬ b = 0) := c1876
      exact absurd (show b = 0 by omega) (h0 (by omega))
  · skip
    refine T_tsk xr_111_1 cs1875 (by decide) (by decide) (off := 95) rfl (t := 96) rfl ?_
    refine T_p xr_111_96 xn_111 (pc' := 97) (ls' := [(0, .int (iI s)), (1, .int (iI a)), (2, .int (iI b))]) (st' := [.int (iI a)]) rfl ?_
    refine T_p xr_111_97 xn_111 (pc' := 98) (ls' := [(0, .int (iI s)), (1, .int (iI a)), (2, .int (iI b))]) (st' := [.int (iI b), .int (iI a)]) rfl ?_
    refine T_zicmp_ge xr_111_98 (t := 105) (pc' := 101) rfl rfl (fun c1877 => ?_) (fun c1877 => ?_)
    · skip
      have c1877 : b ≤ a := c1877
      refine T_p xr_111_105 xn_111 (pc' := 106) (ls' := [(0, .int (iI s)), (1, .int (iI a)), (2, .int (iI b))]) (st' := [.int (iI 0)]) rfl ?_
      refine T_iret xr_111_106 xf_111.2.2 rfl ?_
      refine hQ _ _ ?_
      exact ⟨(congrArg (fun z => some (Value.int z)) (X_out2_f hs (Or.inr (Or.inr (Or.inr (Or.inr (Or.inr (⟨by unfold X_isOp at hs; omega, (bI_f (by omega)).symm⟩)))))))), rfl⟩
    · skip
      have c1877 : ¬ (b ≤ a) := c1877
      refine T_p xr_111_101 xn_111 (pc' := 102) (ls' := [(0, .int (iI s)), (1, .int (iI a)), (2, .int (iI b))]) (st' := [.int (iI 1)]) rfl ?_
      refine T_p xr_111_102 xn_111 (pc' := 106) (ls' := [(0, .int (iI s)), (1, .int (iI a)), (2, .int (iI b))]) (st' := [.int (iI 1)]) rfl ?_
      refine T_iret xr_111_106 xf_111.2.2 rfl ?_
      refine hQ _ _ ?_
      exact ⟨(congrArg (fun z => some (Value.int z)) (X_out2_f hs (Or.inr (Or.inr (Or.inr (Or.inr (Or.inr (⟨by unfold X_isOp at hs; omega, (bI_t (by omega)).symm⟩)))))))), rfl⟩
  · skip
    refine T_tsk xr_111_1 cs1875 (by decide) (by decide) (off := 95) rfl (t := 96) rfl ?_
    refine T_p xr_111_96 xn_111 (pc' := 97) (ls' := [(0, .int (iI s)), (1, .int (iI a)), (2, .int (iI b))]) (st' := [.int (iI a)]) rfl ?_
    refine T_p xr_111_97 xn_111 (pc' := 98) (ls' := [(0, .int (iI s)), (1, .int (iI a)), (2, .int (iI b))]) (st' := [.int (iI b), .int (iI a)]) rfl ?_
    refine T_zicmp_ge xr_111_98 (t := 105) (pc' := 101) rfl rfl (fun c1878 => ?_) (fun c1878 => ?_)
    · skip
      have c1878 : b ≤ a := c1878
      refine T_p xr_111_105 xn_111 (pc' := 106) (ls' := [(0, .int (iI s)), (1, .int (iI a)), (2, .int (iI b))]) (st' := [.int (iI 0)]) rfl ?_
      refine T_iret xr_111_106 xf_111.2.2 rfl ?_
      refine hQ _ _ ?_
      exact ⟨(congrArg (fun z => some (Value.int z)) (X_out2_f hs (Or.inr (Or.inr (Or.inr (Or.inr (Or.inr (⟨by unfold X_isOp at hs; omega, (bI_f (by omega)).symm⟩)))))))), rfl⟩
    · skip
      have c1878 : ¬ (b ≤ a) := c1878
      refine T_p xr_111_101 xn_111 (pc' := 102) (ls' := [(0, .int (iI s)), (1, .int (iI a)), (2, .int (iI b))]) (st' := [.int (iI 1)]) rfl ?_
      refine T_p xr_111_102 xn_111 (pc' := 106) (ls' := [(0, .int (iI s)), (1, .int (iI a)), (2, .int (iI b))]) (st' := [.int (iI 1)]) rfl ?_
      refine T_iret xr_111_106 xf_111.2.2 rfl ?_
      refine hQ _ _ ?_
      exact ⟨(congrArg (fun z => some (Value.int z)) (X_out2_f hs (Or.inr (Or.inr (Or.inr (Or.inr (Or.inr (⟨by unfold X_isOp at hs; omega, (bI_t (by omega)).symm⟩)))))))), rfl⟩
  · skip
    refine T_tsk xr_111_1 cs1875 (by decide) (by decide) (off := 95) rfl (t := 96) rfl ?_
    refine T_p xr_111_96 xn_111 (pc' := 97) (ls' := [(0, .int (iI s)), (1, .int (iI a)), (2, .int (iI b))]) (st' := [.int (iI a)]) rfl ?_
    refine T_p xr_111_97 xn_111 (pc' := 98) (ls' := [(0, .int (iI s)), (1, .int (iI a)), (2, .int (iI b))]) (st' := [.int (iI b), .int (iI a)]) rfl ?_
    refine T_zicmp_ge xr_111_98 (t := 105) (pc' := 101) rfl rfl (fun c1879 => ?_) (fun c1879 => ?_)
    · skip
      have c1879 : b ≤ a := c1879
      refine T_p xr_111_105 xn_111 (pc' := 106) (ls' := [(0, .int (iI s)), (1, .int (iI a)), (2, .int (iI b))]) (st' := [.int (iI 0)]) rfl ?_
      refine T_iret xr_111_106 xf_111.2.2 rfl ?_
      refine hQ _ _ ?_
      exact ⟨(congrArg (fun z => some (Value.int z)) (X_out2_f hs (Or.inr (Or.inr (Or.inr (Or.inr (Or.inr (⟨by unfold X_isOp at hs; omega, (bI_f (by omega)).symm⟩)))))))), rfl⟩
    · skip
      have c1879 : ¬ (b ≤ a) := c1879
      refine T_p xr_111_101 xn_111 (pc' := 102) (ls' := [(0, .int (iI s)), (1, .int (iI a)), (2, .int (iI b))]) (st' := [.int (iI 1)]) rfl ?_
      refine T_p xr_111_102 xn_111 (pc' := 106) (ls' := [(0, .int (iI s)), (1, .int (iI a)), (2, .int (iI b))]) (st' := [.int (iI 1)]) rfl ?_
      refine T_iret xr_111_106 xf_111.2.2 rfl ?_
      refine hQ _ _ ?_
      exact ⟨(congrArg (fun z => some (Value.int z)) (X_out2_f hs (Or.inr (Or.inr (Or.inr (Or.inr (Or.inr (⟨by unfold X_isOp at hs; omega, (bI_t (by omega)).symm⟩)))))))), rfl⟩
  · skip
    refine T_tsk xr_111_1 cs1875 (by decide) (by decide) (off := 95) rfl (t := 96) rfl ?_
    refine T_p xr_111_96 xn_111 (pc' := 97) (ls' := [(0, .int (iI s)), (1, .int (iI a)), (2, .int (iI b))]) (st' := [.int (iI a)]) rfl ?_
    refine T_p xr_111_97 xn_111 (pc' := 98) (ls' := [(0, .int (iI s)), (1, .int (iI a)), (2, .int (iI b))]) (st' := [.int (iI b), .int (iI a)]) rfl ?_
    refine T_zicmp_ge xr_111_98 (t := 105) (pc' := 101) rfl rfl (fun c1880 => ?_) (fun c1880 => ?_)
    · skip
      have c1880 : b ≤ a := c1880
      refine T_p xr_111_105 xn_111 (pc' := 106) (ls' := [(0, .int (iI s)), (1, .int (iI a)), (2, .int (iI b))]) (st' := [.int (iI 0)]) rfl ?_
      refine T_iret xr_111_106 xf_111.2.2 rfl ?_
      refine hQ _ _ ?_
      exact ⟨(congrArg (fun z => some (Value.int z)) (X_out2_f hs (Or.inr (Or.inr (Or.inr (Or.inr (Or.inr (⟨by unfold X_isOp at hs; omega, (bI_f (by omega)).symm⟩)))))))), rfl⟩
    · skip
      have c1880 : ¬ (b ≤ a) := c1880
      refine T_p xr_111_101 xn_111 (pc' := 102) (ls' := [(0, .int (iI s)), (1, .int (iI a)), (2, .int (iI b))]) (st' := [.int (iI 1)]) rfl ?_
      refine T_p xr_111_102 xn_111 (pc' := 106) (ls' := [(0, .int (iI s)), (1, .int (iI a)), (2, .int (iI b))]) (st' := [.int (iI 1)]) rfl ?_
      refine T_iret xr_111_106 xf_111.2.2 rfl ?_
      refine hQ _ _ ?_
      exact ⟨(congrArg (fun z => some (Value.int z)) (X_out2_f hs (Or.inr (Or.inr (Or.inr (Or.inr (Or.inr (⟨by unfold X_isOp at hs; omega, (bI_t (by omega)).symm⟩)))))))), rfl⟩
  · skip
    refine T_tsk xr_111_1 cs1875 (by decide) (by decide) (off := 67) rfl (t := 68) rfl ?_
    refine T_p xr_111_68 xn_111 (pc' := 69) (ls' := [(0, .int (iI s)), (1, .int (iI a)), (2, .int (iI b))]) (st' := [.int (iI a)]) rfl ?_
    refine T_p xr_111_69 xn_111 (pc' := 70) (ls' := [(0, .int (iI s)), (1, .int (iI a)), (2, .int (iI b))]) (st' := [.int (iI b), .int (iI a)]) rfl ?_
    refine T_zimul xr_111_70 (z := a * b) rfl (pc' := 71) rfl ?_
    refine T_iret xr_111_71 xf_111.2.2 rfl ?_
    refine hQ _ _ ?_
    exact ⟨(congrArg (fun z => some (Value.int z)) (X_out2_f hs (Or.inr (Or.inr (Or.inl ⟨by omega, (Int32.ofInt_mul _ _)⟩))))), rfl⟩
  · skip
    refine T_tsk xr_111_1 cs1875 (by decide) (by decide) (off := 59) rfl (t := 60) rfl ?_
    refine T_p xr_111_60 xn_111 (pc' := 61) (ls' := [(0, .int (iI s)), (1, .int (iI a)), (2, .int (iI b))]) (st' := [.int (iI a)]) rfl ?_
    refine T_p xr_111_61 xn_111 (pc' := 62) (ls' := [(0, .int (iI s)), (1, .int (iI a)), (2, .int (iI b))]) (st' := [.int (iI b), .int (iI a)]) rfl ?_
    refine T_ziadd xr_111_62 (z := a + b) rfl (pc' := 63) rfl ?_
    refine T_iret xr_111_63 xf_111.2.2 rfl ?_
    refine hQ _ _ ?_
    exact ⟨(congrArg (fun z => some (Value.int z)) (X_out2_f hs (Or.inl ⟨by omega, (Int32.ofInt_add _ _)⟩))), rfl⟩
  · skip
    refine T_tsk xr_111_1 cs1875 (by decide) (by decide) (off := 95) rfl (t := 96) rfl ?_
    refine T_p xr_111_96 xn_111 (pc' := 97) (ls' := [(0, .int (iI s)), (1, .int (iI a)), (2, .int (iI b))]) (st' := [.int (iI a)]) rfl ?_
    refine T_p xr_111_97 xn_111 (pc' := 98) (ls' := [(0, .int (iI s)), (1, .int (iI a)), (2, .int (iI b))]) (st' := [.int (iI b), .int (iI a)]) rfl ?_
    refine T_zicmp_ge xr_111_98 (t := 105) (pc' := 101) rfl rfl (fun c1881 => ?_) (fun c1881 => ?_)
    · skip
      have c1881 : b ≤ a := c1881
      refine T_p xr_111_105 xn_111 (pc' := 106) (ls' := [(0, .int (iI s)), (1, .int (iI a)), (2, .int (iI b))]) (st' := [.int (iI 0)]) rfl ?_
      refine T_iret xr_111_106 xf_111.2.2 rfl ?_
      refine hQ _ _ ?_
      exact ⟨(congrArg (fun z => some (Value.int z)) (X_out2_f hs (Or.inr (Or.inr (Or.inr (Or.inr (Or.inr (⟨by unfold X_isOp at hs; omega, (bI_f (by omega)).symm⟩)))))))), rfl⟩
    · skip
      have c1881 : ¬ (b ≤ a) := c1881
      refine T_p xr_111_101 xn_111 (pc' := 102) (ls' := [(0, .int (iI s)), (1, .int (iI a)), (2, .int (iI b))]) (st' := [.int (iI 1)]) rfl ?_
      refine T_p xr_111_102 xn_111 (pc' := 106) (ls' := [(0, .int (iI s)), (1, .int (iI a)), (2, .int (iI b))]) (st' := [.int (iI 1)]) rfl ?_
      refine T_iret xr_111_106 xf_111.2.2 rfl ?_
      refine hQ _ _ ?_
      exact ⟨(congrArg (fun z => some (Value.int z)) (X_out2_f hs (Or.inr (Or.inr (Or.inr (Or.inr (Or.inr (⟨by unfold X_isOp at hs; omega, (bI_t (by omega)).symm⟩)))))))), rfl⟩
  · skip
    refine T_tsk xr_111_1 cs1875 (by decide) (by decide) (off := 63) rfl (t := 64) rfl ?_
    refine T_p xr_111_64 xn_111 (pc' := 65) (ls' := [(0, .int (iI s)), (1, .int (iI a)), (2, .int (iI b))]) (st' := [.int (iI a)]) rfl ?_
    refine T_p xr_111_65 xn_111 (pc' := 66) (ls' := [(0, .int (iI s)), (1, .int (iI a)), (2, .int (iI b))]) (st' := [.int (iI b), .int (iI a)]) rfl ?_
    refine T_zisub xr_111_66 (z := a - b) rfl (pc' := 67) rfl ?_
    refine T_iret xr_111_67 xf_111.2.2 rfl ?_
    refine hQ _ _ ?_
    exact ⟨(congrArg (fun z => some (Value.int z)) (X_out2_f hs (Or.inr (Or.inl ⟨by omega, (Int32.ofInt_sub _ _)⟩)))), rfl⟩
  · skip
    refine T_tsk xr_111_1 cs1875 (by decide) (by decide) (off := 95) rfl (t := 96) rfl ?_
    refine T_p xr_111_96 xn_111 (pc' := 97) (ls' := [(0, .int (iI s)), (1, .int (iI a)), (2, .int (iI b))]) (st' := [.int (iI a)]) rfl ?_
    refine T_p xr_111_97 xn_111 (pc' := 98) (ls' := [(0, .int (iI s)), (1, .int (iI a)), (2, .int (iI b))]) (st' := [.int (iI b), .int (iI a)]) rfl ?_
    refine T_zicmp_ge xr_111_98 (t := 105) (pc' := 101) rfl rfl (fun c1882 => ?_) (fun c1882 => ?_)
    · skip
      have c1882 : b ≤ a := c1882
      refine T_p xr_111_105 xn_111 (pc' := 106) (ls' := [(0, .int (iI s)), (1, .int (iI a)), (2, .int (iI b))]) (st' := [.int (iI 0)]) rfl ?_
      refine T_iret xr_111_106 xf_111.2.2 rfl ?_
      refine hQ _ _ ?_
      exact ⟨(congrArg (fun z => some (Value.int z)) (X_out2_f hs (Or.inr (Or.inr (Or.inr (Or.inr (Or.inr (⟨by unfold X_isOp at hs; omega, (bI_f (by omega)).symm⟩)))))))), rfl⟩
    · skip
      have c1882 : ¬ (b ≤ a) := c1882
      refine T_p xr_111_101 xn_111 (pc' := 102) (ls' := [(0, .int (iI s)), (1, .int (iI a)), (2, .int (iI b))]) (st' := [.int (iI 1)]) rfl ?_
      refine T_p xr_111_102 xn_111 (pc' := 106) (ls' := [(0, .int (iI s)), (1, .int (iI a)), (2, .int (iI b))]) (st' := [.int (iI 1)]) rfl ?_
      refine T_iret xr_111_106 xf_111.2.2 rfl ?_
      refine hQ _ _ ?_
      exact ⟨(congrArg (fun z => some (Value.int z)) (X_out2_f hs (Or.inr (Or.inr (Or.inr (Or.inr (Or.inr (⟨by unfold X_isOp at hs; omega, (bI_t (by omega)).symm⟩)))))))), rfl⟩
  · skip
    refine T_tsk xr_111_1 cs1875 (by decide) (by decide) (off := 71) rfl (t := 72) rfl ?_
    refine T_p xr_111_72 xn_111 (pc' := 73) (ls' := [(0, .int (iI s)), (1, .int (iI a)), (2, .int (iI b))]) (st' := [.int (iI b)]) rfl ?_
    refine T_zif_ne xr_111_73 (t := 80) (pc' := 76) rfl rfl (fun c1883 => ?_) (fun c1883 => ?_)
    · skip
      have c1883 : ¬ b = 0 := c1883
      refine T_p xr_111_80 xn_111 (pc' := 81) (ls' := [(0, .int (iI s)), (1, .int (iI a)), (2, .int (iI b))]) (st' := [.int (iI a)]) rfl ?_
      refine T_p xr_111_81 xn_111 (pc' := 82) (ls' := [(0, .int (iI s)), (1, .int (iI a)), (2, .int (iI b))]) (st' := [.int (iI b), .int (iI a)]) rfl ?_
      refine T_p xr_111_82 xn_111 (pc' := 83) (ls' := [(0, .int (iI s)), (1, .int (iI a)), (2, .int (iI b))]) (st' := .int (iI a / iI b) :: []) (by simp only [X_pstep, X_i2]; rw [if_neg (by exact fun z => absurd ((iI_eq (b := 0) (by omega) (by omega) (by omega) (by omega)).mp z) (by omega))]) ?_
      refine T_ie (y := iI ((iI a / iI b).toInt)) (iI_of _) ?_
      refine T_iret xr_111_83 xf_111.2.2 rfl ?_
      refine hQ _ _ ?_
      exact ⟨(congrArg (fun z => some (Value.int z)) (X_out2_f hs (Or.inr (Or.inr (Or.inr (Or.inl ⟨by omega, (iI_of _).symm⟩)))))), rfl⟩
    · skip
      have c1883 : ¬ (¬ b = 0) := c1883
      exact absurd (show b = 0 by omega) (h0 (by omega))
  · skip
    refine T_tsd xr_111_1 cs1875 (by omega) (t := 96) rfl ?_
    refine T_p xr_111_96 xn_111 (pc' := 97) (ls' := [(0, .int (iI s)), (1, .int (iI a)), (2, .int (iI b))]) (st' := [.int (iI a)]) rfl ?_
    refine T_p xr_111_97 xn_111 (pc' := 98) (ls' := [(0, .int (iI s)), (1, .int (iI a)), (2, .int (iI b))]) (st' := [.int (iI b), .int (iI a)]) rfl ?_
    refine T_zicmp_ge xr_111_98 (t := 105) (pc' := 101) rfl rfl (fun c1884 => ?_) (fun c1884 => ?_)
    · skip
      have c1884 : b ≤ a := c1884
      refine T_p xr_111_105 xn_111 (pc' := 106) (ls' := [(0, .int (iI s)), (1, .int (iI a)), (2, .int (iI b))]) (st' := [.int (iI 0)]) rfl ?_
      refine T_iret xr_111_106 xf_111.2.2 rfl ?_
      refine hQ _ _ ?_
      exact ⟨(congrArg (fun z => some (Value.int z)) (X_out2_f hs (Or.inr (Or.inr (Or.inr (Or.inr (Or.inr (⟨by unfold X_isOp at hs; omega, (bI_f (by omega)).symm⟩)))))))), rfl⟩
    · skip
      have c1884 : ¬ (b ≤ a) := c1884
      refine T_p xr_111_101 xn_111 (pc' := 102) (ls' := [(0, .int (iI s)), (1, .int (iI a)), (2, .int (iI b))]) (st' := [.int (iI 1)]) rfl ?_
      refine T_p xr_111_102 xn_111 (pc' := 106) (ls' := [(0, .int (iI s)), (1, .int (iI a)), (2, .int (iI b))]) (st' := [.int (iI 1)]) rfl ?_
      refine T_iret xr_111_106 xf_111.2.2 rfl ?_
      refine hQ _ _ ?_
      exact ⟨(congrArg (fun z => some (Value.int z)) (X_out2_f hs (Or.inr (Or.inr (Or.inr (Or.inr (Or.inr (⟨by unfold X_isOp at hs; omega, (bI_t (by omega)).symm⟩)))))))), rfl⟩
theorem c_operate (sc : X_Sc) (S : X_S) (pl : Int → Int) (s : Int) (hgt : Int) (rs : Int) (re : Int) (hO527 : S.1 527 = .inr (9, [.ref 501, .ref 504, .int (iI rs), .int (iI re), .ref 528, .ref 529, .int (iI hgt)])) (hA529 : S.1 529 = .inl (.int, 16, .inl fun k : Nat => iI (pl (k : Int)))) (hs : X_isOp s) (hh : 2 ≤ hgt ∧ hgt ≤ 16) (hpr : ∀ q, 0 ≤ q → q < hgt → -2147483648 ≤ pl q ∧ pl q ≤ 2147483647) : X_T sc 110 (0, [(0, .ref 527), (1, .int (iI s))], [], S) (fun v S' => (v = some (.int (iI 0)) ∧ ((s = 47 ∨ s = 37) ∧ pl (hgt - 1) = 0) ∧ S' = S) ∨ (v = some (.int (iI 1)) ∧ (¬ ((s = 47 ∨ s = 37) ∧ pl (hgt - 1) = 0)) ∧ S'.1 527 = .inr (9, [.ref 501, .ref 504, .int (iI rs), .int (iI re), .ref 528, .ref 529, .int (iI (hgt - 1))]) ∧ S'.1 529 = .inl (.int, 16, .inl fun k : Nat => iI ((X_ug pl (hgt - 2) (X_out2 s (pl (hgt - 2)) (pl (hgt - 1)))) (k : Int))) ∧ (X_Fr (fun q => q = 529 ∨ q = 527) S S'))) := by
  have hp1 := hpr (hgt - 1) (by omega) (by omega)
  have hp2 := hpr (hgt - 2) (by omega) (by omega)
  have hsr : 37 ≤ s ∧ s ≤ 60 := by unfold X_isOp at hs; omega
  refine X_QI (fun Q hQ => ?_)
  refine T_p xr_110_0 xn_110 (pc' := 1) (ls' := [(0, .ref 527), (1, .int (iI s))]) (st' := [.ref 527]) rfl ?_
  refine T_get xr_110_1 hO527 rfl (v := .int (iI hgt)) rfl (pc' := 4) rfl ?_
  refine T_p xr_110_4 xn_110 (pc' := 5) (ls' := [(0, .ref 527), (1, .int (iI s))]) (st' := [.int (iI 2), .int (iI hgt)]) rfl ?_
  refine T_zicmp_ge xr_110_5 (t := 10) (pc' := 8) rfl rfl (fun c1885 => ?_) (fun c1885 => ?_)
  · skip
    have c1885 : 2 ≤ hgt := c1885
    refine T_p xr_110_10 xn_110 (pc' := 11) (ls' := [(0, .ref 527), (1, .int (iI s))]) (st' := [.ref 527]) rfl ?_
    refine T_get xr_110_11 hO527 rfl (v := .ref 529) rfl (pc' := 14) rfl ?_
    refine T_p xr_110_14 xn_110 (pc' := 15) (ls' := [(0, .ref 527), (1, .int (iI s))]) (st' := [.ref 527, .ref 529]) rfl ?_
    refine T_get xr_110_15 hO527 rfl (v := .int (iI hgt)) rfl (pc' := 18) rfl ?_
    refine T_p xr_110_18 xn_110 (pc' := 19) (ls' := [(0, .ref 527), (1, .int (iI s))]) (st' := [.int (iI 1), .int (iI hgt), .ref 529]) rfl ?_
    refine T_zisub xr_110_19 (z := hgt - 1) rfl (pc' := 20) rfl ?_
    refine T_ziald xr_110_20 hA529 (pc' := 21) rfl ?_
    refine T_p xr_110_21 xn_110 (pc' := 22) (ls' := [(2, .int (iI (pl (hgt - 1)))), (0, .ref 527), (1, .int (iI s))]) (st' := []) rfl ?_
    refine T_p xr_110_22 xn_110 (pc' := 23) (ls' := [(2, .int (iI (pl (hgt - 1)))), (0, .ref 527), (1, .int (iI s))]) (st' := [.ref 527]) rfl ?_
    refine T_get xr_110_23 hO527 rfl (v := .ref 529) rfl (pc' := 26) rfl ?_
    refine T_p xr_110_26 xn_110 (pc' := 27) (ls' := [(2, .int (iI (pl (hgt - 1)))), (0, .ref 527), (1, .int (iI s))]) (st' := [.ref 527, .ref 529]) rfl ?_
    refine T_get xr_110_27 hO527 rfl (v := .int (iI hgt)) rfl (pc' := 30) rfl ?_
    refine T_p xr_110_30 xn_110 (pc' := 31) (ls' := [(2, .int (iI (pl (hgt - 1)))), (0, .ref 527), (1, .int (iI s))]) (st' := [.int (iI 2), .int (iI hgt), .ref 529]) rfl ?_
    refine T_zisub xr_110_31 (z := hgt - 2) rfl (pc' := 32) rfl ?_
    refine T_ziald xr_110_32 hA529 (pc' := 33) rfl ?_
    refine T_p xr_110_33 xn_110 (pc' := 34) (ls' := [(3, .int (iI (pl (hgt - 2)))), (2, .int (iI (pl (hgt - 1)))), (0, .ref 527), (1, .int (iI s))]) (st' := []) rfl ?_
    refine T_p xr_110_34 xn_110 (pc' := 35) (ls' := [(3, .int (iI (pl (hgt - 2)))), (2, .int (iI (pl (hgt - 1)))), (0, .ref 527), (1, .int (iI s))]) (st' := [.int (iI (pl (hgt - 1)))]) rfl ?_
    refine T_zif_ne xr_110_35 (t := 52) (pc' := 38) rfl rfl (fun c1886 => ?_) (fun c1886 => ?_)
    · skip
      have c1886 : ¬ (pl (hgt - 1)) = 0 := c1886
      refine T_p xr_110_52 xn_110 (pc' := 53) (ls' := [(3, .int (iI (pl (hgt - 2)))), (2, .int (iI (pl (hgt - 1)))), (0, .ref 527), (1, .int (iI s))]) (st' := [.ref 527]) rfl ?_
      refine T_p xr_110_53 xn_110 (pc' := 54) (ls' := [(3, .int (iI (pl (hgt - 2)))), (2, .int (iI (pl (hgt - 1)))), (0, .ref 527), (1, .int (iI s))]) (st' := [.ref 527, .ref 527]) rfl ?_
      refine T_get xr_110_54 hO527 rfl (v := .int (iI hgt)) rfl (pc' := 57) rfl ?_
      refine T_p xr_110_57 xn_110 (pc' := 58) (ls' := [(3, .int (iI (pl (hgt - 2)))), (2, .int (iI (pl (hgt - 1)))), (0, .ref 527), (1, .int (iI s))]) (st' := [.int (iI 1), .int (iI hgt), .ref 527]) rfl ?_
      refine T_zisub xr_110_58 (z := hgt - 1) rfl (pc' := 59) rfl ?_
      refine T_put xr_110_59 hO527 rfl (Nat.le_of_ble_eq_true rfl) rfl (fs' := [.ref 501, .ref 504, .int (iI rs), .int (iI re), .ref 528, .ref 529, .int (iI (hgt - 1))]) rfl (pc' := 62) rfl (fun S1887 h1888 n1889 e1890 => ?_)
      refine T_p xr_110_62 xn_110 (pc' := 63) (ls' := [(3, .int (iI (pl (hgt - 2)))), (2, .int (iI (pl (hgt - 1)))), (0, .ref 527), (1, .int (iI s))]) (st' := [.ref 527]) rfl ?_
      refine T_get xr_110_63 h1888 rfl (v := .ref 529) rfl (pc' := 66) rfl ?_
      refine T_p xr_110_66 xn_110 (pc' := 67) (ls' := [(3, .int (iI (pl (hgt - 2)))), (2, .int (iI (pl (hgt - 1)))), (0, .ref 527), (1, .int (iI s))]) (st' := [.ref 527, .ref 529]) rfl ?_
      refine T_get xr_110_67 h1888 rfl (v := .int (iI (hgt - 1))) rfl (pc' := 70) rfl ?_
      refine T_p xr_110_70 xn_110 (pc' := 71) (ls' := [(3, .int (iI (pl (hgt - 2)))), (2, .int (iI (pl (hgt - 1)))), (0, .ref 527), (1, .int (iI s))]) (st' := [.int (iI 1), .int (iI (hgt - 1)), .ref 529]) rfl ?_
      refine T_zisub xr_110_71 (z := hgt - 2) (by omega) (pc' := 72) rfl ?_
      refine T_p xr_110_72 xn_110 (pc' := 73) (ls' := [(3, .int (iI (pl (hgt - 2)))), (2, .int (iI (pl (hgt - 1)))), (0, .ref 527), (1, .int (iI s))]) (st' := [.int (iI s), .int (iI (hgt - 2)), .ref 529]) rfl ?_
      refine T_p xr_110_73 xn_110 (pc' := 74) (ls' := [(3, .int (iI (pl (hgt - 2)))), (2, .int (iI (pl (hgt - 1)))), (0, .ref 527), (1, .int (iI s))]) (st' := [.int (iI (pl (hgt - 2))), .int (iI s), .int (iI (hgt - 2)), .ref 529]) rfl ?_
      refine T_p xr_110_74 xn_110 (pc' := 75) (ls' := [(3, .int (iI (pl (hgt - 2)))), (2, .int (iI (pl (hgt - 1)))), (0, .ref 527), (1, .int (iI s))]) (st' := [.int (iI (pl (hgt - 1))), .int (iI (pl (hgt - 2))), .int (iI s), .int (iI (hgt - 2)), .ref 529]) rfl ?_
      refine T_cs xr_110_75 (by decide) xf_111.1 xn_111 (as := [.int (iI s), .int (iI (pl (hgt - 2))), .int (iI (pl (hgt - 1)))]) (r := [.int (iI (hgt - 2)), .ref 529]) rfl (Nat.le_of_ble_eq_true rfl) (Nat.le_of_ble_eq_true rfl) (pc' := 78) rfl (ls' := [(0, .int (iI s)), (1, .int (iI (pl (hgt - 2)))), (2, .int (iI (pl (hgt - 1))))]) rfl ?_
      refine T_mono (c_outcome sc S1887 s (pl (hgt - 2)) (pl (hgt - 1)) hs (by omega) (fun z => by omega)) (fun v1891 S1892 h1893 => ?_)
      rcases h1893 with ⟨hv1894, hf1895⟩
      rw [hv1894]
      rw [hf1895]
      have hrr1896 := X_out2_r (s := s) (a := (pl (hgt - 2))) (b := (pl (hgt - 1)))
      show X_T sc 110 (78, [(3, .int (iI (pl (hgt - 2)))), (2, .int (iI (pl (hgt - 1)))), (0, .ref 527), (1, .int (iI s))], [.int (iI (X_out2 s (pl (hgt - 2)) (pl (hgt - 1)))), .int (iI (hgt - 2)), .ref 529], S1887) _
      have h1897 := (n1889 529 (by decide)).trans (hA529)
      refine T_ziast xr_110_78 h1897 (pc' := 79) rfl (fun S1898 h1899 n1900 e1901 => ?_)
      refine T_p xr_110_79 xn_110 (pc' := 80) (ls' := [(3, .int (iI (pl (hgt - 2)))), (2, .int (iI (pl (hgt - 1)))), (0, .ref 527), (1, .int (iI s))]) (st' := [.int (iI 1)]) rfl ?_
      refine T_iret xr_110_80 xf_110.2.2 (by decide) ?_
      refine hQ _ _ ?_
      have h1902 := (n1900 527 (by decide)).trans (h1888)
      exact Or.inr ⟨rfl, (by omega), h1902, h1899, ((X_Fr.rf).tr (X_Fr.of n1889 e1890 (by omega))).tr (X_Fr.of n1900 e1901 (by omega))⟩
    · skip
      have c1886 : ¬ (¬ (pl (hgt - 1)) = 0) := c1886
      refine T_p xr_110_38 xn_110 (pc' := 39) (ls' := [(3, .int (iI (pl (hgt - 2)))), (2, .int (iI (pl (hgt - 1)))), (0, .ref 527), (1, .int (iI s))]) (st' := [.int (iI s)]) rfl ?_
      refine T_p xr_110_39 xn_110 (pc' := 41) (ls' := [(3, .int (iI (pl (hgt - 2)))), (2, .int (iI (pl (hgt - 1)))), (0, .ref 527), (1, .int (iI s))]) (st' := [.int (iI 47), .int (iI s)]) rfl ?_
      refine T_zicmp_eq xr_110_41 (t := 50) (pc' := 44) rfl rfl (fun c1903 => ?_) (fun c1903 => ?_)
      · skip
        have c1903 : s = 47 := c1903
        refine T_p xr_110_50 xn_110 (pc' := 51) (ls' := [(3, .int (iI (pl (hgt - 2)))), (2, .int (iI (pl (hgt - 1)))), (0, .ref 527), (1, .int (iI s))]) (st' := [.int (iI 0)]) rfl ?_
        refine T_iret xr_110_51 xf_110.2.2 (by decide) ?_
        refine hQ _ _ ?_
        exact Or.inl ⟨rfl, (by omega), rfl⟩
      · skip
        have c1903 : ¬ (s = 47) := c1903
        refine T_p xr_110_44 xn_110 (pc' := 45) (ls' := [(3, .int (iI (pl (hgt - 2)))), (2, .int (iI (pl (hgt - 1)))), (0, .ref 527), (1, .int (iI s))]) (st' := [.int (iI s)]) rfl ?_
        refine T_p xr_110_45 xn_110 (pc' := 47) (ls' := [(3, .int (iI (pl (hgt - 2)))), (2, .int (iI (pl (hgt - 1)))), (0, .ref 527), (1, .int (iI s))]) (st' := [.int (iI 37), .int (iI s)]) rfl ?_
        refine T_zicmp_ne xr_110_47 (t := 52) (pc' := 50) rfl rfl (fun c1904 => ?_) (fun c1904 => ?_)
        · skip
          have c1904 : ¬ s = 37 := c1904
          refine T_p xr_110_52 xn_110 (pc' := 53) (ls' := [(3, .int (iI (pl (hgt - 2)))), (2, .int (iI (pl (hgt - 1)))), (0, .ref 527), (1, .int (iI s))]) (st' := [.ref 527]) rfl ?_
          refine T_p xr_110_53 xn_110 (pc' := 54) (ls' := [(3, .int (iI (pl (hgt - 2)))), (2, .int (iI (pl (hgt - 1)))), (0, .ref 527), (1, .int (iI s))]) (st' := [.ref 527, .ref 527]) rfl ?_
          refine T_get xr_110_54 hO527 rfl (v := .int (iI hgt)) rfl (pc' := 57) rfl ?_
          refine T_p xr_110_57 xn_110 (pc' := 58) (ls' := [(3, .int (iI (pl (hgt - 2)))), (2, .int (iI (pl (hgt - 1)))), (0, .ref 527), (1, .int (iI s))]) (st' := [.int (iI 1), .int (iI hgt), .ref 527]) rfl ?_
          refine T_zisub xr_110_58 (z := hgt - 1) rfl (pc' := 59) rfl ?_
          refine T_put xr_110_59 hO527 rfl (Nat.le_of_ble_eq_true rfl) rfl (fs' := [.ref 501, .ref 504, .int (iI rs), .int (iI re), .ref 528, .ref 529, .int (iI (hgt - 1))]) rfl (pc' := 62) rfl (fun S1905 h1906 n1907 e1908 => ?_)
          refine T_p xr_110_62 xn_110 (pc' := 63) (ls' := [(3, .int (iI (pl (hgt - 2)))), (2, .int (iI (pl (hgt - 1)))), (0, .ref 527), (1, .int (iI s))]) (st' := [.ref 527]) rfl ?_
          refine T_get xr_110_63 h1906 rfl (v := .ref 529) rfl (pc' := 66) rfl ?_
          refine T_p xr_110_66 xn_110 (pc' := 67) (ls' := [(3, .int (iI (pl (hgt - 2)))), (2, .int (iI (pl (hgt - 1)))), (0, .ref 527), (1, .int (iI s))]) (st' := [.ref 527, .ref 529]) rfl ?_
          refine T_get xr_110_67 h1906 rfl (v := .int (iI (hgt - 1))) rfl (pc' := 70) rfl ?_
          refine T_p xr_110_70 xn_110 (pc' := 71) (ls' := [(3, .int (iI (pl (hgt - 2)))), (2, .int (iI (pl (hgt - 1)))), (0, .ref 527), (1, .int (iI s))]) (st' := [.int (iI 1), .int (iI (hgt - 1)), .ref 529]) rfl ?_
          refine T_zisub xr_110_71 (z := hgt - 2) (by omega) (pc' := 72) rfl ?_
          refine T_p xr_110_72 xn_110 (pc' := 73) (ls' := [(3, .int (iI (pl (hgt - 2)))), (2, .int (iI (pl (hgt - 1)))), (0, .ref 527), (1, .int (iI s))]) (st' := [.int (iI s), .int (iI (hgt - 2)), .ref 529]) rfl ?_
          refine T_p xr_110_73 xn_110 (pc' := 74) (ls' := [(3, .int (iI (pl (hgt - 2)))), (2, .int (iI (pl (hgt - 1)))), (0, .ref 527), (1, .int (iI s))]) (st' := [.int (iI (pl (hgt - 2))), .int (iI s), .int (iI (hgt - 2)), .ref 529]) rfl ?_
          refine T_p xr_110_74 xn_110 (pc' := 75) (ls' := [(3, .int (iI (pl (hgt - 2)))), (2, .int (iI (pl (hgt - 1)))), (0, .ref 527), (1, .int (iI s))]) (st' := [.int (iI (pl (hgt - 1))), .int (iI (pl (hgt - 2))), .int (iI s), .int (iI (hgt - 2)), .ref 529]) rfl ?_
          refine T_cs xr_110_75 (by decide) xf_111.1 xn_111 (as := [.int (iI s), .int (iI (pl (hgt - 2))), .int (iI (pl (hgt - 1)))]) (r := [.int (iI (hgt - 2)), .ref 529]) rfl (Nat.le_of_ble_eq_true rfl) (Nat.le_of_ble_eq_true rfl) (pc' := 78) rfl (ls' := [(0, .int (iI s)), (1, .int (iI (pl (hgt - 2)))), (2, .int (iI (pl (hgt - 1))))]) rfl ?_
          refine T_mono (c_outcome sc S1905 s (pl (hgt - 2)) (pl (hgt - 1)) hs (by omega) (fun z => by omega)) (fun v1909 S1910 h1911 => ?_)
          rcases h1911 with ⟨hv1912, hf1913⟩
          rw [hv1912]
          rw [hf1913]
          have hrr1914 := X_out2_r (s := s) (a := (pl (hgt - 2))) (b := (pl (hgt - 1)))
          show X_T sc 110 (78, [(3, .int (iI (pl (hgt - 2)))), (2, .int (iI (pl (hgt - 1)))), (0, .ref 527), (1, .int (iI s))], [.int (iI (X_out2 s (pl (hgt - 2)) (pl (hgt - 1)))), .int (iI (hgt - 2)), .ref 529], S1905) _
          have h1915 := (n1907 529 (by decide)).trans (hA529)
          refine T_ziast xr_110_78 h1915 (pc' := 79) rfl (fun S1916 h1917 n1918 e1919 => ?_)
          refine T_p xr_110_79 xn_110 (pc' := 80) (ls' := [(3, .int (iI (pl (hgt - 2)))), (2, .int (iI (pl (hgt - 1)))), (0, .ref 527), (1, .int (iI s))]) (st' := [.int (iI 1)]) rfl ?_
          refine T_iret xr_110_80 xf_110.2.2 (by decide) ?_
          refine hQ _ _ ?_
          have h1920 := (n1918 527 (by decide)).trans (h1906)
          exact Or.inr ⟨rfl, (by omega), h1920, h1917, ((X_Fr.rf).tr (X_Fr.of n1907 e1908 (by omega))).tr (X_Fr.of n1918 e1919 (by omega))⟩
        · skip
          have c1904 : ¬ (¬ s = 37) := c1904
          refine T_p xr_110_50 xn_110 (pc' := 51) (ls' := [(3, .int (iI (pl (hgt - 2)))), (2, .int (iI (pl (hgt - 1)))), (0, .ref 527), (1, .int (iI s))]) (st' := [.int (iI 0)]) rfl ?_
          refine T_iret xr_110_51 xf_110.2.2 (by decide) ?_
          refine hQ _ _ ?_
          exact Or.inl ⟨rfl, (by omega), rfl⟩
  · skip
    have c1885 : ¬ (2 ≤ hgt) := c1885
    exact (show False by omega).elim
set_option maxHeartbeats 1600000 in
theorem c_runSteps (sc : X_Sc) (S : X_S) (nC : Int → Int) (vs : Int → Int) (pl : Int → Int) (a : Nat) (d : Nat → Int → Int) (q : Int → Int64) (ch : Int → Int) (n : Int) (nc : Int) (hgt : Int) (rs : Int) (re : Int) (hO504 : S.1 504 = .inr (5, [.int (iI nc), .ref 505, .ref 506, .ref 507, .ref 508, .ref 509, .ref 510])) (hO527 : S.1 527 = .inr (9, [.ref 501, .ref 504, .int (iI rs), .int (iI re), .ref 528, .ref 529, .int (iI hgt)])) (hA510 : S.1 510 = .inl (.int, 120, .inl fun k : Nat => iI (nC (k : Int)))) (hA528 : S.1 528 = .inl (.int, 30, .inl fun k : Nat => iI (vs (k : Int)))) (hA529 : S.1 529 = .inl (.int, 16, .inl fun k : Nat => iI (pl (k : Int)))) (hw : C_wd S a d q) (hr : X_wr d) (ha : a < 496) (hs : X_sok d) (h5 : d 5 0 ≤ 30) (h1 : X_ph (d 12) (d 5 0).toNat = 1) (hn : 0 ≤ n ∧ n < 30) (hcv : ∀ h, 0 ≤ h → h < d 4 0 → (0 ≤ nC (n * 4 + h) ∧ nC (n * 4 + h) < 30) ∧ vs (nC (n * 4 + h)) = ch h) : X_T sc 108 (0, [(0, .ref 527), (1, .ref a), (2, .int (iI n))], [], S) (fun v S' => (∃ (h2 : Int) (pl1 : Int → Int), v = some (.int (iI 0)) ∧ X_wS d ch (d 5 0).toNat = none ∧ S'.1 527 = .inr (9, [.ref 501, .ref 504, .int (iI rs), .int (iI re), .ref 528, .ref 529, .int (iI h2)]) ∧ S'.1 529 = .inl (.int, 16, .inl fun k : Nat => iI (pl1 (k : Int))) ∧ (X_Fr (fun q => q = 527 ∨ q = 529) S S')) ∨ (∃ (h2 : Int) (pl1 : Int → Int) (rr : Int × (Int → Int)), v = some (.int (iI 1)) ∧ X_wS d ch (d 5 0).toNat = some rr ∧ S'.1 527 = .inr (9, [.ref 501, .ref 504, .int (iI rs), .int (iI re), .ref 528, .ref 529, .int (iI h2)]) ∧ S'.1 528 = .inl (.int, 30, .inl fun k : Nat => iI ((X_ug vs n (rr.2 0)) (k : Int))) ∧ S'.1 529 = .inl (.int, 16, .inl fun k : Nat => iI (pl1 (k : Int))) ∧ (X_Fr (fun q => 527 ≤ q ∧ q ≤ 529) S S'))) := by
  obtain ⟨⟨hr0, hr0b⟩, ⟨hr1, hr1b⟩, ⟨hr2, hr2b⟩, ⟨hr3, hr3b⟩, ⟨hr4, hr4b⟩, ⟨hr5, hr5b⟩, ⟨hr6, hr6b⟩, ⟨hr7, hr7b⟩⟩ := id hr
  have h50 := hs.1
  refine X_QI (fun Q hQ => ?_)
  refine T_p xr_108_0 xn_108 (pc' := 1) (ls' := [(0, .ref 527), (1, .ref a), (2, .int (iI n))]) (st' := [.ref 527]) rfl ?_
  refine T_p xr_108_1 xn_108 (pc' := 2) (ls' := [(0, .ref 527), (1, .ref a), (2, .int (iI n))]) (st' := [.int (iI 0), .ref 527]) rfl ?_
  refine T_put xr_108_2 hO527 rfl (Nat.le_of_ble_eq_true rfl) rfl (fs' := [.ref 501, .ref 504, .int (iI rs), .int (iI re), .ref 528, .ref 529, .int (iI 0)]) rfl (pc' := 5) rfl (fun S1921 h1922 n1923 e1924 => ?_)
  refine T_p xr_108_5 xn_108 (pc' := 6) (ls' := [(0, .ref 527), (1, .ref a), (2, .int (iI n))]) (st' := [.int (iI 0)]) rfl ?_
  refine T_p xr_108_6 xn_108 (pc' := 7) (ls' := [(3, .int (iI 0)), (0, .ref 527), (1, .ref a), (2, .int (iI n))]) (st' := []) rfl ?_
  have h1930 := (n1923 529 (by decide)).trans (hA529)
  have L1925 : ∀ (m1927 : Nat) (S1931 : X_S) (k : Int) (hgt1 : Int) (pl1 : Int → Int) (pr : Int → Int) (hO7 : S1931.1 527 = .inr (9, [.ref 501, .ref 504, .int (iI rs), .int (iI re), .ref 528, .ref 529, .int (iI hgt1)])) (hpl1 : S1931.1 529 = .inl (.int, 16, .inl fun k : Nat => iI (pl1 (k : Int)))) (hF1929 : X_Fr (fun q => q = 527 ∨ q = 529) S1921 S1931) (hk : 0 ≤ k ∧ k ≤ d 5 0) (hS : X_wS d ch k.toNat = some (hgt1, pr)) (hpr : ∀ q, 0 ≤ q → q < hgt1 → pl1 q = pr q) (hm1928 : d 5 0 - k < m1927), X_T sc 108 (7, [(3, .int (iI k)), (0, .ref 527), (1, .ref a), (2, .int (iI n))], [], S1931) Q := by
    intro m1927
    induction m1927 with
    | zero =>
      intro S1931 k hgt1 pl1 pr hO7 hpl1 hF1929 hk hS hpr hm1928
      exact (show False by omega).elim
    | succ m1927 ih1926 =>
      intro S1931 k hgt1 pl1 pr hO7 hpl1 hF1929 hk hS hpr hm1928
      refine T_p xr_108_7 xn_108 (pc' := 8) (ls' := [(3, .int (iI k)), (0, .ref 527), (1, .ref a), (2, .int (iI n))]) (st' := [.int (iI k)]) rfl ?_
      refine T_p xr_108_8 xn_108 (pc' := 9) (ls' := [(3, .int (iI k)), (0, .ref 527), (1, .ref a), (2, .int (iI n))]) (st' := [.ref a, .int (iI k)]) rfl ?_
      have h1932 := (hF1929.1 a (by omega)).trans ((n1923 a (by omega)).trans (hw.1))
      refine T_get xr_108_9 h1932 rfl (v := .int (iI (d 5 0))) rfl (pc' := 12) rfl ?_
      refine T_zicmp_ge xr_108_12 (t := 94) (pc' := 15) rfl rfl (fun c1933 => ?_) (fun c1933 => ?_)
      · skip
        have c1933 : (d 5 0) ≤ k := c1933
        refine T_p xr_108_94 xn_108 (pc' := 95) (ls' := [(3, .int (iI k)), (0, .ref 527), (1, .ref a), (2, .int (iI n))]) (st' := [.ref 527]) rfl ?_
        refine T_get xr_108_95 hO7 rfl (v := .ref 528) rfl (pc' := 98) rfl ?_
        refine T_p xr_108_98 xn_108 (pc' := 99) (ls' := [(3, .int (iI k)), (0, .ref 527), (1, .ref a), (2, .int (iI n))]) (st' := [.int (iI n), .ref 528]) rfl ?_
        refine T_p xr_108_99 xn_108 (pc' := 100) (ls' := [(3, .int (iI k)), (0, .ref 527), (1, .ref a), (2, .int (iI n))]) (st' := [.ref 527, .int (iI n), .ref 528]) rfl ?_
        refine T_get xr_108_100 hO7 rfl (v := .ref 529) rfl (pc' := 103) rfl ?_
        refine T_p xr_108_103 xn_108 (pc' := 104) (ls' := [(3, .int (iI k)), (0, .ref 527), (1, .ref a), (2, .int (iI n))]) (st' := [.int (iI 0), .ref 529, .int (iI n), .ref 528]) rfl ?_
        refine T_ziald xr_108_104 hpl1 (pc' := 105) rfl ?_
        refine T_ie (y := iI (pr 0)) (by rw [hpr 0 (by omega) (by have := X_wS_h hs k.toNat (hgt1, pr) (by omega) hS; rw [show k = d 5 0 by omega, h1] at this; have : hgt1 = 1 := this; omega)]) ?_
        have h1934 := (hF1929.1 528 (by omega)).trans ((n1923 528 (by decide)).trans (hA528))
        refine T_ziast xr_108_105 h1934 (pc' := 106) rfl (fun S1935 h1936 n1937 e1938 => ?_)
        refine T_p xr_108_106 xn_108 (pc' := 107) (ls' := [(3, .int (iI k)), (0, .ref 527), (1, .ref a), (2, .int (iI n))]) (st' := [.int (iI 1)]) rfl ?_
        refine T_iret xr_108_107 xf_108.2.2 (by decide) ?_
        refine hQ _ _ ?_
        have h1939 := (n1937 527 (by decide)).trans (hO7)
        have h1940 := (n1937 529 (by decide)).trans (hpl1)
        exact Or.inr ⟨hgt1, pl1, (hgt1, pr), rfl, (by rw [show d 5 0 = k by omega]; exact hS), h1939, h1936, h1940, (((X_Fr.rf).tr (X_Fr.of n1923 e1924 (by omega))).tr (X_Fr.mono ⟨hF1929.1, hF1929.2⟩ (fun q hq => (by omega)))).tr (X_Fr.of n1937 e1938 (by omega))⟩
      · skip
        have c1933 : ¬ ((d 5 0) ≤ k) := c1933
        have hst := hs.2.2 k (by omega) (by omega)
        have hph : hgt1 = X_ph (d 12) k.toNat := X_wS_h hs k.toNat (hgt1, pr) (by omega) hS
        have hrng := X_wS_r k.toNat (hgt1, pr) hS
        have hgo := X_wS_s d ch (k := k) (by omega)
        rw [hS] at hgo
        simp only [Option.bind] at hgo
        unfold X_st1 at hst
        have hst2 : (X_isOp (d 12 k) ∧ 2 ≤ hgt1 ∧ hgt1 ≤ 16) ∨ (¬ X_isOp (d 12 k) ∧ (d 12 k = 4 ∨ (d 12 k = 64 ∧ 1 ≤ d 13 k ∧ d 13 k ≤ d 4 0)) ∧ 0 ≤ hgt1 ∧ hgt1 < 16) := by rw [hph]; exact hst
        have hsr : d 12 k = 4 ∨ d 12 k = 64 ∨ (37 ≤ d 12 k ∧ d 12 k ≤ 60) := by
          rcases hst2 with ⟨z, -⟩ | ⟨-, z, -⟩
          · unfold X_isOp at z; omega
          · omega
        refine T_p xr_108_15 xn_108 (pc' := 16) (ls' := [(3, .int (iI k)), (0, .ref 527), (1, .ref a), (2, .int (iI n))]) (st' := [.ref a]) rfl ?_
        refine T_get xr_108_16 h1932 rfl (v := .ref (a + 6)) rfl (pc' := 19) rfl ?_
        refine T_p xr_108_19 xn_108 (pc' := 20) (ls' := [(3, .int (iI k)), (0, .ref 527), (1, .ref a), (2, .int (iI n))]) (st' := [.int (iI k), .ref (a + 6)]) rfl ?_
        have h1941 := (hF1929.1 (a + 6) (by omega)).trans ((n1923 (a + 6) (by omega)).trans (hw.2.2.2.2.2.2.1))
        refine T_ziald xr_108_20 h1941 (pc' := 21) rfl ?_
        refine T_p xr_108_21 xn_108 (pc' := 23) (ls' := [(4, .int (iI ((d 12) k))), (3, .int (iI k)), (0, .ref 527), (1, .ref a), (2, .int (iI n))]) (st' := []) rfl ?_
        refine T_p xr_108_23 xn_108 (pc' := 24) (ls' := [(4, .int (iI ((d 12) k))), (3, .int (iI k)), (0, .ref 527), (1, .ref a), (2, .int (iI n))]) (st' := [.ref a]) rfl ?_
        refine T_get xr_108_24 h1932 rfl (v := .ref (a + 7)) rfl (pc' := 27) rfl ?_
        refine T_p xr_108_27 xn_108 (pc' := 28) (ls' := [(4, .int (iI ((d 12) k))), (3, .int (iI k)), (0, .ref 527), (1, .ref a), (2, .int (iI n))]) (st' := [.int (iI k), .ref (a + 7)]) rfl ?_
        have h1942 := (hF1929.1 (a + 7) (by omega)).trans ((n1923 (a + 7) (by omega)).trans (hw.2.2.2.2.2.2.2))
        refine T_ziald xr_108_28 h1942 (pc' := 29) rfl ?_
        refine T_p xr_108_29 xn_108 (pc' := 31) (ls' := [(5, .int (iI ((d 13) k))), (4, .int (iI ((d 12) k))), (3, .int (iI k)), (0, .ref 527), (1, .ref a), (2, .int (iI n))]) (st' := []) rfl ?_
        refine T_p xr_108_31 xn_108 (pc' := 33) (ls' := [(5, .int (iI ((d 13) k))), (4, .int (iI ((d 12) k))), (3, .int (iI k)), (0, .ref 527), (1, .ref a), (2, .int (iI n))]) (st' := [.int (iI ((d 12) k))]) rfl ?_
        refine T_p xr_108_33 xn_108 (pc' := 34) (ls' := [(5, .int (iI ((d 13) k))), (4, .int (iI ((d 12) k))), (3, .int (iI k)), (0, .ref 527), (1, .ref a), (2, .int (iI n))]) (st' := [.int (iI 4), .int (iI ((d 12) k))]) rfl ?_
        refine T_zicmp_ne xr_108_34 (t := 46) (pc' := 37) rfl rfl (fun c1943 => ?_) (fun c1943 => ?_)
        · skip
          have c1943 : ¬ ((d 12) k) = 4 := c1943
          refine T_p xr_108_46 xn_108 (pc' := 48) (ls' := [(5, .int (iI ((d 13) k))), (4, .int (iI ((d 12) k))), (3, .int (iI k)), (0, .ref 527), (1, .ref a), (2, .int (iI n))]) (st' := [.int (iI ((d 12) k))]) rfl ?_
          refine T_p xr_108_48 xn_108 (pc' := 50) (ls' := [(5, .int (iI ((d 13) k))), (4, .int (iI ((d 12) k))), (3, .int (iI k)), (0, .ref 527), (1, .ref a), (2, .int (iI n))]) (st' := [.int (iI 64), .int (iI ((d 12) k))]) rfl ?_
          refine T_zicmp_ne xr_108_50 (t := 77) (pc' := 53) rfl rfl (fun c1944 => ?_) (fun c1944 => ?_)
          · skip
            have c1944 : ¬ ((d 12) k) = 64 := c1944
            have hst3 : X_isOp (d 12 k) ∧ 2 ≤ hgt1 ∧ hgt1 ≤ 16 := by
              rcases hst2 with z | ⟨-, z, -⟩
              · exact z
              · omega
            rw [if_neg (by omega), if_neg (by omega)] at hgo
            have hpp1 := hpr (hgt1 - 1) (by omega) (by omega)
            have hpp2 := hpr (hgt1 - 2) (by omega) (by omega)
            refine T_p xr_108_77 xn_108 (pc' := 78) (ls' := [(5, .int (iI ((d 13) k))), (4, .int (iI ((d 12) k))), (3, .int (iI k)), (0, .ref 527), (1, .ref a), (2, .int (iI n))]) (st' := [.ref 527]) rfl ?_
            refine T_p xr_108_78 xn_108 (pc' := 80) (ls' := [(5, .int (iI ((d 13) k))), (4, .int (iI ((d 12) k))), (3, .int (iI k)), (0, .ref 527), (1, .ref a), (2, .int (iI n))]) (st' := [.int (iI ((d 12) k)), .ref 527]) rfl ?_
            refine T_cv (S := S1931) (q := 527) xr_108_80 xf_110.1 xf_110.2.1 xn_110 (as := [.int (iI ((d 12) k))]) (r := []) rfl hO7 (Nat.le_of_ble_eq_true rfl) (Nat.le_of_ble_eq_true rfl) (pc' := 83) rfl (ls' := [(0, .ref 527), (1, .int (iI ((d 12) k)))]) rfl ?_
            refine T_mono (c_operate sc S1931 pl1 ((d 12) k) hgt1 rs re hO7 hpl1 hst3.1 (by omega) (fun q h1 h2 => by rw [hpr q h1 h2]; exact hrng q)) (fun v1945 S1946 h1947 => ?_)
            rcases h1947 with ⟨hv1948, hp1949, hf1950⟩ | ⟨hv1951, hp1952, ho1953, ha1954, hf1955⟩
            · skip
              rw [hv1948]
              rw [hf1950]
              show X_T sc 108 (83, [(5, .int (iI ((d 13) k))), (4, .int (iI ((d 12) k))), (3, .int (iI k)), (0, .ref 527), (1, .ref a), (2, .int (iI n))], [.int (iI 0)], S1931) _
              refine T_zif_nef xr_108_83 (t := 88) (pc' := 86) rfl rfl (by decide) ?_
              refine T_p xr_108_86 xn_108 (pc' := 87) (ls' := [(5, .int (iI ((d 13) k))), (4, .int (iI ((d 12) k))), (3, .int (iI k)), (0, .ref 527), (1, .ref a), (2, .int (iI n))]) (st' := [.int (iI 0)]) rfl ?_
              refine T_iret xr_108_87 xf_108.2.2 (by decide) ?_
              refine hQ _ _ ?_
              rw [if_pos ⟨hp1949.1, by rw [← hpp1]; exact hp1949.2⟩] at hgo
              have hz := X_wS_none (d := d) (ch := ch) (k := k + 1) (by omega) hgo ((d 5 0).toNat - (k + 1).toNat)
              rw [show (k + 1).toNat + ((d 5 0).toNat - (k + 1).toNat) = (d 5 0).toNat by omega] at hz
              exact Or.inl ⟨hgt1, pl1, rfl, hz, hO7, hpl1, ((X_Fr.rf).tr (X_Fr.of n1923 e1924 (by omega))).tr (X_Fr.mono ⟨hF1929.1, hF1929.2⟩ (fun q hq => (by omega)))⟩
            · skip
              rw [hv1951]
              show X_T sc 108 (83, [(5, .int (iI ((d 13) k))), (4, .int (iI ((d 12) k))), (3, .int (iI k)), (0, .ref 527), (1, .ref a), (2, .int (iI n))], [.int (iI 1)], S1946) _
              refine T_zif_net xr_108_83 (t := 88) rfl (by decide) ?_
              refine T_ziinc xr_108_88 xn_108 (a := k) (z := k + 1) rfl (Nat.le_of_ble_eq_true rfl) (by omega) (ls' := [(3, .int (iI (k + 1))), (5, .int (iI ((d 13) k))), (4, .int (iI ((d 12) k))), (0, .ref 527), (1, .ref a), (2, .int (iI n))]) rfl (pc' := 91) rfl ?_
              refine T_p xr_108_91 xn_108 (pc' := 7) (ls' := [(3, .int (iI (k + 1))), (5, .int (iI ((d 13) k))), (4, .int (iI ((d 12) k))), (0, .ref 527), (1, .ref a), (2, .int (iI n))]) (st' := []) rfl ?_
              refine T_sub (ls := [(3, .int (iI (k + 1))), (0, .ref 527), (1, .ref a), (2, .int (iI n))]) ⟨rfl, rfl, rfl, rfl, trivial⟩ rfl rfl ?_
              exact ih1926 S1946 (k + 1) (hgt1 - 1) (X_ug pl1 (hgt1 - 2) (X_out2 ((d 12) k) (pl1 (hgt1 - 2)) (pl1 (hgt1 - 1)))) (X_ug pr (hgt1 - 2) (X_out2 (d 12 k) (pr (hgt1 - 2)) (pr (hgt1 - 1)))) ho1953 ha1954 (hF1929.tr ((X_Fr.rf).tr (X_Fr.mono ⟨hf1955.1, hf1955.2⟩ (fun q hq => (by omega))))) (by omega) (by rw [hgo, if_neg (fun z => hp1952 ⟨z.1, by rw [hpp1]; exact z.2⟩)]) (fun q h1 h2 => by
                    by_cases hq : q = hgt1 - 2
                    · rw [hq, X_ug_s, X_ug_s, hpp1, hpp2]
                    · rw [X_ug_n _ _ hq, X_ug_n _ _ hq]; exact hpr q h1 (by omega)) (by omega)
          · skip
            have c1944 : ¬ (¬ ((d 12) k) = 64) := c1944
            have hst3 : (0 ≤ hgt1 ∧ hgt1 < 16) ∧ 1 ≤ d 13 k ∧ d 13 k ≤ d 4 0 := by
              rcases hst2 with ⟨z, -⟩ | ⟨-, z, z2⟩
              · unfold X_isOp at z; omega
              · exact ⟨z2, by omega⟩
            rw [if_neg (by omega), if_pos (by omega)] at hgo
            have hc := hcv (d 13 k - 1) (by omega) (by omega)
            refine T_p xr_108_53 xn_108 (pc' := 54) (ls' := [(5, .int (iI ((d 13) k))), (4, .int (iI ((d 12) k))), (3, .int (iI k)), (0, .ref 527), (1, .ref a), (2, .int (iI n))]) (st' := [.ref 527]) rfl ?_
            refine T_p xr_108_54 xn_108 (pc' := 55) (ls' := [(5, .int (iI ((d 13) k))), (4, .int (iI ((d 12) k))), (3, .int (iI k)), (0, .ref 527), (1, .ref a), (2, .int (iI n))]) (st' := [.ref 527, .ref 527]) rfl ?_
            refine T_get xr_108_55 hO7 rfl (v := .ref 528) rfl (pc' := 58) rfl ?_
            refine T_p xr_108_58 xn_108 (pc' := 59) (ls' := [(5, .int (iI ((d 13) k))), (4, .int (iI ((d 12) k))), (3, .int (iI k)), (0, .ref 527), (1, .ref a), (2, .int (iI n))]) (st' := [.ref 527, .ref 528, .ref 527]) rfl ?_
            refine T_get xr_108_59 hO7 rfl (v := .ref 504) rfl (pc' := 62) rfl ?_
            refine T_p xr_108_62 xn_108 (pc' := 63) (ls' := [(5, .int (iI ((d 13) k))), (4, .int (iI ((d 12) k))), (3, .int (iI k)), (0, .ref 527), (1, .ref a), (2, .int (iI n))]) (st' := [.int (iI n), .ref 504, .ref 528, .ref 527]) rfl ?_
            refine T_p xr_108_63 xn_108 (pc' := 65) (ls' := [(5, .int (iI ((d 13) k))), (4, .int (iI ((d 12) k))), (3, .int (iI k)), (0, .ref 527), (1, .ref a), (2, .int (iI n))]) (st' := [.int (iI ((d 13) k)), .int (iI n), .ref 504, .ref 528, .ref 527]) rfl ?_
            refine T_p xr_108_65 xn_108 (pc' := 66) (ls' := [(5, .int (iI ((d 13) k))), (4, .int (iI ((d 12) k))), (3, .int (iI k)), (0, .ref 527), (1, .ref a), (2, .int (iI n))]) (st' := [.int (iI 1), .int (iI ((d 13) k)), .int (iI n), .ref 504, .ref 528, .ref 527]) rfl ?_
            refine T_zisub xr_108_66 (z := ((d 13) k) - 1) rfl (pc' := 67) rfl ?_
            have h1956 := (hF1929.1 504 (by omega)).trans ((n1923 504 (by decide)).trans (hO504))
            refine T_cv (S := S1931) (q := 504) xr_108_67 xf_85.1 xf_85.2.1 xn_85 (as := [.int (iI n), .int (iI (((d 13) k) - 1))]) (r := [.ref 528, .ref 527]) rfl h1956 (Nat.le_of_ble_eq_true rfl) (Nat.le_of_ble_eq_true rfl) (pc' := 70) rfl (ls' := [(0, .ref 504), (1, .int (iI n)), (2, .int (iI (((d 13) k) - 1)))]) rfl ?_
            refine T_p xr_85_0 xn_85 (pc' := 1) (ls' := [(0, .ref 504), (1, .int (iI n)), (2, .int (iI (((d 13) k) - 1)))]) (st' := [.ref 504]) rfl ?_
            refine T_get xr_85_1 h1956 rfl (v := .ref 510) rfl (pc' := 4) rfl ?_
            refine T_p xr_85_4 xn_85 (pc' := 5) (ls' := [(0, .ref 504), (1, .int (iI n)), (2, .int (iI (((d 13) k) - 1)))]) (st' := [.int (iI n), .ref 510]) rfl ?_
            refine T_p xr_85_5 xn_85 (pc' := 6) (ls' := [(0, .ref 504), (1, .int (iI n)), (2, .int (iI (((d 13) k) - 1)))]) (st' := [.int (iI 4), .int (iI n), .ref 510]) rfl ?_
            refine T_zimul xr_85_6 (z := n * 4) rfl (pc' := 7) rfl ?_
            refine T_p xr_85_7 xn_85 (pc' := 8) (ls' := [(0, .ref 504), (1, .int (iI n)), (2, .int (iI (((d 13) k) - 1)))]) (st' := [.int (iI (((d 13) k) - 1)), .int (iI (n * 4)), .ref 510]) rfl ?_
            refine T_ziadd xr_85_8 (z := (n * 4) + (((d 13) k) - 1)) rfl (pc' := 9) rfl ?_
            have h1957 := (hF1929.1 510 (by omega)).trans ((n1923 510 (by decide)).trans (hA510))
            refine T_ziald xr_85_9 h1957 (pc' := 10) rfl ?_
            refine T_iret xr_85_10 xf_85.2.2 rfl ?_
            show X_T sc 108 (70, [(5, .int (iI ((d 13) k))), (4, .int (iI ((d 12) k))), (3, .int (iI k)), (0, .ref 527), (1, .ref a), (2, .int (iI n))], [.int (iI (nC ((n * 4) + (((d 13) k) - 1)))), .ref 528, .ref 527], S1931) _
            have h1958 := (hF1929.1 528 (by omega)).trans ((n1923 528 (by decide)).trans (hA528))
            refine T_ziald xr_108_70 h1958 (pc' := 71) rfl ?_
            refine T_ie (y := iI (ch (d 13 k - 1))) (by rw [show (d 13) k - 1 = d 13 k - 1 from rfl, hc.2]) ?_
            refine T_ie (y := iI ((iI (ch (d 13 k - 1))).toInt)) (iI_of _) ?_
            refine T_cv (S := S1931) (q := 527) xr_108_71 xf_109.1 xf_109.2.1 xn_109 (as := [.int (iI ((iI (ch (d 13 k - 1))).toInt))]) (r := []) rfl hO7 (Nat.le_of_ble_eq_true rfl) (Nat.le_of_ble_eq_true rfl) (pc' := 74) rfl (ls' := [(0, .ref 527), (1, .int (iI ((iI (ch (d 13 k - 1))).toInt)))]) rfl ?_
            refine T_p xr_109_0 xn_109 (pc' := 1) (ls' := [(0, .ref 527), (1, .int (iI ((iI (ch (d 13 k - 1))).toInt)))]) (st' := [.ref 527]) rfl ?_
            refine T_get xr_109_1 hO7 rfl (v := .int (iI hgt1)) rfl (pc' := 4) rfl ?_
            refine T_p xr_109_4 xn_109 (pc' := 6) (ls' := [(0, .ref 527), (1, .int (iI ((iI (ch (d 13 k - 1))).toInt)))]) (st' := [.int (iI 16), .int (iI hgt1)]) rfl ?_
            refine T_zicmp_ge xr_109_6 (t := 29) (pc' := 9) rfl rfl (fun c1959 => ?_) (fun c1959 => ?_)
            · skip
              have c1959 : 16 ≤ hgt1 := c1959
              exact (show False by omega).elim
            · skip
              have c1959 : ¬ (16 ≤ hgt1) := c1959
              refine T_p xr_109_9 xn_109 (pc' := 10) (ls' := [(0, .ref 527), (1, .int (iI ((iI (ch (d 13 k - 1))).toInt)))]) (st' := [.ref 527]) rfl ?_
              refine T_get xr_109_10 hO7 rfl (v := .ref 529) rfl (pc' := 13) rfl ?_
              refine T_p xr_109_13 xn_109 (pc' := 14) (ls' := [(0, .ref 527), (1, .int (iI ((iI (ch (d 13 k - 1))).toInt)))]) (st' := [.ref 527, .ref 529]) rfl ?_
              refine T_get xr_109_14 hO7 rfl (v := .int (iI hgt1)) rfl (pc' := 17) rfl ?_
              refine T_p xr_109_17 xn_109 (pc' := 18) (ls' := [(0, .ref 527), (1, .int (iI ((iI (ch (d 13 k - 1))).toInt)))]) (st' := [.int (iI ((iI (ch (d 13 k - 1))).toInt)), .int (iI hgt1), .ref 529]) rfl ?_
              refine T_ziast xr_109_18 hpl1 (pc' := 19) rfl (fun S1960 h1961 n1962 e1963 => ?_)
              refine T_p xr_109_19 xn_109 (pc' := 20) (ls' := [(0, .ref 527), (1, .int (iI ((iI (ch (d 13 k - 1))).toInt)))]) (st' := [.ref 527]) rfl ?_
              refine T_p xr_109_20 xn_109 (pc' := 21) (ls' := [(0, .ref 527), (1, .int (iI ((iI (ch (d 13 k - 1))).toInt)))]) (st' := [.ref 527, .ref 527]) rfl ?_
              have h1964 := (n1962 527 (by decide)).trans (hO7)
              refine T_get xr_109_21 h1964 rfl (v := .int (iI hgt1)) rfl (pc' := 24) rfl ?_
              refine T_p xr_109_24 xn_109 (pc' := 25) (ls' := [(0, .ref 527), (1, .int (iI ((iI (ch (d 13 k - 1))).toInt)))]) (st' := [.int (iI 1), .int (iI hgt1), .ref 527]) rfl ?_
              refine T_ziadd xr_109_25 (z := hgt1 + 1) rfl (pc' := 26) rfl ?_
              refine T_put xr_109_26 h1964 rfl (Nat.le_of_ble_eq_true rfl) rfl (fs' := [.ref 501, .ref 504, .int (iI rs), .int (iI re), .ref 528, .ref 529, .int (iI (hgt1 + 1))]) rfl (pc' := 29) rfl (fun S1965 h1966 n1967 e1968 => ?_)
              refine T_vret xr_109_29 xf_109.2.2 ?_
              show X_T sc 108 (74, [(5, .int (iI ((d 13) k))), (4, .int (iI ((d 12) k))), (3, .int (iI k)), (0, .ref 527), (1, .ref a), (2, .int (iI n))], [], S1965) _
              refine T_p xr_108_74 xn_108 (pc' := 88) (ls' := [(5, .int (iI ((d 13) k))), (4, .int (iI ((d 12) k))), (3, .int (iI k)), (0, .ref 527), (1, .ref a), (2, .int (iI n))]) (st' := []) rfl ?_
              refine T_ziinc xr_108_88 xn_108 (a := k) (z := k + 1) rfl (Nat.le_of_ble_eq_true rfl) (by omega) (ls' := [(3, .int (iI (k + 1))), (5, .int (iI ((d 13) k))), (4, .int (iI ((d 12) k))), (0, .ref 527), (1, .ref a), (2, .int (iI n))]) rfl (pc' := 91) rfl ?_
              refine T_p xr_108_91 xn_108 (pc' := 7) (ls' := [(3, .int (iI (k + 1))), (5, .int (iI ((d 13) k))), (4, .int (iI ((d 12) k))), (0, .ref 527), (1, .ref a), (2, .int (iI n))]) (st' := []) rfl ?_
              have h1969 := (n1967 529 (by decide)).trans (h1961)
              refine T_sub (ls := [(3, .int (iI (k + 1))), (0, .ref 527), (1, .ref a), (2, .int (iI n))]) ⟨rfl, rfl, rfl, rfl, trivial⟩ rfl rfl ?_
              exact ih1926 S1965 (k + 1) (hgt1 + 1) (X_ug pl1 hgt1 ((iI (ch (d 13 k - 1))).toInt)) (X_ug pr hgt1 ((iI (ch (d 13 k - 1))).toInt)) h1966 h1969 (hF1929.tr (((X_Fr.rf).tr (X_Fr.of n1962 e1963 (by omega))).tr (X_Fr.of n1967 e1968 (by omega)))) (by omega) hgo (fun q h1 h2 => by
                    by_cases hq : q = hgt1
                    · rw [hq, X_ug_s, X_ug_s]
                    · rw [X_ug_n _ _ hq, X_ug_n _ _ hq]; exact hpr q h1 (by omega)) (by omega)
        · skip
          have c1943 : ¬ (¬ ((d 12) k) = 4) := c1943
          refine T_p xr_108_37 xn_108 (pc' := 38) (ls' := [(5, .int (iI ((d 13) k))), (4, .int (iI ((d 12) k))), (3, .int (iI k)), (0, .ref 527), (1, .ref a), (2, .int (iI n))]) (st' := [.ref 527]) rfl ?_
          refine T_p xr_108_38 xn_108 (pc' := 40) (ls' := [(5, .int (iI ((d 13) k))), (4, .int (iI ((d 12) k))), (3, .int (iI k)), (0, .ref 527), (1, .ref a), (2, .int (iI n))]) (st' := [.int (iI ((d 13) k)), .ref 527]) rfl ?_
          have hst3 : 0 ≤ hgt1 ∧ hgt1 < 16 := by
            rcases hst2 with ⟨z, -⟩ | ⟨-, -, z⟩
            · unfold X_isOp at z; omega
            · exact z
          rw [if_pos (by omega)] at hgo
          refine T_ie (y := iI ((iI ((d 13) k)).toInt)) (iI_of _) ?_
          refine T_cv (S := S1931) (q := 527) xr_108_40 xf_109.1 xf_109.2.1 xn_109 (as := [.int (iI ((iI ((d 13) k)).toInt))]) (r := []) rfl hO7 (Nat.le_of_ble_eq_true rfl) (Nat.le_of_ble_eq_true rfl) (pc' := 43) rfl (ls' := [(0, .ref 527), (1, .int (iI ((iI ((d 13) k)).toInt)))]) rfl ?_
          refine T_p xr_109_0 xn_109 (pc' := 1) (ls' := [(0, .ref 527), (1, .int (iI ((iI ((d 13) k)).toInt)))]) (st' := [.ref 527]) rfl ?_
          refine T_get xr_109_1 hO7 rfl (v := .int (iI hgt1)) rfl (pc' := 4) rfl ?_
          refine T_p xr_109_4 xn_109 (pc' := 6) (ls' := [(0, .ref 527), (1, .int (iI ((iI ((d 13) k)).toInt)))]) (st' := [.int (iI 16), .int (iI hgt1)]) rfl ?_
          refine T_zicmp_ge xr_109_6 (t := 29) (pc' := 9) rfl rfl (fun c1970 => ?_) (fun c1970 => ?_)
          · skip
            have c1970 : 16 ≤ hgt1 := c1970
            exact (show False by omega).elim
          · skip
            have c1970 : ¬ (16 ≤ hgt1) := c1970
            refine T_p xr_109_9 xn_109 (pc' := 10) (ls' := [(0, .ref 527), (1, .int (iI ((iI ((d 13) k)).toInt)))]) (st' := [.ref 527]) rfl ?_
            refine T_get xr_109_10 hO7 rfl (v := .ref 529) rfl (pc' := 13) rfl ?_
            refine T_p xr_109_13 xn_109 (pc' := 14) (ls' := [(0, .ref 527), (1, .int (iI ((iI ((d 13) k)).toInt)))]) (st' := [.ref 527, .ref 529]) rfl ?_
            refine T_get xr_109_14 hO7 rfl (v := .int (iI hgt1)) rfl (pc' := 17) rfl ?_
            refine T_p xr_109_17 xn_109 (pc' := 18) (ls' := [(0, .ref 527), (1, .int (iI ((iI ((d 13) k)).toInt)))]) (st' := [.int (iI ((iI ((d 13) k)).toInt)), .int (iI hgt1), .ref 529]) rfl ?_
            refine T_ziast xr_109_18 hpl1 (pc' := 19) rfl (fun S1971 h1972 n1973 e1974 => ?_)
            refine T_p xr_109_19 xn_109 (pc' := 20) (ls' := [(0, .ref 527), (1, .int (iI ((iI ((d 13) k)).toInt)))]) (st' := [.ref 527]) rfl ?_
            refine T_p xr_109_20 xn_109 (pc' := 21) (ls' := [(0, .ref 527), (1, .int (iI ((iI ((d 13) k)).toInt)))]) (st' := [.ref 527, .ref 527]) rfl ?_
            have h1975 := (n1973 527 (by decide)).trans (hO7)
            refine T_get xr_109_21 h1975 rfl (v := .int (iI hgt1)) rfl (pc' := 24) rfl ?_
            refine T_p xr_109_24 xn_109 (pc' := 25) (ls' := [(0, .ref 527), (1, .int (iI ((iI ((d 13) k)).toInt)))]) (st' := [.int (iI 1), .int (iI hgt1), .ref 527]) rfl ?_
            refine T_ziadd xr_109_25 (z := hgt1 + 1) rfl (pc' := 26) rfl ?_
            refine T_put xr_109_26 h1975 rfl (Nat.le_of_ble_eq_true rfl) rfl (fs' := [.ref 501, .ref 504, .int (iI rs), .int (iI re), .ref 528, .ref 529, .int (iI (hgt1 + 1))]) rfl (pc' := 29) rfl (fun S1976 h1977 n1978 e1979 => ?_)
            refine T_vret xr_109_29 xf_109.2.2 ?_
            show X_T sc 108 (43, [(5, .int (iI ((d 13) k))), (4, .int (iI ((d 12) k))), (3, .int (iI k)), (0, .ref 527), (1, .ref a), (2, .int (iI n))], [], S1976) _
            refine T_p xr_108_43 xn_108 (pc' := 88) (ls' := [(5, .int (iI ((d 13) k))), (4, .int (iI ((d 12) k))), (3, .int (iI k)), (0, .ref 527), (1, .ref a), (2, .int (iI n))]) (st' := []) rfl ?_
            refine T_ziinc xr_108_88 xn_108 (a := k) (z := k + 1) rfl (Nat.le_of_ble_eq_true rfl) (by omega) (ls' := [(3, .int (iI (k + 1))), (5, .int (iI ((d 13) k))), (4, .int (iI ((d 12) k))), (0, .ref 527), (1, .ref a), (2, .int (iI n))]) rfl (pc' := 91) rfl ?_
            refine T_p xr_108_91 xn_108 (pc' := 7) (ls' := [(3, .int (iI (k + 1))), (5, .int (iI ((d 13) k))), (4, .int (iI ((d 12) k))), (0, .ref 527), (1, .ref a), (2, .int (iI n))]) (st' := []) rfl ?_
            have h1980 := (n1978 529 (by decide)).trans (h1972)
            refine T_sub (ls := [(3, .int (iI (k + 1))), (0, .ref 527), (1, .ref a), (2, .int (iI n))]) ⟨rfl, rfl, rfl, rfl, trivial⟩ rfl rfl ?_
            exact ih1926 S1976 (k + 1) (hgt1 + 1) (X_ug pl1 hgt1 ((iI ((d 13) k)).toInt)) (X_ug pr hgt1 ((iI (d 13 k)).toInt)) h1977 h1980 (hF1929.tr (((X_Fr.rf).tr (X_Fr.of n1973 e1974 (by omega))).tr (X_Fr.of n1978 e1979 (by omega)))) (by omega) hgo (fun q h1 h2 => by
                  by_cases hq : q = hgt1
                  · rw [hq, X_ug_s, X_ug_s]
                  · rw [X_ug_n _ _ hq, X_ug_n _ _ hq]; exact hpr q h1 (by omega)) (by omega)
  exact L1925 ((d 5 0) + 1).toNat S1921 0 0 pl (fun _ => 0) h1922 h1930 ((X_Fr.rf)) (by omega) rfl (fun q h1 h2 => absurd h2 (by omega)) (by omega)
