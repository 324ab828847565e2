theorem xr_113_0 : X_row 113 0 = some (0, (.aload_n 0, 1), (0, 0, 0)) := by decide +kernel
theorem xr_113_1 : X_row 113 1 = some (1, (.getfield 12, 3), (10, 0, 48)) := by decide +kernel
theorem xr_113_4 : X_row 113 4 = some (4, (.getfield 76, 3), (7, 1, 1)) := by decide +kernel
theorem xr_113_7 : X_row 113 7 = some (7, (.bipush 20, 2), (0, 0, 0)) := by decide +kernel
theorem xr_113_9 : X_row 113 9 = some (9, (.iadd, 1), (0, 0, 0)) := by decide +kernel
theorem xr_113_10 : X_row 113 10 = some (10, (.sipush 2000, 3), (0, 0, 0)) := by decide +kernel
theorem xr_113_13 : X_row 113 13 = some (13, (.if_icmp .le 5, 3), (0, 0, 0)) := by decide +kernel
theorem xr_113_16 : X_row 113 16 = some (16, (.iconst (-1), 1), (0, 0, 0)) := by decide +kernel
theorem xr_113_17 : X_row 113 17 = some (17, (.ireturn, 1), (0, 0, 0)) := by decide +kernel
theorem xr_113_18 : X_row 113 18 = some (18, (.aload_n 0, 1), (0, 0, 0)) := by decide +kernel
theorem xr_113_19 : X_row 113 19 = some (19, (.getfield 12, 3), (10, 0, 48)) := by decide +kernel
theorem xr_113_22 : X_row 113 22 = some (22, (.iload_n 1, 1), (0, 0, 0)) := by decide +kernel
theorem xr_113_23 : X_row 113 23 = some (23, (.invokevirtual 80, 3), (92, 16, 0)) := by decide +kernel
theorem xr_113_26 : X_row 113 26 = some (26, (.aload_n 0, 1), (0, 0, 0)) := by decide +kernel
theorem xr_113_27 : X_row 113 27 = some (27, (.getfield 12, 3), (10, 0, 48)) := by decide +kernel
theorem xr_113_30 : X_row 113 30 = some (30, (.iload_n 2, 1), (0, 0, 0)) := by decide +kernel
theorem xr_113_31 : X_row 113 31 = some (31, (.invokevirtual 80, 3), (92, 16, 0)) := by decide +kernel
theorem xr_113_34 : X_row 113 34 = some (34, (.aload_n 0, 1), (0, 0, 0)) := by decide +kernel
theorem xr_113_35 : X_row 113 35 = some (35, (.getfield 12, 3), (10, 0, 48)) := by decide +kernel
theorem xr_113_38 : X_row 113 38 = some (38, (.iload_n 3, 1), (0, 0, 0)) := by decide +kernel
theorem xr_113_39 : X_row 113 39 = some (39, (.invokevirtual 80, 3), (92, 16, 0)) := by decide +kernel
theorem xr_113_42 : X_row 113 42 = some (42, (.aload_n 0, 1), (0, 0, 0)) := by decide +kernel
theorem xr_113_43 : X_row 113 43 = some (43, (.getfield 12, 3), (10, 0, 48)) := by decide +kernel
theorem xr_113_46 : X_row 113 46 = some (46, (.iload 4, 2), (0, 0, 0)) := by decide +kernel
theorem xr_113_48 : X_row 113 48 = some (48, (.invokevirtual 80, 3), (92, 16, 0)) := by decide +kernel
theorem xr_113_51 : X_row 113 51 = some (51, (.aload_n 0, 1), (0, 0, 0)) := by decide +kernel
theorem xr_113_52 : X_row 113 52 = some (52, (.getfield 12, 3), (10, 0, 48)) := by decide +kernel
theorem xr_113_55 : X_row 113 55 = some (55, (.iload 5, 2), (0, 0, 0)) := by decide +kernel
theorem xr_113_57 : X_row 113 57 = some (57, (.invokevirtual 80, 3), (92, 16, 0)) := by decide +kernel
theorem xr_113_60 : X_row 113 60 = some (60, (.aload_n 0, 1), (0, 0, 0)) := by decide +kernel
theorem xr_113_61 : X_row 113 61 = some (61, (.getfield 12, 3), (10, 0, 48)) := by decide +kernel
theorem xr_113_64 : X_row 113 64 = some (64, (.getfield 76, 3), (7, 1, 1)) := by decide +kernel
theorem xr_113_67 : X_row 113 67 = some (67, (.ireturn, 1), (0, 0, 0)) := by decide +kernel
theorem xr_114_0 : X_row 114 0 = some (0, (.iload_n 1, 1), (0, 0, 0)) := by decide +kernel
theorem xr_114_1 : X_row 114 1 = some (1, (.ifCond .lt 14, 3), (0, 0, 0)) := by decide +kernel
theorem xr_114_4 : X_row 114 4 = some (4, (.iload_n 1, 1), (0, 0, 0)) := by decide +kernel
theorem xr_114_5 : X_row 114 5 = some (5, (.aload_n 0, 1), (0, 0, 0)) := by decide +kernel
theorem xr_114_6 : X_row 114 6 = some (6, (.getfield 12, 3), (10, 0, 48)) := by decide +kernel
theorem xr_114_9 : X_row 114 9 = some (9, (.getfield 76, 3), (7, 1, 1)) := by decide +kernel
theorem xr_114_12 : X_row 114 12 = some (12, (.if_icmp .le 5, 3), (0, 0, 0)) := by decide +kernel
theorem xr_114_15 : X_row 114 15 = some (15, (.iconst (-1), 1), (0, 0, 0)) := by decide +kernel
theorem xr_114_16 : X_row 114 16 = some (16, (.ireturn, 1), (0, 0, 0)) := by decide +kernel
theorem xr_114_17 : X_row 114 17 = some (17, (.aload_n 0, 1), (0, 0, 0)) := by decide +kernel
theorem xr_114_18 : X_row 114 18 = some (18, (.getfield 12, 3), (10, 0, 48)) := by decide +kernel
theorem xr_114_21 : X_row 114 21 = some (21, (.iload_n 1, 1), (0, 0, 0)) := by decide +kernel
theorem xr_114_22 : X_row 114 22 = some (22, (.putfield 76, 3), (7, 1, 1)) := by decide +kernel
theorem xr_114_25 : X_row 114 25 = some (25, (.iload_n 1, 1), (0, 0, 0)) := by decide +kernel
theorem xr_114_26 : X_row 114 26 = some (26, (.ireturn, 1), (0, 0, 0)) := by decide +kernel
theorem xr_116_0 : X_row 116 0 = some (0, (.iload_n 1, 1), (0, 0, 0)) := by decide +kernel
theorem xr_116_1 : X_row 116 1 = some (1, (.ifCond .ne 11, 3), (0, 0, 0)) := by decide +kernel
theorem xr_116_4 : X_row 116 4 = some (4, (.aload_n 0, 1), (0, 0, 0)) := by decide +kernel
theorem xr_116_5 : X_row 116 5 = some (5, (.getfield 31, 3), (10, 3, 54)) := by decide +kernel
theorem xr_116_8 : X_row 116 8 = some (8, (.getfield 97, 3), (4, 2, 27)) := by decide +kernel
theorem xr_116_11 : X_row 116 11 = some (11, (.ireturn, 1), (0, 0, 0)) := by decide +kernel
theorem xr_116_12 : X_row 116 12 = some (12, (.iload_n 1, 1), (0, 0, 0)) := by decide +kernel
theorem xr_116_13 : X_row 116 13 = some (13, (.iconst 1, 1), (0, 0, 0)) := by decide +kernel
theorem xr_116_14 : X_row 116 14 = some (14, (.if_icmp .ne 13, 3), (0, 0, 0)) := by decide +kernel
theorem xr_116_17 : X_row 116 17 = some (17, (.aload_n 0, 1), (0, 0, 0)) := by decide +kernel
theorem xr_116_18 : X_row 116 18 = some (18, (.getfield 31, 3), (10, 3, 54)) := by decide +kernel
theorem xr_116_21 : X_row 116 21 = some (21, (.getfield 100, 3), (4, 3, 29)) := by decide +kernel
theorem xr_116_24 : X_row 116 24 = some (24, (.goto 4, 3), (0, 0, 0)) := by decide +kernel
theorem xr_116_27 : X_row 116 27 = some (27, (.iconst (-1), 1), (0, 0, 0)) := by decide +kernel
theorem xr_116_28 : X_row 116 28 = some (28, (.ireturn, 1), (0, 0, 0)) := by decide +kernel
theorem xr_117_0 : X_row 117 0 = some (0, (.iload_n 1, 1), (0, 0, 0)) := by decide +kernel
theorem xr_117_1 : X_row 117 1 = some (1, (.tableswitch 87 0 5 #[39, 47, 55, 63, 71, 79], 39), (0, 0, 0)) := by decide +kernel
theorem xr_117_40 : X_row 117 40 = some (40, (.aload_n 0, 1), (0, 0, 0)) := by decide +kernel
theorem xr_117_41 : X_row 117 41 = some (41, (.getfield 19, 3), (10, 1, 50)) := by decide +kernel
theorem xr_117_44 : X_row 117 44 = some (44, (.getfield 103, 3), (0, 0, 19)) := by decide +kernel
theorem xr_117_47 : X_row 117 47 = some (47, (.ireturn, 1), (0, 0, 0)) := by decide +kernel
theorem xr_117_48 : X_row 117 48 = some (48, (.aload_n 0, 1), (0, 0, 0)) := by decide +kernel
theorem xr_117_49 : X_row 117 49 = some (49, (.getfield 19, 3), (10, 1, 50)) := by decide +kernel
theorem xr_117_52 : X_row 117 52 = some (52, (.getfield 106, 3), (0, 1, 21)) := by decide +kernel
theorem xr_117_55 : X_row 117 55 = some (55, (.ireturn, 1), (0, 0, 0)) := by decide +kernel
theorem xr_117_56 : X_row 117 56 = some (56, (.aload_n 0, 1), (0, 0, 0)) := by decide +kernel
theorem xr_117_57 : X_row 117 57 = some (57, (.getfield 19, 3), (10, 1, 50)) := by decide +kernel
theorem xr_117_60 : X_row 117 60 = some (60, (.getfield 94, 3), (0, 2, 23)) := by decide +kernel
theorem xr_117_63 : X_row 117 63 = some (63, (.ireturn, 1), (0, 0, 0)) := by decide +kernel
theorem xr_117_64 : X_row 117 64 = some (64, (.aload_n 0, 1), (0, 0, 0)) := by decide +kernel
theorem xr_117_65 : X_row 117 65 = some (65, (.getfield 38, 3), (10, 4, 56)) := by decide +kernel
theorem xr_117_68 : X_row 117 68 = some (68, (.getfield 88, 3), (6, 0, 31)) := by decide +kernel
theorem xr_117_71 : X_row 117 71 = some (71, (.ireturn, 1), (0, 0, 0)) := by decide +kernel
theorem xr_117_72 : X_row 117 72 = some (72, (.aload_n 0, 1), (0, 0, 0)) := by decide +kernel
theorem xr_117_73 : X_row 117 73 = some (73, (.getfield 45, 3), (10, 5, 58)) := by decide +kernel
theorem xr_117_76 : X_row 117 76 = some (76, (.getfield 109, 3), (5, 0, 33)) := by decide +kernel
theorem xr_117_79 : X_row 117 79 = some (79, (.ireturn, 1), (0, 0, 0)) := by decide +kernel
theorem xr_117_80 : X_row 117 80 = some (80, (.aload_n 0, 1), (0, 0, 0)) := by decide +kernel
theorem xr_117_81 : X_row 117 81 = some (81, (.getfield 12, 3), (10, 0, 48)) := by decide +kernel
theorem xr_117_84 : X_row 117 84 = some (84, (.getfield 76, 3), (7, 1, 1)) := by decide +kernel
theorem xr_117_87 : X_row 117 87 = some (87, (.ireturn, 1), (0, 0, 0)) := by decide +kernel
theorem xr_117_88 : X_row 117 88 = some (88, (.iconst (-1), 1), (0, 0, 0)) := by decide +kernel
theorem xr_117_89 : X_row 117 89 = some (89, (.ireturn, 1), (0, 0, 0)) := by decide +kernel
theorem xr_118_0 : X_row 118 0 = some (0, (.aload_n 0, 1), (0, 0, 0)) := by decide +kernel
theorem xr_118_1 : X_row 118 1 = some (1, (.getfield 19, 3), (10, 1, 50)) := by decide +kernel
theorem xr_118_4 : X_row 118 4 = some (4, (.iload_n 1, 1), (0, 0, 0)) := by decide +kernel
theorem xr_118_5 : X_row 118 5 = some (5, (.invokevirtual 110, 3), (4, 28, 0)) := by decide +kernel
theorem xr_118_8 : X_row 118 8 = some (8, (.ifCond .ne 5, 3), (0, 0, 0)) := by decide +kernel
theorem xr_118_11 : X_row 118 11 = some (11, (.iconst (-1), 1), (0, 0, 0)) := by decide +kernel
theorem xr_118_12 : X_row 118 12 = some (12, (.ireturn, 1), (0, 0, 0)) := by decide +kernel
theorem xr_118_13 : X_row 118 13 = some (13, (.aload_n 0, 1), (0, 0, 0)) := by decide +kernel
theorem xr_118_14 : X_row 118 14 = some (14, (.getfield 19, 3), (10, 1, 50)) := by decide +kernel
theorem xr_118_17 : X_row 118 17 = some (17, (.getfield 114, 3), (0, 7, 25)) := by decide +kernel
theorem xr_118_20 : X_row 118 20 = some (20, (.iload_n 1, 1), (0, 0, 0)) := by decide +kernel
theorem xr_118_21 : X_row 118 21 = some (21, (.aaload, 1), (0, 0, 0)) := by decide +kernel
theorem xr_118_22 : X_row 118 22 = some (22, (.astore_n 3, 1), (0, 0, 0)) := by decide +kernel
theorem xr_118_23 : X_row 118 23 = some (23, (.iload_n 2, 1), (0, 0, 0)) := by decide +kernel
theorem xr_118_24 : X_row 118 24 = some (24, (.tableswitch 79 0 6 #[44, 49, 54, 59, 64, 69, 74], 44), (0, 0, 0)) := by decide +kernel
theorem xr_118_68 : X_row 118 68 = some (68, (.aload_n 3, 1), (0, 0, 0)) := by decide +kernel
theorem xr_118_69 : X_row 118 69 = some (69, (.getfield 118, 3), (8, 0, 3)) := by decide +kernel
theorem xr_118_72 : X_row 118 72 = some (72, (.ireturn, 1), (0, 0, 0)) := by decide +kernel
theorem xr_118_73 : X_row 118 73 = some (73, (.aload_n 3, 1), (0, 0, 0)) := by decide +kernel
theorem xr_118_74 : X_row 118 74 = some (74, (.getfield 123, 3), (8, 1, 5)) := by decide +kernel
theorem xr_118_77 : X_row 118 77 = some (77, (.ireturn, 1), (0, 0, 0)) := by decide +kernel
theorem xr_118_78 : X_row 118 78 = some (78, (.aload_n 3, 1), (0, 0, 0)) := by decide +kernel
theorem xr_118_79 : X_row 118 79 = some (79, (.getfield 126, 3), (8, 2, 7)) := by decide +kernel
theorem xr_118_82 : X_row 118 82 = some (82, (.ireturn, 1), (0, 0, 0)) := by decide +kernel
theorem xr_118_83 : X_row 118 83 = some (83, (.aload_n 3, 1), (0, 0, 0)) := by decide +kernel
theorem xr_118_84 : X_row 118 84 = some (84, (.getfield 129, 3), (8, 3, 9)) := by decide +kernel
theorem xr_118_87 : X_row 118 87 = some (87, (.ireturn, 1), (0, 0, 0)) := by decide +kernel
theorem xr_118_88 : X_row 118 88 = some (88, (.aload_n 3, 1), (0, 0, 0)) := by decide +kernel
theorem xr_118_89 : X_row 118 89 = some (89, (.getfield 132, 3), (8, 4, 11)) := by decide +kernel
theorem xr_118_92 : X_row 118 92 = some (92, (.ireturn, 1), (0, 0, 0)) := by decide +kernel
theorem xr_118_93 : X_row 118 93 = some (93, (.aload_n 3, 1), (0, 0, 0)) := by decide +kernel
theorem xr_118_94 : X_row 118 94 = some (94, (.invokevirtual 135, 3), (101, 30, 0)) := by decide +kernel
theorem xr_118_97 : X_row 118 97 = some (97, (.ireturn, 1), (0, 0, 0)) := by decide +kernel
theorem xr_118_98 : X_row 118 98 = some (98, (.aload_n 3, 1), (0, 0, 0)) := by decide +kernel
theorem xr_118_99 : X_row 118 99 = some (99, (.getfield 139, 3), (8, 5, 13)) := by decide +kernel
theorem xr_118_102 : X_row 118 102 = some (102, (.ireturn, 1), (0, 0, 0)) := by decide +kernel
theorem xr_118_103 : X_row 118 103 = some (103, (.iconst (-1), 1), (0, 0, 0)) := by decide +kernel
theorem xr_118_104 : X_row 118 104 = some (104, (.ireturn, 1), (0, 0, 0)) := by decide +kernel
theorem xr_119_0 : X_row 119 0 = some (0, (.aload_n 0, 1), (0, 0, 0)) := by decide +kernel
theorem xr_119_1 : X_row 119 1 = some (1, (.getfield 19, 3), (10, 1, 50)) := by decide +kernel
theorem xr_119_4 : X_row 119 4 = some (4, (.iload_n 1, 1), (0, 0, 0)) := by decide +kernel
theorem xr_119_5 : X_row 119 5 = some (5, (.invokevirtual 142, 3), (2, 32, 0)) := by decide +kernel
theorem xr_119_8 : X_row 119 8 = some (8, (.ifCond .eq 14, 3), (0, 0, 0)) := by decide +kernel
theorem xr_119_11 : X_row 119 11 = some (11, (.aload_n 0, 1), (0, 0, 0)) := by decide +kernel
theorem xr_119_12 : X_row 119 12 = some (12, (.getfield 19, 3), (10, 1, 50)) := by decide +kernel
theorem xr_119_15 : X_row 119 15 = some (15, (.iload_n 2, 1), (0, 0, 0)) := by decide +kernel
theorem xr_119_16 : X_row 119 16 = some (16, (.invokevirtual 142, 3), (2, 32, 0)) := by decide +kernel
theorem xr_119_19 : X_row 119 19 = some (19, (.ifCond .ne 5, 3), (0, 0, 0)) := by decide +kernel
theorem xr_119_22 : X_row 119 22 = some (22, (.iconst (-1), 1), (0, 0, 0)) := by decide +kernel
theorem xr_119_23 : X_row 119 23 = some (23, (.ireturn, 1), (0, 0, 0)) := by decide +kernel
theorem xr_119_24 : X_row 119 24 = some (24, (.aload_n 0, 1), (0, 0, 0)) := by decide +kernel
theorem xr_119_25 : X_row 119 25 = some (25, (.getfield 19, 3), (10, 1, 50)) := by decide +kernel
theorem xr_119_28 : X_row 119 28 = some (28, (.iload_n 1, 1), (0, 0, 0)) := by decide +kernel
theorem xr_119_29 : X_row 119 29 = some (29, (.iload_n 2, 1), (0, 0, 0)) := by decide +kernel
theorem xr_119_30 : X_row 119 30 = some (30, (.invokevirtual 145, 3), (11, 34, 0)) := by decide +kernel
theorem xr_119_33 : X_row 119 33 = some (33, (.ifCond .eq 7, 3), (0, 0, 0)) := by decide +kernel
theorem xr_119_36 : X_row 119 36 = some (36, (.iconst 1, 1), (0, 0, 0)) := by decide +kernel
theorem xr_119_37 : X_row 119 37 = some (37, (.goto 4, 3), (0, 0, 0)) := by decide +kernel
theorem xr_119_40 : X_row 119 40 = some (40, (.iconst 0, 1), (0, 0, 0)) := by decide +kernel
theorem xr_119_41 : X_row 119 41 = some (41, (.ireturn, 1), (0, 0, 0)) := by decide +kernel
theorem xr_120_0 : X_row 120 0 = some (0, (.aload_n 0, 1), (0, 0, 0)) := by decide +kernel
theorem xr_120_1 : X_row 120 1 = some (1, (.getfield 19, 3), (10, 1, 50)) := by decide +kernel
theorem xr_120_4 : X_row 120 4 = some (4, (.iload_n 1, 1), (0, 0, 0)) := by decide +kernel
theorem xr_120_5 : X_row 120 5 = some (5, (.invokevirtual 149, 3), (3, 36, 0)) := by decide +kernel
theorem xr_120_8 : X_row 120 8 = some (8, (.ifCond .eq 14, 3), (0, 0, 0)) := by decide +kernel
theorem xr_120_11 : X_row 120 11 = some (11, (.aload_n 0, 1), (0, 0, 0)) := by decide +kernel
theorem xr_120_12 : X_row 120 12 = some (12, (.getfield 19, 3), (10, 1, 50)) := by decide +kernel
theorem xr_120_15 : X_row 120 15 = some (15, (.iload_n 2, 1), (0, 0, 0)) := by decide +kernel
theorem xr_120_16 : X_row 120 16 = some (16, (.invokevirtual 149, 3), (3, 36, 0)) := by decide +kernel
theorem xr_120_19 : X_row 120 19 = some (19, (.ifCond .ne 5, 3), (0, 0, 0)) := by decide +kernel
theorem xr_120_22 : X_row 120 22 = some (22, (.iconst (-1), 1), (0, 0, 0)) := by decide +kernel
theorem xr_120_23 : X_row 120 23 = some (23, (.ireturn, 1), (0, 0, 0)) := by decide +kernel
theorem xr_120_24 : X_row 120 24 = some (24, (.aload_n 0, 1), (0, 0, 0)) := by decide +kernel
theorem xr_120_25 : X_row 120 25 = some (25, (.getfield 19, 3), (10, 1, 50)) := by decide +kernel
theorem xr_120_28 : X_row 120 28 = some (28, (.iload_n 1, 1), (0, 0, 0)) := by decide +kernel
theorem xr_120_29 : X_row 120 29 = some (29, (.iload_n 2, 1), (0, 0, 0)) := by decide +kernel
theorem xr_120_30 : X_row 120 30 = some (30, (.invokevirtual 152, 3), (12, 38, 0)) := by decide +kernel
theorem xr_120_33 : X_row 120 33 = some (33, (.ifCond .eq 7, 3), (0, 0, 0)) := by decide +kernel
theorem xr_120_36 : X_row 120 36 = some (36, (.iconst 1, 1), (0, 0, 0)) := by decide +kernel
theorem xr_120_37 : X_row 120 37 = some (37, (.goto 4, 3), (0, 0, 0)) := by decide +kernel
theorem xr_120_40 : X_row 120 40 = some (40, (.iconst 0, 1), (0, 0, 0)) := by decide +kernel
theorem xr_120_41 : X_row 120 41 = some (41, (.ireturn, 1), (0, 0, 0)) := by decide +kernel
theorem xr_125_0 : X_row 125 0 = some (0, (.iload_n 1, 1), (0, 0, 0)) := by decide +kernel
theorem xr_125_1 : X_row 125 1 = some (1, (.ifCond .lt 14, 3), (0, 0, 0)) := by decide +kernel
theorem xr_125_4 : X_row 125 4 = some (4, (.iload_n 1, 1), (0, 0, 0)) := by decide +kernel
theorem xr_125_5 : X_row 125 5 = some (5, (.aload_n 0, 1), (0, 0, 0)) := by decide +kernel
theorem xr_125_6 : X_row 125 6 = some (6, (.getfield 45, 3), (10, 5, 58)) := by decide +kernel
theorem xr_125_9 : X_row 125 9 = some (9, (.getfield 109, 3), (5, 0, 33)) := by decide +kernel
theorem xr_125_12 : X_row 125 12 = some (12, (.if_icmp .lt 5, 3), (0, 0, 0)) := by decide +kernel
theorem xr_125_15 : X_row 125 15 = some (15, (.iconst (-1), 1), (0, 0, 0)) := by decide +kernel
theorem xr_125_16 : X_row 125 16 = some (16, (.ireturn, 1), (0, 0, 0)) := by decide +kernel
theorem xr_125_17 : X_row 125 17 = some (17, (.iload_n 2, 1), (0, 0, 0)) := by decide +kernel
theorem xr_125_18 : X_row 125 18 = some (18, (.tableswitch 84 0 4 #[34, 44, 54, 64, 74], 34), (0, 0, 0)) := by decide +kernel
theorem xr_125_52 : X_row 125 52 = some (52, (.aload_n 0, 1), (0, 0, 0)) := by decide +kernel
theorem xr_125_53 : X_row 125 53 = some (53, (.getfield 45, 3), (10, 5, 58)) := by decide +kernel
theorem xr_125_56 : X_row 125 56 = some (56, (.getfield 175, 3), (5, 1, 35)) := by decide +kernel
theorem xr_125_59 : X_row 125 59 = some (59, (.iload_n 1, 1), (0, 0, 0)) := by decide +kernel
theorem xr_125_60 : X_row 125 60 = some (60, (.iaload, 1), (0, 0, 0)) := by decide +kernel
theorem xr_125_61 : X_row 125 61 = some (61, (.ireturn, 1), (0, 0, 0)) := by decide +kernel
theorem xr_125_62 : X_row 125 62 = some (62, (.aload_n 0, 1), (0, 0, 0)) := by decide +kernel
theorem xr_125_63 : X_row 125 63 = some (63, (.getfield 45, 3), (10, 5, 58)) := by decide +kernel
theorem xr_125_66 : X_row 125 66 = some (66, (.getfield 179, 3), (5, 2, 37)) := by decide +kernel
theorem xr_125_69 : X_row 125 69 = some (69, (.iload_n 1, 1), (0, 0, 0)) := by decide +kernel
theorem xr_125_70 : X_row 125 70 = some (70, (.iaload, 1), (0, 0, 0)) := by decide +kernel
theorem xr_125_71 : X_row 125 71 = some (71, (.ireturn, 1), (0, 0, 0)) := by decide +kernel
theorem xr_125_72 : X_row 125 72 = some (72, (.aload_n 0, 1), (0, 0, 0)) := by decide +kernel
theorem xr_125_73 : X_row 125 73 = some (73, (.getfield 45, 3), (10, 5, 58)) := by decide +kernel
theorem xr_125_76 : X_row 125 76 = some (76, (.getfield 182, 3), (5, 3, 39)) := by decide +kernel
theorem xr_125_79 : X_row 125 79 = some (79, (.iload_n 1, 1), (0, 0, 0)) := by decide +kernel
theorem xr_125_80 : X_row 125 80 = some (80, (.iaload, 1), (0, 0, 0)) := by decide +kernel
theorem xr_125_81 : X_row 125 81 = some (81, (.ireturn, 1), (0, 0, 0)) := by decide +kernel
theorem xr_125_82 : X_row 125 82 = some (82, (.aload_n 0, 1), (0, 0, 0)) := by decide +kernel
theorem xr_125_83 : X_row 125 83 = some (83, (.getfield 45, 3), (10, 5, 58)) := by decide +kernel
theorem xr_125_86 : X_row 125 86 = some (86, (.getfield 184, 3), (5, 4, 41)) := by decide +kernel
theorem xr_125_89 : X_row 125 89 = some (89, (.iload_n 1, 1), (0, 0, 0)) := by decide +kernel
theorem xr_125_90 : X_row 125 90 = some (90, (.iaload, 1), (0, 0, 0)) := by decide +kernel
theorem xr_125_91 : X_row 125 91 = some (91, (.ireturn, 1), (0, 0, 0)) := by decide +kernel
theorem xr_125_92 : X_row 125 92 = some (92, (.aload_n 0, 1), (0, 0, 0)) := by decide +kernel
theorem xr_125_93 : X_row 125 93 = some (93, (.getfield 45, 3), (10, 5, 58)) := by decide +kernel
theorem xr_125_96 : X_row 125 96 = some (96, (.getfield 187, 3), (5, 5, 43)) := by decide +kernel
theorem xr_125_99 : X_row 125 99 = some (99, (.iload_n 1, 1), (0, 0, 0)) := by decide +kernel
theorem xr_125_100 : X_row 125 100 = some (100, (.iaload, 1), (0, 0, 0)) := by decide +kernel
theorem xr_125_101 : X_row 125 101 = some (101, (.ireturn, 1), (0, 0, 0)) := by decide +kernel
theorem xr_125_102 : X_row 125 102 = some (102, (.iconst (-1), 1), (0, 0, 0)) := by decide +kernel
theorem xr_125_103 : X_row 125 103 = some (103, (.ireturn, 1), (0, 0, 0)) := by decide +kernel
theorem xr_128_0 : X_row 128 0 = some (0, (.iload_n 1, 1), (0, 0, 0)) := by decide +kernel
theorem xr_128_1 : X_row 128 1 = some (1, (.ifCond .ne 11, 3), (0, 0, 0)) := by decide +kernel
theorem xr_128_4 : X_row 128 4 = some (4, (.aload_n 0, 1), (0, 0, 0)) := by decide +kernel
theorem xr_128_5 : X_row 128 5 = some (5, (.getfield 72, 3), (10, 8, 64)) := by decide +kernel
theorem xr_128_8 : X_row 128 8 = some (8, (.getfield 201, 3), (9, 2, 45)) := by decide +kernel
theorem xr_128_11 : X_row 128 11 = some (11, (.ireturn, 1), (0, 0, 0)) := by decide +kernel
theorem xr_128_12 : X_row 128 12 = some (12, (.iload_n 1, 1), (0, 0, 0)) := by decide +kernel
theorem xr_128_13 : X_row 128 13 = some (13, (.iconst 1, 1), (0, 0, 0)) := by decide +kernel
theorem xr_128_14 : X_row 128 14 = some (14, (.if_icmp .ne 13, 3), (0, 0, 0)) := by decide +kernel
theorem xr_128_17 : X_row 128 17 = some (17, (.aload_n 0, 1), (0, 0, 0)) := by decide +kernel
theorem xr_128_18 : X_row 128 18 = some (18, (.getfield 72, 3), (10, 8, 64)) := by decide +kernel
theorem xr_128_21 : X_row 128 21 = some (21, (.getfield 204, 3), (9, 3, 47)) := by decide +kernel
theorem xr_128_24 : X_row 128 24 = some (24, (.goto 4, 3), (0, 0, 0)) := by decide +kernel
theorem xr_128_27 : X_row 128 27 = some (27, (.iconst (-1), 1), (0, 0, 0)) := by decide +kernel
theorem xr_128_28 : X_row 128 28 = some (28, (.ireturn, 1), (0, 0, 0)) := by decide +kernel
theorem xr_129_0 : X_row 129 0 = some (0, (.iconst 0, 1), (0, 0, 0)) := by decide +kernel
theorem xr_129_1 : X_row 129 1 = some (1, (.istore_n 1, 1), (0, 0, 0)) := by decide +kernel
theorem xr_129_2 : X_row 129 2 = some (2, (.iload_n 1, 1), (0, 0, 0)) := by decide +kernel
theorem xr_129_3 : X_row 129 3 = some (3, (.aload_n 0, 1), (0, 0, 0)) := by decide +kernel
theorem xr_129_4 : X_row 129 4 = some (4, (.getfield 19, 3), (10, 1, 50)) := by decide +kernel
theorem xr_129_7 : X_row 129 7 = some (7, (.getfield 94, 3), (0, 2, 23)) := by decide +kernel
theorem xr_129_10 : X_row 129 10 = some (10, (.if_icmp .ge 47, 3), (0, 0, 0)) := by decide +kernel
theorem xr_129_13 : X_row 129 13 = some (13, (.iload_n 1, 1), (0, 0, 0)) := by decide +kernel
theorem xr_129_14 : X_row 129 14 = some (14, (.istore_n 2, 1), (0, 0, 0)) := by decide +kernel
theorem xr_129_15 : X_row 129 15 = some (15, (.iload_n 2, 1), (0, 0, 0)) := by decide +kernel
theorem xr_129_16 : X_row 129 16 = some (16, (.aload_n 0, 1), (0, 0, 0)) := by decide +kernel
theorem xr_129_17 : X_row 129 17 = some (17, (.getfield 19, 3), (10, 1, 50)) := by decide +kernel
theorem xr_129_20 : X_row 129 20 = some (20, (.getfield 94, 3), (0, 2, 23)) := by decide +kernel
theorem xr_129_23 : X_row 129 23 = some (23, (.if_icmp .ge 28, 3), (0, 0, 0)) := by decide +kernel
theorem xr_129_26 : X_row 129 26 = some (26, (.aload_n 0, 1), (0, 0, 0)) := by decide +kernel
theorem xr_129_27 : X_row 129 27 = some (27, (.getfield 19, 3), (10, 1, 50)) := by decide +kernel
theorem xr_129_30 : X_row 129 30 = some (30, (.iload_n 1, 1), (0, 0, 0)) := by decide +kernel
theorem xr_129_31 : X_row 129 31 = some (31, (.iload_n 2, 1), (0, 0, 0)) := by decide +kernel
theorem xr_129_32 : X_row 129 32 = some (32, (.invokevirtual 207, 3), (18, 50, 0)) := by decide +kernel
theorem xr_129_35 : X_row 129 35 = some (35, (.ifCond .eq 10, 3), (0, 0, 0)) := by decide +kernel
theorem xr_129_38 : X_row 129 38 = some (38, (.bipush 100, 2), (0, 0, 0)) := by decide +kernel
theorem xr_129_40 : X_row 129 40 = some (40, (.iload_n 1, 1), (0, 0, 0)) := by decide +kernel
theorem xr_129_41 : X_row 129 41 = some (41, (.imul, 1), (0, 0, 0)) := by decide +kernel
theorem xr_129_42 : X_row 129 42 = some (42, (.iload_n 2, 1), (0, 0, 0)) := by decide +kernel
theorem xr_129_43 : X_row 129 43 = some (43, (.iadd, 1), (0, 0, 0)) := by decide +kernel
theorem xr_129_44 : X_row 129 44 = some (44, (.ireturn, 1), (0, 0, 0)) := by decide +kernel
theorem xr_129_45 : X_row 129 45 = some (45, (.iinc 2 1, 3), (0, 0, 0)) := by decide +kernel
theorem xr_129_48 : X_row 129 48 = some (48, (.goto (-33), 3), (0, 0, 0)) := by decide +kernel
theorem xr_129_51 : X_row 129 51 = some (51, (.iinc 1 1, 3), (0, 0, 0)) := by decide +kernel
theorem xr_129_54 : X_row 129 54 = some (54, (.goto (-52), 3), (0, 0, 0)) := by decide +kernel
theorem xr_129_57 : X_row 129 57 = some (57, (.iconst (-1), 1), (0, 0, 0)) := by decide +kernel
theorem xr_129_58 : X_row 129 58 = some (58, (.ireturn, 1), (0, 0, 0)) := by decide +kernel
theorem xn_113 : X_nL 113 = 6 := by decide +kernel
theorem xf_113 : X_na 113 = 5 ∧ X_ci 113 = 10 ∧ X_rt 113 = (some .int) := by decide +kernel
theorem xn_114 : X_nL 114 = 2 := by decide +kernel
theorem xf_114 : X_na 114 = 1 ∧ X_ci 114 = 10 ∧ X_rt 114 = (some .int) := by decide +kernel
theorem xn_116 : X_nL 116 = 2 := by decide +kernel
theorem xf_116 : X_na 116 = 1 ∧ X_ci 116 = 10 ∧ X_rt 116 = (some .int) := by decide +kernel
theorem xn_117 : X_nL 117 = 2 := by decide +kernel
theorem xf_117 : X_na 117 = 1 ∧ X_ci 117 = 10 ∧ X_rt 117 = (some .int) := by decide +kernel
theorem xn_118 : X_nL 118 = 4 := by decide +kernel
theorem xf_118 : X_na 118 = 2 ∧ X_ci 118 = 10 ∧ X_rt 118 = (some .int) := by decide +kernel
theorem xn_119 : X_nL 119 = 3 := by decide +kernel
theorem xf_119 : X_na 119 = 2 ∧ X_ci 119 = 10 ∧ X_rt 119 = (some .int) := by decide +kernel
theorem xn_120 : X_nL 120 = 3 := by decide +kernel
theorem xf_120 : X_na 120 = 2 ∧ X_ci 120 = 10 ∧ X_rt 120 = (some .int) := by decide +kernel
theorem xn_125 : X_nL 125 = 3 := by decide +kernel
theorem xf_125 : X_na 125 = 2 ∧ X_ci 125 = 10 ∧ X_rt 125 = (some .int) := by decide +kernel
theorem xn_128 : X_nL 128 = 2 := by decide +kernel
theorem xf_128 : X_na 128 = 1 ∧ X_ci 128 = 10 ∧ X_rt 128 = (some .int) := by decide +kernel
theorem xn_129 : X_nL 129 = 3 := by decide +kernel
theorem xf_129 : X_na 129 = 0 ∧ X_ci 129 = 10 ∧ X_rt 129 = (some .int) := by decide +kernel
theorem c_feed (sc : X_Sc) (S : X_S) (tb : Int → Int) (len : Int) (B2 : Nat) (B : Nat) (a : Int) (b : Int) (c : Int) (d : Int) (e : Int) (hO1 : S.1 1 = .inr (10, [.ref 2, .ref B, .ref B2, .ref 496, .ref 501, .ref 504, .ref 511, .ref 517, .ref 527])) (hO2 : S.1 2 = .inr (7, [.ref 3, .int (iI len)])) (hA3 : S.1 3 = .inl (.byte, 2000, .inl fun k : Nat => iI (tb (k : Int)))) (hl : 0 ≤ len ∧ len ≤ 2000) : X_T sc 113 (0, [(0, .ref 1), (1, .int (iI a)), (2, .int (iI b)), (3, .int (iI c)), (4, .int (iI d)), (5, .int (iI e))], [], S) (fun v S' => (v = some (.int (iI (-1))) ∧ 2000 < len + 20 ∧ S' = S) ∨ (v = some (.int (iI (len + 20))) ∧ len + 20 ≤ 2000 ∧ S'.1 2 = .inr (7, [.ref 3, .int (iI (len + 20))]) ∧ S'.1 3 = .inl (.byte, 2000, .inl fun k : Nat => iI ((X_fd5 tb len a b c d e) (k : Int))) ∧ (X_Fr (fun q => q = 3 ∨ q = 2) S S'))) := by
  refine X_QI (fun Q hQ => ?_)
  refine T_p xr_113_0 xn_113 (pc' := 1) (ls' := [(0, .ref 1), (1, .int (iI a)), (2, .int (iI b)), (3, .int (iI c)), (4, .int (iI d)), (5, .int (iI e))]) (st' := [.ref 1]) rfl ?_
  refine T_get xr_113_1 hO1 rfl (v := .ref 2) rfl (pc' := 4) rfl ?_
  refine T_get xr_113_4 hO2 rfl (v := .int (iI len)) rfl (pc' := 7) rfl ?_
  refine T_p xr_113_7 xn_113 (pc' := 9) (ls' := [(0, .ref 1), (1, .int (iI a)), (2, .int (iI b)), (3, .int (iI c)), (4, .int (iI d)), (5, .int (iI e))]) (st' := [.int (iI 20), .int (iI len)]) rfl ?_
  refine T_ziadd xr_113_9 (z := len + 20) rfl (pc' := 10) rfl ?_
  refine T_p xr_113_10 xn_113 (pc' := 13) (ls' := [(0, .ref 1), (1, .int (iI a)), (2, .int (iI b)), (3, .int (iI c)), (4, .int (iI d)), (5, .int (iI e))]) (st' := [.int (iI 2000), .int (iI (len + 20))]) rfl ?_
  refine T_zicmp_le xr_113_13 (t := 18) (pc' := 16) rfl rfl (fun c2251 => ?_) (fun c2251 => ?_)
  · skip
    have c2251 : (len + 20) ≤ 2000 := c2251
    refine T_p xr_113_18 xn_113 (pc' := 19) (ls' := [(0, .ref 1), (1, .int (iI a)), (2, .int (iI b)), (3, .int (iI c)), (4, .int (iI d)), (5, .int (iI e))]) (st' := [.ref 1]) rfl ?_
    refine T_get xr_113_19 hO1 rfl (v := .ref 2) rfl (pc' := 22) rfl ?_
    refine T_p xr_113_22 xn_113 (pc' := 23) (ls' := [(0, .ref 1), (1, .int (iI a)), (2, .int (iI b)), (3, .int (iI c)), (4, .int (iI d)), (5, .int (iI e))]) (st' := [.int (iI a), .ref 2]) rfl ?_
    refine T_cv (S := S) (q := 2) xr_113_23 xf_92.1 xf_92.2.1 xn_92 (as := [.int (iI a)]) (r := []) rfl hO2 (Nat.le_of_ble_eq_true rfl) (Nat.le_of_ble_eq_true rfl) (pc' := 26) rfl (ls' := [(0, .ref 2), (1, .int (iI a))]) rfl ?_
    refine T_mono (c_append sc S len a tb hO2 hA3 (by omega)) (fun v2252 S2253 h2254 => ?_)
    obtain ⟨hv2255, h2256, h2257, hf2258⟩ := h2254
    rw [hv2255]
    have h2259 : S2253.1 2 = .inr (7, [.ref 3, .int (iI (len + 4))]) := by rw [h2256, show len + 4 = len + 4 by omega]
    show X_T sc 113 (26, [(0, .ref 1), (1, .int (iI a)), (2, .int (iI b)), (3, .int (iI c)), (4, .int (iI d)), (5, .int (iI e))], [], S2253) _
    refine T_p xr_113_26 xn_113 (pc' := 27) (ls' := [(0, .ref 1), (1, .int (iI a)), (2, .int (iI b)), (3, .int (iI c)), (4, .int (iI d)), (5, .int (iI e))]) (st' := [.ref 1]) rfl ?_
    have h2260 := (hf2258.1 1 (by omega)).trans (hO1)
    refine T_get xr_113_27 h2260 rfl (v := .ref 2) rfl (pc' := 30) rfl ?_
    refine T_p xr_113_30 xn_113 (pc' := 31) (ls' := [(0, .ref 1), (1, .int (iI a)), (2, .int (iI b)), (3, .int (iI c)), (4, .int (iI d)), (5, .int (iI e))]) (st' := [.int (iI b), .ref 2]) rfl ?_
    refine T_cv (S := S2253) (q := 2) xr_113_31 xf_92.1 xf_92.2.1 xn_92 (as := [.int (iI b)]) (r := []) rfl h2259 (Nat.le_of_ble_eq_true rfl) (Nat.le_of_ble_eq_true rfl) (pc' := 34) rfl (ls' := [(0, .ref 2), (1, .int (iI b))]) rfl ?_
    refine T_mono (c_append sc S2253 (len + 4) b (X_ap4 tb len a) h2259 h2257 (by omega)) (fun v2261 S2262 h2263 => ?_)
    obtain ⟨hv2264, h2265, h2266, hf2267⟩ := h2263
    rw [hv2264]
    have h2268 : S2262.1 2 = .inr (7, [.ref 3, .int (iI (len + 8))]) := by rw [h2265, show len + 4 + 4 = len + 8 by omega]
    show X_T sc 113 (34, [(0, .ref 1), (1, .int (iI a)), (2, .int (iI b)), (3, .int (iI c)), (4, .int (iI d)), (5, .int (iI e))], [], S2262) _
    refine T_p xr_113_34 xn_113 (pc' := 35) (ls' := [(0, .ref 1), (1, .int (iI a)), (2, .int (iI b)), (3, .int (iI c)), (4, .int (iI d)), (5, .int (iI e))]) (st' := [.ref 1]) rfl ?_
    have h2269 := (hf2267.1 1 (by omega)).trans (h2260)
    refine T_get xr_113_35 h2269 rfl (v := .ref 2) rfl (pc' := 38) rfl ?_
    refine T_p xr_113_38 xn_113 (pc' := 39) (ls' := [(0, .ref 1), (1, .int (iI a)), (2, .int (iI b)), (3, .int (iI c)), (4, .int (iI d)), (5, .int (iI e))]) (st' := [.int (iI c), .ref 2]) rfl ?_
    refine T_cv (S := S2262) (q := 2) xr_113_39 xf_92.1 xf_92.2.1 xn_92 (as := [.int (iI c)]) (r := []) rfl h2268 (Nat.le_of_ble_eq_true rfl) (Nat.le_of_ble_eq_true rfl) (pc' := 42) rfl (ls' := [(0, .ref 2), (1, .int (iI c))]) rfl ?_
    refine T_mono (c_append sc S2262 (len + 8) c (X_ap4 (X_ap4 tb len a) (len + 4) b) h2268 h2266 (by omega)) (fun v2270 S2271 h2272 => ?_)
    obtain ⟨hv2273, h2274, h2275, hf2276⟩ := h2272
    rw [hv2273]
    have h2277 : S2271.1 2 = .inr (7, [.ref 3, .int (iI (len + 12))]) := by rw [h2274, show len + 8 + 4 = len + 12 by omega]
    show X_T sc 113 (42, [(0, .ref 1), (1, .int (iI a)), (2, .int (iI b)), (3, .int (iI c)), (4, .int (iI d)), (5, .int (iI e))], [], S2271) _
    refine T_p xr_113_42 xn_113 (pc' := 43) (ls' := [(0, .ref 1), (1, .int (iI a)), (2, .int (iI b)), (3, .int (iI c)), (4, .int (iI d)), (5, .int (iI e))]) (st' := [.ref 1]) rfl ?_
    have h2278 := (hf2276.1 1 (by omega)).trans (h2269)
    refine T_get xr_113_43 h2278 rfl (v := .ref 2) rfl (pc' := 46) rfl ?_
    refine T_p xr_113_46 xn_113 (pc' := 48) (ls' := [(0, .ref 1), (1, .int (iI a)), (2, .int (iI b)), (3, .int (iI c)), (4, .int (iI d)), (5, .int (iI e))]) (st' := [.int (iI d), .ref 2]) rfl ?_
    refine T_cv (S := S2271) (q := 2) xr_113_48 xf_92.1 xf_92.2.1 xn_92 (as := [.int (iI d)]) (r := []) rfl h2277 (Nat.le_of_ble_eq_true rfl) (Nat.le_of_ble_eq_true rfl) (pc' := 51) rfl (ls' := [(0, .ref 2), (1, .int (iI d))]) rfl ?_
    refine T_mono (c_append sc S2271 (len + 12) d (X_ap4 (X_ap4 (X_ap4 tb len a) (len + 4) b) (len + 8) c) h2277 h2275 (by omega)) (fun v2279 S2280 h2281 => ?_)
    obtain ⟨hv2282, h2283, h2284, hf2285⟩ := h2281
    rw [hv2282]
    have h2286 : S2280.1 2 = .inr (7, [.ref 3, .int (iI (len + 16))]) := by rw [h2283, show len + 12 + 4 = len + 16 by omega]
    show X_T sc 113 (51, [(0, .ref 1), (1, .int (iI a)), (2, .int (iI b)), (3, .int (iI c)), (4, .int (iI d)), (5, .int (iI e))], [], S2280) _
    refine T_p xr_113_51 xn_113 (pc' := 52) (ls' := [(0, .ref 1), (1, .int (iI a)), (2, .int (iI b)), (3, .int (iI c)), (4, .int (iI d)), (5, .int (iI e))]) (st' := [.ref 1]) rfl ?_
    have h2287 := (hf2285.1 1 (by omega)).trans (h2278)
    refine T_get xr_113_52 h2287 rfl (v := .ref 2) rfl (pc' := 55) rfl ?_
    refine T_p xr_113_55 xn_113 (pc' := 57) (ls' := [(0, .ref 1), (1, .int (iI a)), (2, .int (iI b)), (3, .int (iI c)), (4, .int (iI d)), (5, .int (iI e))]) (st' := [.int (iI e), .ref 2]) rfl ?_
    refine T_cv (S := S2280) (q := 2) xr_113_57 xf_92.1 xf_92.2.1 xn_92 (as := [.int (iI e)]) (r := []) rfl h2286 (Nat.le_of_ble_eq_true rfl) (Nat.le_of_ble_eq_true rfl) (pc' := 60) rfl (ls' := [(0, .ref 2), (1, .int (iI e))]) rfl ?_
    refine T_mono (c_append sc S2280 (len + 16) e (X_ap4 (X_ap4 (X_ap4 (X_ap4 tb len a) (len + 4) b) (len + 8) c) (len + 12) d) h2286 h2284 (by omega)) (fun v2288 S2289 h2290 => ?_)
    obtain ⟨hv2291, h2292, h2293, hf2294⟩ := h2290
    rw [hv2291]
    have h2295 : S2289.1 2 = .inr (7, [.ref 3, .int (iI (len + 20))]) := by rw [h2292, show len + 16 + 4 = len + 20 by omega]
    show X_T sc 113 (60, [(0, .ref 1), (1, .int (iI a)), (2, .int (iI b)), (3, .int (iI c)), (4, .int (iI d)), (5, .int (iI e))], [], S2289) _
    refine T_p xr_113_60 xn_113 (pc' := 61) (ls' := [(0, .ref 1), (1, .int (iI a)), (2, .int (iI b)), (3, .int (iI c)), (4, .int (iI d)), (5, .int (iI e))]) (st' := [.ref 1]) rfl ?_
    have h2296 := (hf2294.1 1 (by omega)).trans (h2287)
    refine T_get xr_113_61 h2296 rfl (v := .ref 2) rfl (pc' := 64) rfl ?_
    refine T_get xr_113_64 h2295 rfl (v := .int (iI (len + 20))) rfl (pc' := 67) rfl ?_
    refine T_iret xr_113_67 xf_113.2.2 rfl ?_
    refine hQ _ _ ?_
    exact Or.inr ⟨rfl, (by omega), h2295, h2293, (((((X_Fr.rf).tr (X_Fr.mono ⟨hf2258.1, hf2258.2⟩ (fun q hq => (by omega)))).tr (X_Fr.mono ⟨hf2267.1, hf2267.2⟩ (fun q hq => (by omega)))).tr (X_Fr.mono ⟨hf2276.1, hf2276.2⟩ (fun q hq => (by omega)))).tr (X_Fr.mono ⟨hf2285.1, hf2285.2⟩ (fun q hq => (by omega)))).tr (X_Fr.mono ⟨hf2294.1, hf2294.2⟩ (fun q hq => (by omega)))⟩
  · skip
    have c2251 : ¬ ((len + 20) ≤ 2000) := c2251
    refine T_p xr_113_16 xn_113 (pc' := 17) (ls' := [(0, .ref 1), (1, .int (iI a)), (2, .int (iI b)), (3, .int (iI c)), (4, .int (iI d)), (5, .int (iI e))]) (st' := [.int (iI (-1))]) rfl ?_
    refine T_iret xr_113_17 xf_113.2.2 rfl ?_
    refine hQ _ _ ?_
    exact Or.inl ⟨rfl, (by omega), rfl⟩
theorem c_end (sc : X_Sc) (S : X_S) (len : Int) (B2 : Nat) (B : Nat) (n : Int) (hO1 : S.1 1 = .inr (10, [.ref 2, .ref B, .ref B2, .ref 496, .ref 501, .ref 504, .ref 511, .ref 517, .ref 527])) (hO2 : S.1 2 = .inr (7, [.ref 3, .int (iI len)])) (hl : 0 ≤ len ∧ len ≤ 2000) (hn : -2147483648 ≤ n ∧ n ≤ 2147483647) : X_T sc 114 (0, [(0, .ref 1), (1, .int (iI n))], [], S) (fun v S' => (v = some (.int (iI (-1))) ∧ (n < 0 ∨ len < n) ∧ S' = S) ∨ (v = some (.int (iI n)) ∧ (0 ≤ n ∧ n ≤ len) ∧ S'.1 2 = .inr (7, [.ref 3, .int (iI n)]) ∧ X_Fr (fun q => q = 2) S S')) := by
  refine X_QI (fun Q hQ => ?_)
  refine T_p xr_114_0 xn_114 (pc' := 1) (ls' := [(0, .ref 1), (1, .int (iI n))]) (st' := [.int (iI n)]) rfl ?_
  refine T_zif_lt xr_114_1 (t := 15) (pc' := 4) rfl rfl (fun c2297 => ?_) (fun c2297 => ?_)
  · skip
    have c2297 : n < 0 := c2297
    refine T_p xr_114_15 xn_114 (pc' := 16) (ls' := [(0, .ref 1), (1, .int (iI n))]) (st' := [.int (iI (-1))]) rfl ?_
    refine T_iret xr_114_16 xf_114.2.2 rfl ?_
    refine hQ _ _ ?_
    exact Or.inl ⟨rfl, (by omega), rfl⟩
  · skip
    have c2297 : ¬ (n < 0) := c2297
    refine T_p xr_114_4 xn_114 (pc' := 5) (ls' := [(0, .ref 1), (1, .int (iI n))]) (st' := [.int (iI n)]) rfl ?_
    refine T_p xr_114_5 xn_114 (pc' := 6) (ls' := [(0, .ref 1), (1, .int (iI n))]) (st' := [.ref 1, .int (iI n)]) rfl ?_
    refine T_get xr_114_6 hO1 rfl (v := .ref 2) rfl (pc' := 9) rfl ?_
    refine T_get xr_114_9 hO2 rfl (v := .int (iI len)) rfl (pc' := 12) rfl ?_
    refine T_zicmp_le xr_114_12 (t := 17) (pc' := 15) rfl rfl (fun c2298 => ?_) (fun c2298 => ?_)
    · skip
      have c2298 : n ≤ len := c2298
      refine T_p xr_114_17 xn_114 (pc' := 18) (ls' := [(0, .ref 1), (1, .int (iI n))]) (st' := [.ref 1]) rfl ?_
      refine T_get xr_114_18 hO1 rfl (v := .ref 2) rfl (pc' := 21) rfl ?_
      refine T_p xr_114_21 xn_114 (pc' := 22) (ls' := [(0, .ref 1), (1, .int (iI n))]) (st' := [.int (iI n), .ref 2]) rfl ?_
      refine T_put xr_114_22 hO2 rfl (Nat.le_of_ble_eq_true rfl) rfl (fs' := [.ref 3, .int (iI n)]) rfl (pc' := 25) rfl (fun S2299 h2300 n2301 e2302 => ?_)
      refine T_p xr_114_25 xn_114 (pc' := 26) (ls' := [(0, .ref 1), (1, .int (iI n))]) (st' := [.int (iI n)]) rfl ?_
      refine T_iret xr_114_26 xf_114.2.2 rfl ?_
      refine hQ _ _ ?_
      exact Or.inr ⟨rfl, (by omega), h2300, (X_Fr.rf).tr (X_Fr.of n2301 e2302 (by omega))⟩
    · skip
      have c2298 : ¬ (n ≤ len) := c2298
      refine T_p xr_114_15 xn_114 (pc' := 16) (ls' := [(0, .ref 1), (1, .int (iI n))]) (st' := [.int (iI (-1))]) rfl ?_
      refine T_iret xr_114_16 xf_114.2.2 rfl ?_
      refine hQ _ _ ?_
      exact Or.inl ⟨rfl, (by omega), rfl⟩
theorem c_fault (sc : X_Sc) (S : X_S) (B2 : Nat) (B : Nat) (B3 : Nat) (fl : Int) (fp : Int) (w : Int) (hO1 : S.1 1 = .inr (10, [.ref 2, .ref B, .ref B2, .ref 496, .ref 501, .ref 504, .ref 511, .ref 517, .ref 527])) (hO496 : S.1 496 = .inr (4, [.ref 497, .ref B3, .int (iI fl), .int (iI fp)])) (hw : -2147483648 ≤ w ∧ w ≤ 2147483647) : X_T sc 116 (0, [(0, .ref 1), (1, .int (iI w))], [], S) (fun v S' => ∃ (r : Int), v = some (.int (iI r)) ∧ S' = S) := by
  refine X_QI (fun Q hQ => ?_)
  refine T_p xr_116_0 xn_116 (pc' := 1) (ls' := [(0, .ref 1), (1, .int (iI w))]) (st' := [.int (iI w)]) rfl ?_
  refine T_zif_ne xr_116_1 (t := 12) (pc' := 4) rfl rfl (fun c2303 => ?_) (fun c2303 => ?_)
  · skip
    have c2303 : ¬ w = 0 := c2303
    refine T_p xr_116_12 xn_116 (pc' := 13) (ls' := [(0, .ref 1), (1, .int (iI w))]) (st' := [.int (iI w)]) rfl ?_
    refine T_p xr_116_13 xn_116 (pc' := 14) (ls' := [(0, .ref 1), (1, .int (iI w))]) (st' := [.int (iI 1), .int (iI w)]) rfl ?_
    refine T_zicmp_ne xr_116_14 (t := 27) (pc' := 17) rfl rfl (fun c2304 => ?_) (fun c2304 => ?_)
    · skip
      have c2304 : ¬ w = 1 := c2304
      refine T_p xr_116_27 xn_116 (pc' := 28) (ls' := [(0, .ref 1), (1, .int (iI w))]) (st' := [.int (iI (-1))]) rfl ?_
      refine T_iret xr_116_28 xf_116.2.2 rfl ?_
      refine hQ _ _ ?_
      exact ⟨(-1), rfl, rfl⟩
    · skip
      have c2304 : ¬ (¬ w = 1) := c2304
      refine T_p xr_116_17 xn_116 (pc' := 18) (ls' := [(0, .ref 1), (1, .int (iI w))]) (st' := [.ref 1]) rfl ?_
      refine T_get xr_116_18 hO1 rfl (v := .ref 496) rfl (pc' := 21) rfl ?_
      refine T_get xr_116_21 hO496 rfl (v := .int (iI fp)) rfl (pc' := 24) rfl ?_
      refine T_p xr_116_24 xn_116 (pc' := 28) (ls' := [(0, .ref 1), (1, .int (iI w))]) (st' := [.int (iI fp)]) rfl ?_
      refine T_iret xr_116_28 xf_116.2.2 rfl ?_
      refine hQ _ _ ?_
      exact ⟨fp, rfl, rfl⟩
  · skip
    have c2303 : ¬ (¬ w = 0) := c2303
    refine T_p xr_116_4 xn_116 (pc' := 5) (ls' := [(0, .ref 1), (1, .int (iI w))]) (st' := [.ref 1]) rfl ?_
    refine T_get xr_116_5 hO1 rfl (v := .ref 496) rfl (pc' := 8) rfl ?_
    refine T_get xr_116_8 hO496 rfl (v := .int (iI fl)) rfl (pc' := 11) rfl ?_
    refine T_iret xr_116_11 xf_116.2.2 rfl ?_
    refine hQ _ _ ?_
    exact ⟨fl, rfl, rfl⟩
theorem c_about (sc : X_Sc) (S : X_S) (B : Nat) (rc : Int) (rn : Int → Int64) (kn : Int → Int64) (G : X_G) (B2 : Nat) (tn : Int) (nc : Int) (len : Int) (w : Int) (hO1 : S.1 1 = .inr (10, [.ref 2, .ref B, .ref B2, .ref 496, .ref 501, .ref 504, .ref 511, .ref 517, .ref 527])) (hO2 : S.1 2 = .inr (7, [.ref 3, .int (iI len)])) (hO501 : S.1 501 = .inr (6, [.int (iI tn), .ref 502, .ref 503])) (hO504 : S.1 504 = .inr (5, [.int (iI nc), .ref 505, .ref 506, .ref 507, .ref 508, .ref 509, .ref 510])) (hB : B = 4 ∨ B = 250) (hb : C_bk S B rc (gk G) (gw G) rn (gl G) kn (ga G)) (hs : C_ws S B (gD G) (gW G)) (hw : -2147483648 ≤ w ∧ w ≤ 2147483647) : X_T sc 117 (0, [(0, .ref 1), (1, .int (iI w))], [], S) (fun v S' => v = some (.int (iI (X_qAb rc (gk G) (gw G) tn nc len w))) ∧ S' = S) := by
  obtain ⟨hb0, hb1, hb2, hb3, hb4, ⟨f, hb5, hf⟩, ⟨hrc, hrcb⟩, ⟨hkc, hkcb⟩, ⟨hwc, hwcb⟩⟩ := id hb
  refine X_QI (fun Q hQ => ?_)
  refine T_p xr_117_0 xn_117 (pc' := 1) (ls' := [(0, .ref 1), (1, .int (iI w))]) (st' := [.int (iI w)]) rfl ?_
  rcases (show w = 0 ∨ w = 1 ∨ w = 2 ∨ w = 3 ∨ w = 4 ∨ w = 5 ∨ (w < 0 ∨ 5 < w) by omega) with cs2305 | cs2305 | cs2305 | cs2305 | cs2305 | cs2305 | cs2305
  · skip
    refine T_tsk xr_117_1 cs2305 (by decide) (by decide) (off := 39) rfl (t := 40) rfl ?_
    refine T_p xr_117_40 xn_117 (pc' := 41) (ls' := [(0, .ref 1), (1, .int (iI w))]) (st' := [.ref 1]) rfl ?_
    refine T_get xr_117_41 hO1 rfl (v := .ref B) rfl (pc' := 44) rfl ?_
    refine T_get xr_117_44 hb0 rfl (v := .int (iI rc)) rfl (pc' := 47) rfl ?_
    refine T_iret xr_117_47 xf_117.2.2 rfl ?_
    refine hQ _ _ ?_
    exact ⟨(by rw [show X_qAb rc (gk G) (gw G) tn nc len w = rc from by unfold X_qAb; (repeat (first | rw [if_pos (by omega)] | rw [if_neg (by omega)]))]), rfl⟩
  · skip
    refine T_tsk xr_117_1 cs2305 (by decide) (by decide) (off := 47) rfl (t := 48) rfl ?_
    refine T_p xr_117_48 xn_117 (pc' := 49) (ls' := [(0, .ref 1), (1, .int (iI w))]) (st' := [.ref 1]) rfl ?_
    refine T_get xr_117_49 hO1 rfl (v := .ref B) rfl (pc' := 52) rfl ?_
    refine T_get xr_117_52 hb0 rfl (v := .int (iI (gk G))) rfl (pc' := 55) rfl ?_
    refine T_iret xr_117_55 xf_117.2.2 rfl ?_
    refine hQ _ _ ?_
    exact ⟨(by rw [show X_qAb rc (gk G) (gw G) tn nc len w = gk G from by unfold X_qAb; (repeat (first | rw [if_pos (by omega)] | rw [if_neg (by omega)]))]), rfl⟩
  · skip
    refine T_tsk xr_117_1 cs2305 (by decide) (by decide) (off := 55) rfl (t := 56) rfl ?_
    refine T_p xr_117_56 xn_117 (pc' := 57) (ls' := [(0, .ref 1), (1, .int (iI w))]) (st' := [.ref 1]) rfl ?_
    refine T_get xr_117_57 hO1 rfl (v := .ref B) rfl (pc' := 60) rfl ?_
    refine T_get xr_117_60 hb0 rfl (v := .int (iI (gw G))) rfl (pc' := 63) rfl ?_
    refine T_iret xr_117_63 xf_117.2.2 rfl ?_
    refine hQ _ _ ?_
    exact ⟨(by rw [show X_qAb rc (gk G) (gw G) tn nc len w = gw G from by unfold X_qAb; (repeat (first | rw [if_pos (by omega)] | rw [if_neg (by omega)]))]), rfl⟩
  · skip
    refine T_tsk xr_117_1 cs2305 (by decide) (by decide) (off := 63) rfl (t := 64) rfl ?_
    refine T_p xr_117_64 xn_117 (pc' := 65) (ls' := [(0, .ref 1), (1, .int (iI w))]) (st' := [.ref 1]) rfl ?_
    refine T_get xr_117_65 hO1 rfl (v := .ref 501) rfl (pc' := 68) rfl ?_
    refine T_get xr_117_68 hO501 rfl (v := .int (iI tn)) rfl (pc' := 71) rfl ?_
    refine T_iret xr_117_71 xf_117.2.2 rfl ?_
    refine hQ _ _ ?_
    exact ⟨(by rw [show X_qAb rc (gk G) (gw G) tn nc len w = tn from by unfold X_qAb; (repeat (first | rw [if_pos (by omega)] | rw [if_neg (by omega)]))]), rfl⟩
  · skip
    refine T_tsk xr_117_1 cs2305 (by decide) (by decide) (off := 71) rfl (t := 72) rfl ?_
    refine T_p xr_117_72 xn_117 (pc' := 73) (ls' := [(0, .ref 1), (1, .int (iI w))]) (st' := [.ref 1]) rfl ?_
    refine T_get xr_117_73 hO1 rfl (v := .ref 504) rfl (pc' := 76) rfl ?_
    refine T_get xr_117_76 hO504 rfl (v := .int (iI nc)) rfl (pc' := 79) rfl ?_
    refine T_iret xr_117_79 xf_117.2.2 rfl ?_
    refine hQ _ _ ?_
    exact ⟨(by rw [show X_qAb rc (gk G) (gw G) tn nc len w = nc from by unfold X_qAb; (repeat (first | rw [if_pos (by omega)] | rw [if_neg (by omega)]))]), rfl⟩
  · skip
    refine T_tsk xr_117_1 cs2305 (by decide) (by decide) (off := 79) rfl (t := 80) rfl ?_
    refine T_p xr_117_80 xn_117 (pc' := 81) (ls' := [(0, .ref 1), (1, .int (iI w))]) (st' := [.ref 1]) rfl ?_
    refine T_get xr_117_81 hO1 rfl (v := .ref 2) rfl (pc' := 84) rfl ?_
    refine T_get xr_117_84 hO2 rfl (v := .int (iI len)) rfl (pc' := 87) rfl ?_
    refine T_iret xr_117_87 xf_117.2.2 rfl ?_
    refine hQ _ _ ?_
    exact ⟨(by rw [show X_qAb rc (gk G) (gw G) tn nc len w = len from by unfold X_qAb; (repeat (first | rw [if_pos (by omega)] | rw [if_neg (by omega)]))]), rfl⟩
  · skip
    refine T_tsd xr_117_1 cs2305 (by omega) (t := 88) rfl ?_
    refine T_p xr_117_88 xn_117 (pc' := 89) (ls' := [(0, .ref 1), (1, .int (iI w))]) (st' := [.int (iI (-1))]) rfl ?_
    refine T_iret xr_117_89 xf_117.2.2 rfl ?_
    refine hQ _ _ ?_
    exact ⟨(by rw [show X_qAb rc (gk G) (gw G) tn nc len w = (-1) from by unfold X_qAb; (repeat (first | rw [if_pos (by omega)] | rw [if_neg (by omega)]))]), rfl⟩
theorem c_word (sc : X_Sc) (S : X_S) (B : Nat) (rc : Int) (rn : Int → Int64) (kn : Int → Int64) (G : X_G) (B2 : Nat) (w : Int) (wh : Int) (hO1 : S.1 1 = .inr (10, [.ref 2, .ref B, .ref B2, .ref 496, .ref 501, .ref 504, .ref 511, .ref 517, .ref 527])) (hB : B = 4 ∨ B = 250) (hb : C_bk S B rc (gk G) (gw G) rn (gl G) kn (ga G)) (hs : C_ws S B (gD G) (gW G)) (hw : -2147483648 ≤ w ∧ w ≤ 2147483647) (hwh : -2147483648 ≤ wh ∧ wh ≤ 2147483647) : X_T sc 118 (0, [(0, .ref 1), (1, .int (iI w)), (2, .int (iI wh))], [], S) (fun v S' => v = some (.int (iI (X_qWd G w wh))) ∧ S' = S) := by
  obtain ⟨hb0, hb1, hb2, hb3, hb4, ⟨f, hb5, hf⟩, ⟨hrc, hrcb⟩, ⟨hkc, hkcb⟩, ⟨hwc, hwcb⟩⟩ := id hb
  refine X_QI (fun Q hQ => ?_)
  refine T_p xr_118_0 xn_118 (pc' := 1) (ls' := [(0, .ref 1), (1, .int (iI w)), (2, .int (iI wh))]) (st' := [.ref 1]) rfl ?_
  refine T_get xr_118_1 hO1 rfl (v := .ref B) rfl (pc' := 4) rfl ?_
  refine T_p xr_118_4 xn_118 (pc' := 5) (ls' := [(0, .ref 1), (1, .int (iI w)), (2, .int (iI wh))]) (st' := [.int (iI w), .ref B]) rfl ?_
  refine T_cv (S := S) (q := B) xr_118_5 xf_4.1 xf_4.2.1 xn_4 (as := [.int (iI w)]) (r := []) rfl hb0 (Nat.le_of_ble_eq_true rfl) (Nat.le_of_ble_eq_true rfl) (pc' := 8) rfl (ls' := [(0, .ref B), (1, .int (iI w))]) rfl ?_
  refine T_mono (c_hasWord sc S B rc (gk G) (gw G) rn (gl G) kn (ga G) w ⟨hb0, hb1, hb2, hb3, hb4, ⟨f, hb5, hf⟩, ⟨by omega, by omega⟩, ⟨by omega, by omega⟩, ⟨by omega, by omega⟩⟩ (by omega)) (fun v2307 S2308 h2306 => ?_)
  obtain ⟨h2309, h2310⟩ := h2306
  rw [h2309, h2310]
  show X_T sc 118 (8, [(0, .ref 1), (1, .int (iI w)), (2, .int (iI wh))], [.int (iI (bI (0 ≤ w ∧ w < (gw G))))], S) _
  refine T_bif_ne xr_118_8 (t := 13) (pc' := 11) rfl rfl (fun c2311 => ?_) (fun c2311 => ?_)
  · skip
    have c2311 : (0 ≤ w ∧ w < (gw G)) := c2311
    refine T_p xr_118_13 xn_118 (pc' := 14) (ls' := [(0, .ref 1), (1, .int (iI w)), (2, .int (iI wh))]) (st' := [.ref 1]) rfl ?_
    refine T_get xr_118_14 hO1 rfl (v := .ref B) rfl (pc' := 17) rfl ?_
    refine T_get xr_118_17 hb0 rfl (v := .ref (B + 5)) rfl (pc' := 20) rfl ?_
    refine T_p xr_118_20 xn_118 (pc' := 21) (ls' := [(0, .ref 1), (1, .int (iI w)), (2, .int (iI wh))]) (st' := [.int (iI w), .ref (B + 5)]) rfl ?_
    have hwaw := hs w (by omega) (by omega)
    obtain ⟨aw, haaw⟩ : ∃ z : Nat, z = B + 6 + 8 * (w : Int).toNat := ⟨_, rfl⟩
    rw [← haaw] at hwaw
    obtain ⟨⟨_, _⟩, ⟨_, _⟩, ⟨_, _⟩, ⟨_, _⟩, ⟨_, _⟩, ⟨_, _⟩, ⟨_, _⟩, ⟨_, _⟩⟩ := id hwaw.2
    refine T_zaald xr_118_21 hb5 (w := aw) (by rw [haaw]; exact hf _ (by omega)) (pc' := 22) rfl ?_
    refine T_p xr_118_22 xn_118 (pc' := 23) (ls' := [(3, .ref aw), (0, .ref 1), (1, .int (iI w)), (2, .int (iI wh))]) (st' := []) rfl ?_
    refine T_p xr_118_23 xn_118 (pc' := 24) (ls' := [(3, .ref aw), (0, .ref 1), (1, .int (iI w)), (2, .int (iI wh))]) (st' := [.int (iI wh)]) rfl ?_
    rcases (show wh = 0 ∨ wh = 1 ∨ wh = 2 ∨ wh = 3 ∨ wh = 4 ∨ wh = 5 ∨ wh = 6 ∨ (wh < 0 ∨ 6 < wh) by omega) with cs2315 | cs2315 | cs2315 | cs2315 | cs2315 | cs2315 | cs2315 | cs2315
    · skip
      refine T_tsk xr_118_24 cs2315 (by decide) (by decide) (off := 44) rfl (t := 68) rfl ?_
      refine T_p xr_118_68 xn_118 (pc' := 69) (ls' := [(3, .ref aw), (0, .ref 1), (1, .int (iI w)), (2, .int (iI wh))]) (st' := [.ref aw]) rfl ?_
      refine T_get xr_118_69 hwaw.1.1 rfl (v := .int (iI ((gD G) w 0 0))) rfl (pc' := 72) rfl ?_
      refine T_iret xr_118_72 xf_118.2.2 rfl ?_
      refine hQ _ _ ?_
      exact ⟨(by rw [show X_qWd G w wh = (gD G) w 0 0 from by unfold X_qWd; (repeat (first | rw [if_pos (by omega)] | rw [if_neg (by omega)]))]), rfl⟩
    · skip
      refine T_tsk xr_118_24 cs2315 (by decide) (by decide) (off := 49) rfl (t := 73) rfl ?_
      refine T_p xr_118_73 xn_118 (pc' := 74) (ls' := [(3, .ref aw), (0, .ref 1), (1, .int (iI w)), (2, .int (iI wh))]) (st' := [.ref aw]) rfl ?_
      refine T_get xr_118_74 hwaw.1.1 rfl (v := .int (iI ((gD G) w 1 0))) rfl (pc' := 77) rfl ?_
      refine T_iret xr_118_77 xf_118.2.2 rfl ?_
      refine hQ _ _ ?_
      exact ⟨(by rw [show X_qWd G w wh = (gD G) w 1 0 from by unfold X_qWd; (repeat (first | rw [if_pos (by omega)] | rw [if_neg (by omega)]))]), rfl⟩
    · skip
      refine T_tsk xr_118_24 cs2315 (by decide) (by decide) (off := 54) rfl (t := 78) rfl ?_
      refine T_p xr_118_78 xn_118 (pc' := 79) (ls' := [(3, .ref aw), (0, .ref 1), (1, .int (iI w)), (2, .int (iI wh))]) (st' := [.ref aw]) rfl ?_
      refine T_get xr_118_79 hwaw.1.1 rfl (v := .int (iI ((gD G) w 2 0))) rfl (pc' := 82) rfl ?_
      refine T_iret xr_118_82 xf_118.2.2 rfl ?_
      refine hQ _ _ ?_
      exact ⟨(by rw [show X_qWd G w wh = (gD G) w 2 0 from by unfold X_qWd; (repeat (first | rw [if_pos (by omega)] | rw [if_neg (by omega)]))]), rfl⟩
    · skip
      refine T_tsk xr_118_24 cs2315 (by decide) (by decide) (off := 59) rfl (t := 83) rfl ?_
      refine T_p xr_118_83 xn_118 (pc' := 84) (ls' := [(3, .ref aw), (0, .ref 1), (1, .int (iI w)), (2, .int (iI wh))]) (st' := [.ref aw]) rfl ?_
      refine T_get xr_118_84 hwaw.1.1 rfl (v := .int (iI ((gD G) w 3 0))) rfl (pc' := 87) rfl ?_
      refine T_iret xr_118_87 xf_118.2.2 rfl ?_
      refine hQ _ _ ?_
      exact ⟨(by rw [show X_qWd G w wh = (gD G) w 3 0 from by unfold X_qWd; (repeat (first | rw [if_pos (by omega)] | rw [if_neg (by omega)]))]), rfl⟩
    · skip
      refine T_tsk xr_118_24 cs2315 (by decide) (by decide) (off := 64) rfl (t := 88) rfl ?_
      refine T_p xr_118_88 xn_118 (pc' := 89) (ls' := [(3, .ref aw), (0, .ref 1), (1, .int (iI w)), (2, .int (iI wh))]) (st' := [.ref aw]) rfl ?_
      refine T_get xr_118_89 hwaw.1.1 rfl (v := .int (iI ((gD G) w 4 0))) rfl (pc' := 92) rfl ?_
      refine T_iret xr_118_92 xf_118.2.2 rfl ?_
      refine hQ _ _ ?_
      exact ⟨(by rw [show X_qWd G w wh = (gD G) w 4 0 from by unfold X_qWd; (repeat (first | rw [if_pos (by omega)] | rw [if_neg (by omega)]))]), rfl⟩
    · skip
      refine T_tsk xr_118_24 cs2315 (by decide) (by decide) (off := 69) rfl (t := 93) rfl ?_
      refine T_p xr_118_93 xn_118 (pc' := 94) (ls' := [(3, .ref aw), (0, .ref 1), (1, .int (iI w)), (2, .int (iI wh))]) (st' := [.ref aw]) rfl ?_
      refine T_cv (S := S) (q := aw) xr_118_94 xf_101.1 xf_101.2.1 xn_101 (as := []) (r := []) rfl hwaw.1.1 (Nat.le_of_ble_eq_true rfl) (Nat.le_of_ble_eq_true rfl) (pc' := 97) rfl (ls' := [(0, .ref aw)]) rfl ?_
      refine T_mono (c_ends sc S aw ((gD G) w) ((gW G) w) ⟨hwaw.1.1, hwaw.1.2.1, hwaw.1.2.2.1, hwaw.1.2.2.2.1, hwaw.1.2.2.2.2.1, hwaw.1.2.2.2.2.2.1, hwaw.1.2.2.2.2.2.2.1, hwaw.1.2.2.2.2.2.2.2⟩ hwaw.2) (fun v2317 S2318 h2316 => ?_)
      obtain ⟨h2319, h2320⟩ := h2316
      rw [h2319, h2320]
      show X_T sc 118 (97, [(3, .ref aw), (0, .ref 1), (1, .int (iI w)), (2, .int (iI wh))], [.int (iI (X_en ((gD G) w) ((gW G) w)))], S) _
      refine T_iret xr_118_97 xf_118.2.2 rfl ?_
      refine hQ _ _ ?_
      exact ⟨(by rw [show X_qWd G w wh = X_en ((gD G) w) ((gW G) w) from by unfold X_qWd; (repeat (first | rw [if_pos (by omega)] | rw [if_neg (by omega)]))]), rfl⟩
    · skip
      refine T_tsk xr_118_24 cs2315 (by decide) (by decide) (off := 74) rfl (t := 98) rfl ?_
      refine T_p xr_118_98 xn_118 (pc' := 99) (ls' := [(3, .ref aw), (0, .ref 1), (1, .int (iI w)), (2, .int (iI wh))]) (st' := [.ref aw]) rfl ?_
      refine T_get xr_118_99 hwaw.1.1 rfl (v := .int (iI ((gD G) w 5 0))) rfl (pc' := 102) rfl ?_
      refine T_iret xr_118_102 xf_118.2.2 rfl ?_
      refine hQ _ _ ?_
      exact ⟨(by rw [show X_qWd G w wh = (gD G) w 5 0 from by unfold X_qWd; (repeat (first | rw [if_pos (by omega)] | rw [if_neg (by omega)]))]), rfl⟩
    · skip
      refine T_tsd xr_118_24 cs2315 (by omega) (t := 103) rfl ?_
      refine T_p xr_118_103 xn_118 (pc' := 104) (ls' := [(3, .ref aw), (0, .ref 1), (1, .int (iI w)), (2, .int (iI wh))]) (st' := [.int (iI (-1))]) rfl ?_
      refine T_iret xr_118_104 xf_118.2.2 rfl ?_
      refine hQ _ _ ?_
      exact ⟨(by rw [show X_qWd G w wh = (-1) from by unfold X_qWd; (repeat (first | rw [if_pos (by omega)] | rw [if_neg (by omega)]))]), rfl⟩
  · skip
    have c2311 : ¬ (0 ≤ w ∧ w < (gw G)) := c2311
    refine T_p xr_118_11 xn_118 (pc' := 12) (ls' := [(0, .ref 1), (1, .int (iI w)), (2, .int (iI wh))]) (st' := [.int (iI (-1))]) rfl ?_
    refine T_iret xr_118_12 xf_118.2.2 rfl ?_
    refine hQ _ _ ?_
    exact ⟨(by rw [show X_qWd G w wh = (-1) from by unfold X_qWd; (repeat (first | rw [if_pos (by omega)] | rw [if_neg (by omega)]))]), rfl⟩
theorem c_tighter (sc : X_Sc) (S : X_S) (B : Nat) (rc : Int) (rn : Int → Int64) (kn : Int → Int64) (G : X_G) (B2 : Nat) (a : Int) (b : Int) (hO1 : S.1 1 = .inr (10, [.ref 2, .ref B, .ref B2, .ref 496, .ref 501, .ref 504, .ref 511, .ref 517, .ref 527])) (hB : B = 4 ∨ B = 250) (hb : C_bk S B rc (gk G) (gw G) rn (gl G) kn (ga G)) (hs : C_ws S B (gD G) (gW G)) (ha : -2147483648 ≤ a ∧ a ≤ 2147483647) (hb_ : -2147483648 ≤ b ∧ b ≤ 2147483647) : X_T sc 119 (0, [(0, .ref 1), (1, .int (iI a)), (2, .int (iI b))], [], S) (fun v S' => v = some (.int (iI (X_qTi G rc a b))) ∧ S' = S) := by
  obtain ⟨hb0, hb1, hb2, hb3, hb4, ⟨f, hb5, hf⟩, ⟨hrc, hrcb⟩, ⟨hkc, hkcb⟩, ⟨hwc, hwcb⟩⟩ := id hb
  refine X_QI (fun Q hQ => ?_)
  refine T_p xr_119_0 xn_119 (pc' := 1) (ls' := [(0, .ref 1), (1, .int (iI a)), (2, .int (iI b))]) (st' := [.ref 1]) rfl ?_
  refine T_get xr_119_1 hO1 rfl (v := .ref B) rfl (pc' := 4) rfl ?_
  refine T_p xr_119_4 xn_119 (pc' := 5) (ls' := [(0, .ref 1), (1, .int (iI a)), (2, .int (iI b))]) (st' := [.int (iI a), .ref B]) rfl ?_
  refine T_cv (S := S) (q := B) xr_119_5 xf_2.1 xf_2.2.1 xn_2 (as := [.int (iI a)]) (r := []) rfl hb0 (Nat.le_of_ble_eq_true rfl) (Nat.le_of_ble_eq_true rfl) (pc' := 8) rfl (ls' := [(0, .ref B), (1, .int (iI a))]) rfl ?_
  refine T_mono (c_hasRank sc S B rc (gk G) (gw G) rn (gl G) kn (ga G) a ⟨hb0, hb1, hb2, hb3, hb4, ⟨f, hb5, hf⟩, ⟨by omega, by omega⟩, ⟨by omega, by omega⟩, ⟨by omega, by omega⟩⟩ (by omega)) (fun v2322 S2323 h2321 => ?_)
  obtain ⟨h2324, h2325⟩ := h2321
  rw [h2324, h2325]
  show X_T sc 119 (8, [(0, .ref 1), (1, .int (iI a)), (2, .int (iI b))], [.int (iI (bI (0 ≤ a ∧ a < rc)))], S) _
  refine T_bif_eq xr_119_8 (t := 22) (pc' := 11) rfl rfl (fun c2326 => ?_) (fun c2326 => ?_)
  · skip
    have c2326 : ¬ (0 ≤ a ∧ a < rc) := c2326
    refine T_p xr_119_22 xn_119 (pc' := 23) (ls' := [(0, .ref 1), (1, .int (iI a)), (2, .int (iI b))]) (st' := [.int (iI (-1))]) rfl ?_
    refine T_iret xr_119_23 xf_119.2.2 rfl ?_
    refine hQ _ _ ?_
    exact ⟨(by rw [show X_qTi G rc a b = -1 from by unfold X_qTi; rw [if_neg (by omega)]]), rfl⟩
  · skip
    have c2326 : (0 ≤ a ∧ a < rc) := c2326
    refine T_p xr_119_11 xn_119 (pc' := 12) (ls' := [(0, .ref 1), (1, .int (iI a)), (2, .int (iI b))]) (st' := [.ref 1]) rfl ?_
    refine T_get xr_119_12 hO1 rfl (v := .ref B) rfl (pc' := 15) rfl ?_
    refine T_p xr_119_15 xn_119 (pc' := 16) (ls' := [(0, .ref 1), (1, .int (iI a)), (2, .int (iI b))]) (st' := [.int (iI b), .ref B]) rfl ?_
    refine T_cv (S := S) (q := B) xr_119_16 xf_2.1 xf_2.2.1 xn_2 (as := [.int (iI b)]) (r := []) rfl hb0 (Nat.le_of_ble_eq_true rfl) (Nat.le_of_ble_eq_true rfl) (pc' := 19) rfl (ls' := [(0, .ref B), (1, .int (iI b))]) rfl ?_
    refine T_mono (c_hasRank sc S B rc (gk G) (gw G) rn (gl G) kn (ga G) b ⟨hb0, hb1, hb2, hb3, hb4, ⟨f, hb5, hf⟩, ⟨by omega, by omega⟩, ⟨by omega, by omega⟩, ⟨by omega, by omega⟩⟩ (by omega)) (fun v2328 S2329 h2327 => ?_)
    obtain ⟨h2330, h2331⟩ := h2327
    rw [h2330, h2331]
    show X_T sc 119 (19, [(0, .ref 1), (1, .int (iI a)), (2, .int (iI b))], [.int (iI (bI (0 ≤ b ∧ b < rc)))], S) _
    refine T_bif_ne xr_119_19 (t := 24) (pc' := 22) rfl rfl (fun c2332 => ?_) (fun c2332 => ?_)
    · skip
      have c2332 : (0 ≤ b ∧ b < rc) := c2332
      refine T_p xr_119_24 xn_119 (pc' := 25) (ls' := [(0, .ref 1), (1, .int (iI a)), (2, .int (iI b))]) (st' := [.ref 1]) rfl ?_
      refine T_get xr_119_25 hO1 rfl (v := .ref B) rfl (pc' := 28) rfl ?_
      refine T_p xr_119_28 xn_119 (pc' := 29) (ls' := [(0, .ref 1), (1, .int (iI a)), (2, .int (iI b))]) (st' := [.int (iI a), .ref B]) rfl ?_
      refine T_p xr_119_29 xn_119 (pc' := 30) (ls' := [(0, .ref 1), (1, .int (iI a)), (2, .int (iI b))]) (st' := [.int (iI b), .int (iI a), .ref B]) rfl ?_
      refine T_cv (S := S) (q := B) xr_119_30 xf_11.1 xf_11.2.1 xn_11 (as := [.int (iI a), .int (iI b)]) (r := []) rfl hb0 (Nat.le_of_ble_eq_true rfl) (Nat.le_of_ble_eq_true rfl) (pc' := 33) rfl (ls' := [(0, .ref B), (1, .int (iI a)), (2, .int (iI b))]) rfl ?_
      refine T_mono (c_isTighter sc S B rc (gk G) (gw G) rn (gl G) kn (ga G) a b ⟨hb0, hb1, hb2, hb3, hb4, ⟨f, hb5, hf⟩, ⟨by omega, by omega⟩, ⟨by omega, by omega⟩, ⟨by omega, by omega⟩⟩ (by omega)) (fun v2334 S2335 h2333 => ?_)
      obtain ⟨h2336, h2337⟩ := h2333
      rw [h2336, h2337]
      show X_T sc 119 (33, [(0, .ref 1), (1, .int (iI a)), (2, .int (iI b))], [.int (iI (bI (X_bt ((gl G) a) b)))], S) _
      refine T_bif_eq xr_119_33 (t := 40) (pc' := 36) rfl rfl (fun c2338 => ?_) (fun c2338 => ?_)
      · skip
        have c2338 : ¬ (X_bt ((gl G) a) b) := c2338
        refine T_p xr_119_40 xn_119 (pc' := 41) (ls' := [(0, .ref 1), (1, .int (iI a)), (2, .int (iI b))]) (st' := [.int (iI 0)]) rfl ?_
        refine T_iret xr_119_41 xf_119.2.2 rfl ?_
        refine hQ _ _ ?_
        exact ⟨(by rw [show X_qTi G rc a b = 0 from by unfold X_qTi; rw [if_pos (by omega), bI_f (by assumption)]]), rfl⟩
      · skip
        have c2338 : (X_bt ((gl G) a) b) := c2338
        refine T_p xr_119_36 xn_119 (pc' := 37) (ls' := [(0, .ref 1), (1, .int (iI a)), (2, .int (iI b))]) (st' := [.int (iI 1)]) rfl ?_
        refine T_p xr_119_37 xn_119 (pc' := 41) (ls' := [(0, .ref 1), (1, .int (iI a)), (2, .int (iI b))]) (st' := [.int (iI 1)]) rfl ?_
        refine T_iret xr_119_41 xf_119.2.2 rfl ?_
        refine hQ _ _ ?_
        exact ⟨(by rw [show X_qTi G rc a b = 1 from by unfold X_qTi; rw [if_pos (by omega), bI_t (by assumption)]]), rfl⟩
    · skip
      have c2332 : ¬ (0 ≤ b ∧ b < rc) := c2332
      refine T_p xr_119_22 xn_119 (pc' := 23) (ls' := [(0, .ref 1), (1, .int (iI a)), (2, .int (iI b))]) (st' := [.int (iI (-1))]) rfl ?_
      refine T_iret xr_119_23 xf_119.2.2 rfl ?_
      refine hQ _ _ ?_
      exact ⟨(by rw [show X_qTi G rc a b = -1 from by unfold X_qTi; rw [if_neg (by omega)]]), rfl⟩
theorem c_under (sc : X_Sc) (S : X_S) (B : Nat) (rc : Int) (rn : Int → Int64) (kn : Int → Int64) (G : X_G) (B2 : Nat) (a : Int) (b : Int) (hO1 : S.1 1 = .inr (10, [.ref 2, .ref B, .ref B2, .ref 496, .ref 501, .ref 504, .ref 511, .ref 517, .ref 527])) (hB : B = 4 ∨ B = 250) (hb : C_bk S B rc (gk G) (gw G) rn (gl G) kn (ga G)) (hs : C_ws S B (gD G) (gW G)) (ha : -2147483648 ≤ a ∧ a ≤ 2147483647) (hb_ : -2147483648 ≤ b ∧ b ≤ 2147483647) : X_T sc 120 (0, [(0, .ref 1), (1, .int (iI a)), (2, .int (iI b))], [], S) (fun v S' => v = some (.int (iI (X_qUn G a b))) ∧ S' = S) := by
  obtain ⟨hb0, hb1, hb2, hb3, hb4, ⟨f, hb5, hf⟩, ⟨hrc, hrcb⟩, ⟨hkc, hkcb⟩, ⟨hwc, hwcb⟩⟩ := id hb
  refine X_QI (fun Q hQ => ?_)
  refine T_p xr_120_0 xn_120 (pc' := 1) (ls' := [(0, .ref 1), (1, .int (iI a)), (2, .int (iI b))]) (st' := [.ref 1]) rfl ?_
  refine T_get xr_120_1 hO1 rfl (v := .ref B) rfl (pc' := 4) rfl ?_
  refine T_p xr_120_4 xn_120 (pc' := 5) (ls' := [(0, .ref 1), (1, .int (iI a)), (2, .int (iI b))]) (st' := [.int (iI a), .ref B]) rfl ?_
  refine T_cv (S := S) (q := B) xr_120_5 xf_3.1 xf_3.2.1 xn_3 (as := [.int (iI a)]) (r := []) rfl hb0 (Nat.le_of_ble_eq_true rfl) (Nat.le_of_ble_eq_true rfl) (pc' := 8) rfl (ls' := [(0, .ref B), (1, .int (iI a))]) rfl ?_
  refine T_mono (c_hasKind sc S B rc (gk G) (gw G) rn (gl G) kn (ga G) a ⟨hb0, hb1, hb2, hb3, hb4, ⟨f, hb5, hf⟩, ⟨by omega, by omega⟩, ⟨by omega, by omega⟩, ⟨by omega, by omega⟩⟩ (by omega)) (fun v2340 S2341 h2339 => ?_)
  obtain ⟨h2342, h2343⟩ := h2339
  rw [h2342, h2343]
  show X_T sc 120 (8, [(0, .ref 1), (1, .int (iI a)), (2, .int (iI b))], [.int (iI (bI (0 ≤ a ∧ a < (gk G))))], S) _
  refine T_bif_eq xr_120_8 (t := 22) (pc' := 11) rfl rfl (fun c2344 => ?_) (fun c2344 => ?_)
  · skip
    have c2344 : ¬ (0 ≤ a ∧ a < (gk G)) := c2344
    refine T_p xr_120_22 xn_120 (pc' := 23) (ls' := [(0, .ref 1), (1, .int (iI a)), (2, .int (iI b))]) (st' := [.int (iI (-1))]) rfl ?_
    refine T_iret xr_120_23 xf_120.2.2 rfl ?_
    refine hQ _ _ ?_
    exact ⟨(by rw [show X_qUn G a b = -1 from by unfold X_qUn; rw [if_neg (by omega)]]), rfl⟩
  · skip
    have c2344 : (0 ≤ a ∧ a < (gk G)) := c2344
    refine T_p xr_120_11 xn_120 (pc' := 12) (ls' := [(0, .ref 1), (1, .int (iI a)), (2, .int (iI b))]) (st' := [.ref 1]) rfl ?_
    refine T_get xr_120_12 hO1 rfl (v := .ref B) rfl (pc' := 15) rfl ?_
    refine T_p xr_120_15 xn_120 (pc' := 16) (ls' := [(0, .ref 1), (1, .int (iI a)), (2, .int (iI b))]) (st' := [.int (iI b), .ref B]) rfl ?_
    refine T_cv (S := S) (q := B) xr_120_16 xf_3.1 xf_3.2.1 xn_3 (as := [.int (iI b)]) (r := []) rfl hb0 (Nat.le_of_ble_eq_true rfl) (Nat.le_of_ble_eq_true rfl) (pc' := 19) rfl (ls' := [(0, .ref B), (1, .int (iI b))]) rfl ?_
    refine T_mono (c_hasKind sc S B rc (gk G) (gw G) rn (gl G) kn (ga G) b ⟨hb0, hb1, hb2, hb3, hb4, ⟨f, hb5, hf⟩, ⟨by omega, by omega⟩, ⟨by omega, by omega⟩, ⟨by omega, by omega⟩⟩ (by omega)) (fun v2346 S2347 h2345 => ?_)
    obtain ⟨h2348, h2349⟩ := h2345
    rw [h2348, h2349]
    show X_T sc 120 (19, [(0, .ref 1), (1, .int (iI a)), (2, .int (iI b))], [.int (iI (bI (0 ≤ b ∧ b < (gk G))))], S) _
    refine T_bif_ne xr_120_19 (t := 24) (pc' := 22) rfl rfl (fun c2350 => ?_) (fun c2350 => ?_)
    · skip
      have c2350 : (0 ≤ b ∧ b < (gk G)) := c2350
      refine T_p xr_120_24 xn_120 (pc' := 25) (ls' := [(0, .ref 1), (1, .int (iI a)), (2, .int (iI b))]) (st' := [.ref 1]) rfl ?_
      refine T_get xr_120_25 hO1 rfl (v := .ref B) rfl (pc' := 28) rfl ?_
      refine T_p xr_120_28 xn_120 (pc' := 29) (ls' := [(0, .ref 1), (1, .int (iI a)), (2, .int (iI b))]) (st' := [.int (iI a), .ref B]) rfl ?_
      refine T_p xr_120_29 xn_120 (pc' := 30) (ls' := [(0, .ref 1), (1, .int (iI a)), (2, .int (iI b))]) (st' := [.int (iI b), .int (iI a), .ref B]) rfl ?_
      refine T_cv (S := S) (q := B) xr_120_30 xf_12.1 xf_12.2.1 xn_12 (as := [.int (iI a), .int (iI b)]) (r := []) rfl hb0 (Nat.le_of_ble_eq_true rfl) (Nat.le_of_ble_eq_true rfl) (pc' := 33) rfl (ls' := [(0, .ref B), (1, .int (iI a)), (2, .int (iI b))]) rfl ?_
      refine T_mono (c_isUnder sc S B rc (gk G) (gw G) rn (gl G) kn (ga G) a b ⟨hb0, hb1, hb2, hb3, hb4, ⟨f, hb5, hf⟩, ⟨by omega, by omega⟩, ⟨by omega, by omega⟩, ⟨by omega, by omega⟩⟩ (by omega)) (fun v2352 S2353 h2351 => ?_)
      obtain ⟨h2354, h2355⟩ := h2351
      rw [h2354, h2355]
      show X_T sc 120 (33, [(0, .ref 1), (1, .int (iI a)), (2, .int (iI b))], [.int (iI (bI (X_bt ((ga G) a) b)))], S) _
      refine T_bif_eq xr_120_33 (t := 40) (pc' := 36) rfl rfl (fun c2356 => ?_) (fun c2356 => ?_)
      · skip
        have c2356 : ¬ (X_bt ((ga G) a) b) := c2356
        refine T_p xr_120_40 xn_120 (pc' := 41) (ls' := [(0, .ref 1), (1, .int (iI a)), (2, .int (iI b))]) (st' := [.int (iI 0)]) rfl ?_
        refine T_iret xr_120_41 xf_120.2.2 rfl ?_
        refine hQ _ _ ?_
        exact ⟨(by rw [show X_qUn G a b = 0 from by unfold X_qUn; rw [if_pos (by omega), bI_f (by assumption)]]), rfl⟩
      · skip
        have c2356 : (X_bt ((ga G) a) b) := c2356
        refine T_p xr_120_36 xn_120 (pc' := 37) (ls' := [(0, .ref 1), (1, .int (iI a)), (2, .int (iI b))]) (st' := [.int (iI 1)]) rfl ?_
        refine T_p xr_120_37 xn_120 (pc' := 41) (ls' := [(0, .ref 1), (1, .int (iI a)), (2, .int (iI b))]) (st' := [.int (iI 1)]) rfl ?_
        refine T_iret xr_120_41 xf_120.2.2 rfl ?_
        refine hQ _ _ ?_
        exact ⟨(by rw [show X_qUn G a b = 1 from by unfold X_qUn; rw [if_pos (by omega), bI_t (by assumption)]]), rfl⟩
    · skip
      have c2350 : ¬ (0 ≤ b ∧ b < (gk G)) := c2350
      refine T_p xr_120_22 xn_120 (pc' := 23) (ls' := [(0, .ref 1), (1, .int (iI a)), (2, .int (iI b))]) (st' := [.int (iI (-1))]) rfl ?_
      refine T_iret xr_120_23 xf_120.2.2 rfl ?_
      refine hQ _ _ ?_
      exact ⟨(by rw [show X_qUn G a b = -1 from by unfold X_qUn; rw [if_neg (by omega)]]), rfl⟩
theorem c_node (sc : X_Sc) (S : X_S) (nW : Int → Int) (nF : Int → Int) (nL : Int → Int) (nP : Int → Int) (nH : Int → Int) (B2 : Nat) (B : Nat) (nc : Int) (N : Int → Int → Int) (n : Int) (wh : Int) (hO1 : S.1 1 = .inr (10, [.ref 2, .ref B, .ref B2, .ref 496, .ref 501, .ref 504, .ref 511, .ref 517, .ref 527])) (hO504 : S.1 504 = .inr (5, [.int (iI nc), .ref 505, .ref 506, .ref 507, .ref 508, .ref 509, .ref 510])) (hA505 : S.1 505 = .inl (.int, 30, .inl fun k : Nat => iI (nW (k : Int)))) (hA506 : S.1 506 = .inl (.int, 30, .inl fun k : Nat => iI (nF (k : Int)))) (hA507 : S.1 507 = .inl (.int, 30, .inl fun k : Nat => iI (nL (k : Int)))) (hA508 : S.1 508 = .inl (.int, 30, .inl fun k : Nat => iI (nP (k : Int)))) (hA509 : S.1 509 = .inl (.int, 30, .inl fun k : Nat => iI (nH (k : Int)))) (hn : -2147483648 ≤ n ∧ n ≤ 2147483647) (hwh : -2147483648 ≤ wh ∧ wh ≤ 2147483647) (hnc : 0 ≤ nc ∧ nc ≤ 30) (hnd : F_nd nc N nW nF nL nP nH) : X_T sc 125 (0, [(0, .ref 1), (1, .int (iI n)), (2, .int (iI wh))], [], S) (fun v S' => v = some (.int (iI (X_qNd nc N n wh))) ∧ S' = S) := by
  refine X_QI (fun Q hQ => ?_)
  refine T_p xr_125_0 xn_125 (pc' := 1) (ls' := [(0, .ref 1), (1, .int (iI n)), (2, .int (iI wh))]) (st' := [.int (iI n)]) rfl ?_
  refine T_zif_lt xr_125_1 (t := 15) (pc' := 4) rfl rfl (fun c2357 => ?_) (fun c2357 => ?_)
  · skip
    have c2357 : n < 0 := c2357
    refine T_p xr_125_15 xn_125 (pc' := 16) (ls' := [(0, .ref 1), (1, .int (iI n)), (2, .int (iI wh))]) (st' := [.int (iI (-1))]) rfl ?_
    refine T_iret xr_125_16 xf_125.2.2 rfl ?_
    refine hQ _ _ ?_
    exact ⟨(by rw [show X_qNd nc N n wh = (-1) from by unfold X_qNd; (repeat (first | rw [if_pos (by omega)] | rw [if_neg (by omega)]))]), rfl⟩
  · skip
    have c2357 : ¬ (n < 0) := c2357
    refine T_p xr_125_4 xn_125 (pc' := 5) (ls' := [(0, .ref 1), (1, .int (iI n)), (2, .int (iI wh))]) (st' := [.int (iI n)]) rfl ?_
    refine T_p xr_125_5 xn_125 (pc' := 6) (ls' := [(0, .ref 1), (1, .int (iI n)), (2, .int (iI wh))]) (st' := [.ref 1, .int (iI n)]) rfl ?_
    refine T_get xr_125_6 hO1 rfl (v := .ref 504) rfl (pc' := 9) rfl ?_
    refine T_get xr_125_9 hO504 rfl (v := .int (iI nc)) rfl (pc' := 12) rfl ?_
    refine T_zicmp_lt xr_125_12 (t := 17) (pc' := 15) rfl rfl (fun c2358 => ?_) (fun c2358 => ?_)
    · skip
      have c2358 : n < nc := c2358
      refine T_p xr_125_17 xn_125 (pc' := 18) (ls' := [(0, .ref 1), (1, .int (iI n)), (2, .int (iI wh))]) (st' := [.int (iI wh)]) rfl ?_
      rcases (show wh = 0 ∨ wh = 1 ∨ wh = 2 ∨ wh = 3 ∨ wh = 4 ∨ (wh < 0 ∨ 4 < wh) by omega) with cs2359 | cs2359 | cs2359 | cs2359 | cs2359 | cs2359
      · skip
        refine T_tsk xr_125_18 cs2359 (by decide) (by decide) (off := 34) rfl (t := 52) rfl ?_
        refine T_p xr_125_52 xn_125 (pc' := 53) (ls' := [(0, .ref 1), (1, .int (iI n)), (2, .int (iI wh))]) (st' := [.ref 1]) rfl ?_
        refine T_get xr_125_53 hO1 rfl (v := .ref 504) rfl (pc' := 56) rfl ?_
        refine T_get xr_125_56 hO504 rfl (v := .ref 505) rfl (pc' := 59) rfl ?_
        refine T_p xr_125_59 xn_125 (pc' := 60) (ls' := [(0, .ref 1), (1, .int (iI n)), (2, .int (iI wh))]) (st' := [.int (iI n), .ref 505]) rfl ?_
        refine T_ziald xr_125_60 hA505 (pc' := 61) rfl ?_
        refine T_iret xr_125_61 xf_125.2.2 rfl ?_
        refine hQ _ _ ?_
        exact ⟨(by rw [show X_qNd nc N n wh = N 0 n from by unfold X_qNd; (repeat (first | rw [if_pos (by omega)] | rw [if_neg (by omega)]))]; rw [(hnd n (by omega) (by omega)).1]), rfl⟩
      · skip
        refine T_tsk xr_125_18 cs2359 (by decide) (by decide) (off := 44) rfl (t := 62) rfl ?_
        refine T_p xr_125_62 xn_125 (pc' := 63) (ls' := [(0, .ref 1), (1, .int (iI n)), (2, .int (iI wh))]) (st' := [.ref 1]) rfl ?_
        refine T_get xr_125_63 hO1 rfl (v := .ref 504) rfl (pc' := 66) rfl ?_
        refine T_get xr_125_66 hO504 rfl (v := .ref 506) rfl (pc' := 69) rfl ?_
        refine T_p xr_125_69 xn_125 (pc' := 70) (ls' := [(0, .ref 1), (1, .int (iI n)), (2, .int (iI wh))]) (st' := [.int (iI n), .ref 506]) rfl ?_
        refine T_ziald xr_125_70 hA506 (pc' := 71) rfl ?_
        refine T_iret xr_125_71 xf_125.2.2 rfl ?_
        refine hQ _ _ ?_
        exact ⟨(by rw [show X_qNd nc N n wh = N 1 n from by unfold X_qNd; (repeat (first | rw [if_pos (by omega)] | rw [if_neg (by omega)]))]; rw [(hnd n (by omega) (by omega)).2.1]), rfl⟩
      · skip
        refine T_tsk xr_125_18 cs2359 (by decide) (by decide) (off := 54) rfl (t := 72) rfl ?_
        refine T_p xr_125_72 xn_125 (pc' := 73) (ls' := [(0, .ref 1), (1, .int (iI n)), (2, .int (iI wh))]) (st' := [.ref 1]) rfl ?_
        refine T_get xr_125_73 hO1 rfl (v := .ref 504) rfl (pc' := 76) rfl ?_
        refine T_get xr_125_76 hO504 rfl (v := .ref 507) rfl (pc' := 79) rfl ?_
        refine T_p xr_125_79 xn_125 (pc' := 80) (ls' := [(0, .ref 1), (1, .int (iI n)), (2, .int (iI wh))]) (st' := [.int (iI n), .ref 507]) rfl ?_
        refine T_ziald xr_125_80 hA507 (pc' := 81) rfl ?_
        refine T_iret xr_125_81 xf_125.2.2 rfl ?_
        refine hQ _ _ ?_
        exact ⟨(by rw [show X_qNd nc N n wh = N 2 n from by unfold X_qNd; (repeat (first | rw [if_pos (by omega)] | rw [if_neg (by omega)]))]; rw [(hnd n (by omega) (by omega)).2.2.1]), rfl⟩
      · skip
        refine T_tsk xr_125_18 cs2359 (by decide) (by decide) (off := 64) rfl (t := 82) rfl ?_
        refine T_p xr_125_82 xn_125 (pc' := 83) (ls' := [(0, .ref 1), (1, .int (iI n)), (2, .int (iI wh))]) (st' := [.ref 1]) rfl ?_
        refine T_get xr_125_83 hO1 rfl (v := .ref 504) rfl (pc' := 86) rfl ?_
        refine T_get xr_125_86 hO504 rfl (v := .ref 508) rfl (pc' := 89) rfl ?_
        refine T_p xr_125_89 xn_125 (pc' := 90) (ls' := [(0, .ref 1), (1, .int (iI n)), (2, .int (iI wh))]) (st' := [.int (iI n), .ref 508]) rfl ?_
        refine T_ziald xr_125_90 hA508 (pc' := 91) rfl ?_
        refine T_iret xr_125_91 xf_125.2.2 rfl ?_
        refine hQ _ _ ?_
        exact ⟨(by rw [show X_qNd nc N n wh = N 3 n from by unfold X_qNd; (repeat (first | rw [if_pos (by omega)] | rw [if_neg (by omega)]))]; rw [(hnd n (by omega) (by omega)).2.2.2.1]), rfl⟩
      · skip
        refine T_tsk xr_125_18 cs2359 (by decide) (by decide) (off := 74) rfl (t := 92) rfl ?_
        refine T_p xr_125_92 xn_125 (pc' := 93) (ls' := [(0, .ref 1), (1, .int (iI n)), (2, .int (iI wh))]) (st' := [.ref 1]) rfl ?_
        refine T_get xr_125_93 hO1 rfl (v := .ref 504) rfl (pc' := 96) rfl ?_
        refine T_get xr_125_96 hO504 rfl (v := .ref 509) rfl (pc' := 99) rfl ?_
        refine T_p xr_125_99 xn_125 (pc' := 100) (ls' := [(0, .ref 1), (1, .int (iI n)), (2, .int (iI wh))]) (st' := [.int (iI n), .ref 509]) rfl ?_
        refine T_ziald xr_125_100 hA509 (pc' := 101) rfl ?_
        refine T_iret xr_125_101 xf_125.2.2 rfl ?_
        refine hQ _ _ ?_
        exact ⟨(by rw [show X_qNd nc N n wh = N 4 n from by unfold X_qNd; (repeat (first | rw [if_pos (by omega)] | rw [if_neg (by omega)]))]; rw [(hnd n (by omega) (by omega)).2.2.2.2]), rfl⟩
      · skip
        refine T_tsd xr_125_18 cs2359 (by omega) (t := 102) rfl ?_
        refine T_p xr_125_102 xn_125 (pc' := 103) (ls' := [(0, .ref 1), (1, .int (iI n)), (2, .int (iI wh))]) (st' := [.int (iI (-1))]) rfl ?_
        refine T_iret xr_125_103 xf_125.2.2 rfl ?_
        refine hQ _ _ ?_
        exact ⟨(by rw [show X_qNd nc N n wh = (-1) from by unfold X_qNd; (repeat (first | rw [if_pos (by omega)] | rw [if_neg (by omega)]))]), rfl⟩
    · skip
      have c2358 : ¬ (n < nc) := c2358
      refine T_p xr_125_15 xn_125 (pc' := 16) (ls' := [(0, .ref 1), (1, .int (iI n)), (2, .int (iI wh))]) (st' := [.int (iI (-1))]) rfl ?_
      refine T_iret xr_125_16 xf_125.2.2 rfl ?_
      refine hQ _ _ ?_
      exact ⟨(by rw [show X_qNd nc N n wh = (-1) from by unfold X_qNd; (repeat (first | rw [if_pos (by omega)] | rw [if_neg (by omega)]))]), rfl⟩
theorem c_worked (sc : X_Sc) (S : X_S) (B2 : Nat) (B : Nat) (rs : Int) (re : Int) (hgt : Int) (w : Int) (hO1 : S.1 1 = .inr (10, [.ref 2, .ref B, .ref B2, .ref 496, .ref 501, .ref 504, .ref 511, .ref 517, .ref 527])) (hO527 : S.1 527 = .inr (9, [.ref 501, .ref 504, .int (iI rs), .int (iI re), .ref 528, .ref 529, .int (iI hgt)])) (hw : -2147483648 ≤ w ∧ w ≤ 2147483647) : X_T sc 128 (0, [(0, .ref 1), (1, .int (iI w))], [], S) (fun v S' => v = some (.int (iI (if w = 0 then rs else if w = 1 then re else -1))) ∧ S' = S) := by
  refine X_QI (fun Q hQ => ?_)
  refine T_p xr_128_0 xn_128 (pc' := 1) (ls' := [(0, .ref 1), (1, .int (iI w))]) (st' := [.int (iI w)]) rfl ?_
  refine T_zif_ne xr_128_1 (t := 12) (pc' := 4) rfl rfl (fun c2360 => ?_) (fun c2360 => ?_)
  · skip
    have c2360 : ¬ w = 0 := c2360
    refine T_p xr_128_12 xn_128 (pc' := 13) (ls' := [(0, .ref 1), (1, .int (iI w))]) (st' := [.int (iI w)]) rfl ?_
    refine T_p xr_128_13 xn_128 (pc' := 14) (ls' := [(0, .ref 1), (1, .int (iI w))]) (st' := [.int (iI 1), .int (iI w)]) rfl ?_
    refine T_zicmp_ne xr_128_14 (t := 27) (pc' := 17) rfl rfl (fun c2361 => ?_) (fun c2361 => ?_)
    · skip
      have c2361 : ¬ w = 1 := c2361
      refine T_p xr_128_27 xn_128 (pc' := 28) (ls' := [(0, .ref 1), (1, .int (iI w))]) (st' := [.int (iI (-1))]) rfl ?_
      refine T_iret xr_128_28 xf_128.2.2 rfl ?_
      refine hQ _ _ ?_
      exact ⟨(by (repeat (first | rw [if_pos (by omega)] | rw [if_neg (by omega)]))), rfl⟩
    · skip
      have c2361 : ¬ (¬ w = 1) := c2361
      refine T_p xr_128_17 xn_128 (pc' := 18) (ls' := [(0, .ref 1), (1, .int (iI w))]) (st' := [.ref 1]) rfl ?_
      refine T_get xr_128_18 hO1 rfl (v := .ref 527) rfl (pc' := 21) rfl ?_
      refine T_get xr_128_21 hO527 rfl (v := .int (iI re)) rfl (pc' := 24) rfl ?_
      refine T_p xr_128_24 xn_128 (pc' := 28) (ls' := [(0, .ref 1), (1, .int (iI w))]) (st' := [.int (iI re)]) rfl ?_
      refine T_iret xr_128_28 xf_128.2.2 rfl ?_
      refine hQ _ _ ?_
      exact ⟨(by (repeat (first | rw [if_pos (by omega)] | rw [if_neg (by omega)]))), rfl⟩
  · skip
    have c2360 : ¬ (¬ w = 0) := c2360
    refine T_p xr_128_4 xn_128 (pc' := 5) (ls' := [(0, .ref 1), (1, .int (iI w))]) (st' := [.ref 1]) rfl ?_
    refine T_get xr_128_5 hO1 rfl (v := .ref 527) rfl (pc' := 8) rfl ?_
    refine T_get xr_128_8 hO527 rfl (v := .int (iI rs)) rfl (pc' := 11) rfl ?_
    refine T_iret xr_128_11 xf_128.2.2 rfl ?_
    refine hQ _ _ ?_
    exact ⟨(by (repeat (first | rw [if_pos (by omega)] | rw [if_neg (by omega)]))), rfl⟩
theorem c_sure (sc : X_Sc) (S : X_S) (B : Nat) (rc : Int) (rn : Int → Int64) (kn : Int → Int64) (G : X_G) (B2 : Nat) (hO1 : S.1 1 = .inr (10, [.ref 2, .ref B, .ref B2, .ref 496, .ref 501, .ref 504, .ref 511, .ref 517, .ref 527])) (hB : B = 4 ∨ B = 250) (hb : C_bk S B rc (gk G) (gw G) rn (gl G) kn (ga G)) (hs : C_ws S B (gD G) (gW G)) : X_T sc 129 (0, [(0, .ref 1)], [], S) (fun v S' => ∃ (r : Int), v = some (.int (iI r)) ∧ X_qSu G r ∧ S' = S) := by
  obtain ⟨hb0, hb1, hb2, hb3, hb4, ⟨f, hb5, hf⟩, ⟨hrc, hrcb⟩, ⟨hkc, hkcb⟩, ⟨hwc, hwcb⟩⟩ := id hb
  refine X_QI (fun Q hQ => ?_)
  refine T_p xr_129_0 xn_129 (pc' := 1) (ls' := [(0, .ref 1)]) (st' := [.int (iI 0)]) rfl ?_
  refine T_p xr_129_1 xn_129 (pc' := 2) (ls' := [(1, .int (iI 0)), (0, .ref 1)]) (st' := []) rfl ?_
  have L2362 : ∀ (m2364 : Nat) (a : Int) (ha : 0 ≤ a ∧ a ≤ gw G) (hno : ∀ a1 b1, 0 ≤ a1 → a1 ≤ b1 → b1 < gw G → a1 < a → ¬ X_ag (gl G) (gD G) (gW G) a1 b1) (hm2365 : gw G - a < m2364), X_T sc 129 (2, [(1, .int (iI a)), (0, .ref 1)], [], S) Q := by
    intro m2364
    induction m2364 with
    | zero =>
      intro a ha hno hm2365
      exact (show False by omega).elim
    | succ m2364 ih2363 =>
      intro a ha hno hm2365
      refine T_p xr_129_2 xn_129 (pc' := 3) (ls' := [(1, .int (iI a)), (0, .ref 1)]) (st' := [.int (iI a)]) rfl ?_
      refine T_p xr_129_3 xn_129 (pc' := 4) (ls' := [(1, .int (iI a)), (0, .ref 1)]) (st' := [.ref 1, .int (iI a)]) rfl ?_
      refine T_get xr_129_4 hO1 rfl (v := .ref B) rfl (pc' := 7) rfl ?_
      refine T_get xr_129_7 hb0 rfl (v := .int (iI (gw G))) rfl (pc' := 10) rfl ?_
      refine T_zicmp_ge xr_129_10 (t := 57) (pc' := 13) rfl rfl (fun c2367 => ?_) (fun c2367 => ?_)
      · skip
        have c2367 : (gw G) ≤ a := c2367
        refine T_p xr_129_57 xn_129 (pc' := 58) (ls' := [(1, .int (iI a)), (0, .ref 1)]) (st' := [.int (iI (-1))]) rfl ?_
        refine T_iret xr_129_58 xf_129.2.2 rfl ?_
        refine hQ _ _ ?_
        exact ⟨(-1), rfl, (Or.inl ⟨rfl, fun a1 b1 h1 h2 h3 => hno a1 b1 h1 h2 h3 (by omega)⟩), rfl⟩
      · skip
        have c2367 : ¬ ((gw G) ≤ a) := c2367
        refine T_p xr_129_13 xn_129 (pc' := 14) (ls' := [(1, .int (iI a)), (0, .ref 1)]) (st' := [.int (iI a)]) rfl ?_
        refine T_p xr_129_14 xn_129 (pc' := 15) (ls' := [(2, .int (iI a)), (1, .int (iI a)), (0, .ref 1)]) (st' := []) rfl ?_
        have L2368 : ∀ (m2370 : Nat) (b : Int) (hb2_ : a ≤ b ∧ b ≤ gw G) (hno2 : ∀ a1 b1, 0 ≤ a1 → a1 ≤ b1 → b1 < gw G → (a1 < a ∨ (a1 = a ∧ b1 < b)) → ¬ X_ag (gl G) (gD G) (gW G) a1 b1) (hm2371 : gw G - b < m2370), X_T sc 129 (15, [(2, .int (iI b)), (1, .int (iI a)), (0, .ref 1)], [], S) Q := by
          intro m2370
          induction m2370 with
          | zero =>
            intro b hb2_ hno2 hm2371
            exact (show False by omega).elim
          | succ m2370 ih2369 =>
            intro b hb2_ hno2 hm2371
            refine T_p xr_129_15 xn_129 (pc' := 16) (ls' := [(2, .int (iI b)), (1, .int (iI a)), (0, .ref 1)]) (st' := [.int (iI b)]) rfl ?_
            refine T_p xr_129_16 xn_129 (pc' := 17) (ls' := [(2, .int (iI b)), (1, .int (iI a)), (0, .ref 1)]) (st' := [.ref 1, .int (iI b)]) rfl ?_
            refine T_get xr_129_17 hO1 rfl (v := .ref B) rfl (pc' := 20) rfl ?_
            refine T_get xr_129_20 hb0 rfl (v := .int (iI (gw G))) rfl (pc' := 23) rfl ?_
            refine T_zicmp_ge xr_129_23 (t := 51) (pc' := 26) rfl rfl (fun c2373 => ?_) (fun c2373 => ?_)
            · skip
              have c2373 : (gw G) ≤ b := c2373
              refine T_ziinc xr_129_51 xn_129 (a := a) (z := a + 1) rfl (Nat.le_of_ble_eq_true rfl) (by omega) (ls' := [(1, .int (iI (a + 1))), (2, .int (iI b)), (0, .ref 1)]) rfl (pc' := 54) rfl ?_
              refine T_p xr_129_54 xn_129 (pc' := 2) (ls' := [(1, .int (iI (a + 1))), (2, .int (iI b)), (0, .ref 1)]) (st' := []) rfl ?_
              refine T_sub (ls := [(1, .int (iI (a + 1))), (0, .ref 1)]) ⟨rfl, rfl, trivial⟩ rfl rfl ?_
              exact ih2363 (a + 1)  (by omega) (fun a1 b1 h1 h2 h3 h4 => hno2 a1 b1 h1 h2 h3 (by omega)) (by omega)
            · skip
              have c2373 : ¬ ((gw G) ≤ b) := c2373
              refine T_p xr_129_26 xn_129 (pc' := 27) (ls' := [(2, .int (iI b)), (1, .int (iI a)), (0, .ref 1)]) (st' := [.ref 1]) rfl ?_
              refine T_get xr_129_27 hO1 rfl (v := .ref B) rfl (pc' := 30) rfl ?_
              refine T_p xr_129_30 xn_129 (pc' := 31) (ls' := [(2, .int (iI b)), (1, .int (iI a)), (0, .ref 1)]) (st' := [.int (iI a), .ref B]) rfl ?_
              refine T_p xr_129_31 xn_129 (pc' := 32) (ls' := [(2, .int (iI b)), (1, .int (iI a)), (0, .ref 1)]) (st' := [.int (iI b), .int (iI a), .ref B]) rfl ?_
              refine T_cv (S := S) (q := B) xr_129_32 xf_18.1 xf_18.2.1 xn_18 (as := [.int (iI a), .int (iI b)]) (r := []) rfl hb0 (Nat.le_of_ble_eq_true rfl) (Nat.le_of_ble_eq_true rfl) (pc' := 35) rfl (ls' := [(0, .ref B), (1, .int (iI a)), (2, .int (iI b))]) rfl ?_
              refine T_mono (c_isAgainst sc S B rc (gk G) (gw G) rn (gl G) kn (ga G) (gD G) (gW G) a b ⟨hb0, hb1, hb2, hb3, hb4, ⟨f, hb5, hf⟩, ⟨by omega, by omega⟩, ⟨by omega, by omega⟩, ⟨by omega, by omega⟩⟩ hs (by omega) (by omega)) (fun v2375 S2376 h2374 => ?_)
              obtain ⟨h2377, h2378⟩ := h2374
              rw [h2377, h2378]
              show X_T sc 129 (35, [(2, .int (iI b)), (1, .int (iI a)), (0, .ref 1)], [.int (iI (bI (X_ag (gl G) (gD G) (gW G) a b)))], S) _
              refine T_bif_eq xr_129_35 (t := 45) (pc' := 38) rfl rfl (fun c2379 => ?_) (fun c2379 => ?_)
              · skip
                have c2379 : ¬ (X_ag (gl G) (gD G) (gW G) a b) := c2379
                refine T_ziinc xr_129_45 xn_129 (a := b) (z := b + 1) rfl (Nat.le_of_ble_eq_true rfl) (by omega) (ls' := [(2, .int (iI (b + 1))), (1, .int (iI a)), (0, .ref 1)]) rfl (pc' := 48) rfl ?_
                refine T_p xr_129_48 xn_129 (pc' := 15) (ls' := [(2, .int (iI (b + 1))), (1, .int (iI a)), (0, .ref 1)]) (st' := []) rfl ?_
                exact ih2369 (b + 1)  (by omega) (fun a1 b1 h1 h2 h3 h4 => by
                      by_cases hh : a1 = a ∧ b1 = b
                      · obtain ⟨e1, e2⟩ := hh
                        subst e1; subst e2; assumption
                      · exact hno2 a1 b1 h1 h2 h3 (by omega)) (by omega)
              · skip
                have c2379 : (X_ag (gl G) (gD G) (gW G) a b) := c2379
                refine T_p xr_129_38 xn_129 (pc' := 40) (ls' := [(2, .int (iI b)), (1, .int (iI a)), (0, .ref 1)]) (st' := [.int (iI 100)]) rfl ?_
                refine T_p xr_129_40 xn_129 (pc' := 41) (ls' := [(2, .int (iI b)), (1, .int (iI a)), (0, .ref 1)]) (st' := [.int (iI a), .int (iI 100)]) rfl ?_
                refine T_zimul xr_129_41 (z := 100 * a) rfl (pc' := 42) rfl ?_
                refine T_p xr_129_42 xn_129 (pc' := 43) (ls' := [(2, .int (iI b)), (1, .int (iI a)), (0, .ref 1)]) (st' := [.int (iI b), .int (iI (100 * a))]) rfl ?_
                refine T_ziadd xr_129_43 (z := (100 * a) + b) rfl (pc' := 44) rfl ?_
                refine T_iret xr_129_44 xf_129.2.2 rfl ?_
                refine hQ _ _ ?_
                exact ⟨(100 * a) + b, rfl, (Or.inr ⟨a, b, rfl, by omega, by assumption, fun a1 b1 h1 h2 h3 h4 => hno2 a1 b1 h1 h2 h3 (by omega)⟩), rfl⟩
        exact L2368 ((gw G) + 1).toNat a  (by omega) (fun a1 b1 h1 h2 h3 h4 => hno a1 b1 h1 h2 h3 (by omega)) (by omega)
  exact L2362 ((gw G) + 1).toNat 0  (by omega) (fun a1 b1 h1 h2 h3 h4 => absurd h4 (by omega)) (by omega)
