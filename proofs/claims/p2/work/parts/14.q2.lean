theorem xr_173_0 : X_row 173 0 = some (0, (.bipush 31, 2), (0, 0, 0)) := by decide +kernel
theorem xr_173_2 : X_row 173 2 = some (2, (.iload_n 0, 1), (0, 0, 0)) := by decide +kernel
theorem xr_173_3 : X_row 173 3 = some (3, (.imul, 1), (0, 0, 0)) := by decide +kernel
theorem xr_173_4 : X_row 173 4 = some (4, (.iload_n 1, 1), (0, 0, 0)) := by decide +kernel
theorem xr_173_5 : X_row 173 5 = some (5, (.iadd, 1), (0, 0, 0)) := by decide +kernel
theorem xr_173_6 : X_row 173 6 = some (6, (.ireturn, 1), (0, 0, 0)) := by decide +kernel
theorem xr_174_0 : X_row 174 0 = some (0, (.aload_n 0, 1), (0, 0, 0)) := by decide +kernel
theorem xr_174_1 : X_row 174 1 = some (1, (.getfield 94, 3), (11, 29, 58)) := by decide +kernel
theorem xr_174_4 : X_row 174 4 = some (4, (.iconst 1, 1), (0, 0, 0)) := by decide +kernel
theorem xr_174_5 : X_row 174 5 = some (5, (.if_icmp .le 7, 3), (0, 0, 0)) := by decide +kernel
theorem xr_174_8 : X_row 174 8 = some (8, (.iconst 1, 1), (0, 0, 0)) := by decide +kernel
theorem xr_174_9 : X_row 174 9 = some (9, (.goto 4, 3), (0, 0, 0)) := by decide +kernel
theorem xr_174_12 : X_row 174 12 = some (12, (.iconst 0, 1), (0, 0, 0)) := by decide +kernel
theorem xr_174_13 : X_row 174 13 = some (13, (.ireturn, 1), (0, 0, 0)) := by decide +kernel
theorem xr_177_0 : X_row 177 0 = some (0, (.iload_n 2, 1), (0, 0, 0)) := by decide +kernel
theorem xr_177_1 : X_row 177 1 = some (1, (.iload_n 3, 1), (0, 0, 0)) := by decide +kernel
theorem xr_177_2 : X_row 177 2 = some (2, (.invokestatic 337, 3), (173, 56, 0)) := by decide +kernel
theorem xr_177_5 : X_row 177 5 = some (5, (.istore 4, 2), (0, 0, 0)) := by decide +kernel
theorem xr_177_7 : X_row 177 7 = some (7, (.aload_n 0, 1), (0, 0, 0)) := by decide +kernel
theorem xr_177_8 : X_row 177 8 = some (8, (.iload_n 2, 1), (0, 0, 0)) := by decide +kernel
theorem xr_177_9 : X_row 177 9 = some (9, (.iload_n 3, 1), (0, 0, 0)) := by decide +kernel
theorem xr_177_10 : X_row 177 10 = some (10, (.invokevirtual 356, 3), (176, 66, 0)) := by decide +kernel
theorem xr_177_13 : X_row 177 13 = some (13, (.ifCond .eq 15, 3), (0, 0, 0)) := by decide +kernel
theorem xr_177_16 : X_row 177 16 = some (16, (.aload_n 0, 1), (0, 0, 0)) := by decide +kernel
theorem xr_177_17 : X_row 177 17 = some (17, (.invokevirtual 359, 3), (174, 68, 0)) := by decide +kernel
theorem xr_177_20 : X_row 177 20 = some (20, (.iload_n 1, 1), (0, 0, 0)) := by decide +kernel
theorem xr_177_21 : X_row 177 21 = some (21, (.if_icmp .ne 7, 3), (0, 0, 0)) := by decide +kernel
theorem xr_177_24 : X_row 177 24 = some (24, (.lconst 1, 1), (0, 0, 0)) := by decide +kernel
theorem xr_177_25 : X_row 177 25 = some (25, (.goto 4, 3), (0, 0, 0)) := by decide +kernel
theorem xr_177_28 : X_row 177 28 = some (28, (.lconst 0, 1), (0, 0, 0)) := by decide +kernel
theorem xr_177_29 : X_row 177 29 = some (29, (.lstore 5, 2), (0, 0, 0)) := by decide +kernel
theorem xr_177_31 : X_row 177 31 = some (31, (.lload 5, 2), (0, 0, 0)) := by decide +kernel
theorem xr_177_33 : X_row 177 33 = some (33, (.aload_n 0, 1), (0, 0, 0)) := by decide +kernel
theorem xr_177_34 : X_row 177 34 = some (34, (.getfield 209, 3), (11, 40, 80)) := by decide +kernel
theorem xr_177_37 : X_row 177 37 = some (37, (.sipush 961, 3), (0, 0, 0)) := by decide +kernel
theorem xr_177_40 : X_row 177 40 = some (40, (.iload_n 1, 1), (0, 0, 0)) := by decide +kernel
theorem xr_177_41 : X_row 177 41 = some (41, (.imul, 1), (0, 0, 0)) := by decide +kernel
theorem xr_177_42 : X_row 177 42 = some (42, (.iload 4, 2), (0, 0, 0)) := by decide +kernel
theorem xr_177_44 : X_row 177 44 = some (44, (.iadd, 1), (0, 0, 0)) := by decide +kernel
theorem xr_177_45 : X_row 177 45 = some (45, (.laload, 1), (0, 0, 0)) := by decide +kernel
theorem xr_177_46 : X_row 177 46 = some (46, (.invokestatic 362, 3), (171, 60, 0)) := by decide +kernel
theorem xr_177_49 : X_row 177 49 = some (49, (.lstore 5, 2), (0, 0, 0)) := by decide +kernel
theorem xr_177_51 : X_row 177 51 = some (51, (.iconst 0, 1), (0, 0, 0)) := by decide +kernel
theorem xr_177_52 : X_row 177 52 = some (52, (.istore 7, 2), (0, 0, 0)) := by decide +kernel
theorem xr_177_54 : X_row 177 54 = some (54, (.iload 7, 2), (0, 0, 0)) := by decide +kernel
theorem xr_177_56 : X_row 177 56 = some (56, (.aload_n 0, 1), (0, 0, 0)) := by decide +kernel
theorem xr_177_57 : X_row 177 57 = some (57, (.getfield 138, 3), (11, 30, 60)) := by decide +kernel
theorem xr_177_60 : X_row 177 60 = some (60, (.if_icmp .ge 49, 3), (0, 0, 0)) := by decide +kernel
theorem xr_177_63 : X_row 177 63 = some (63, (.aload_n 0, 1), (0, 0, 0)) := by decide +kernel
theorem xr_177_64 : X_row 177 64 = some (64, (.getfield 147, 3), (11, 19, 38)) := by decide +kernel
theorem xr_177_67 : X_row 177 67 = some (67, (.bipush 30, 2), (0, 0, 0)) := by decide +kernel
theorem xr_177_69 : X_row 177 69 = some (69, (.aload_n 0, 1), (0, 0, 0)) := by decide +kernel
theorem xr_177_70 : X_row 177 70 = some (70, (.getfield 91, 3), (11, 4, 8)) := by decide +kernel
theorem xr_177_73 : X_row 177 73 = some (73, (.imul, 1), (0, 0, 0)) := by decide +kernel
theorem xr_177_74 : X_row 177 74 = some (74, (.iload 7, 2), (0, 0, 0)) := by decide +kernel
theorem xr_177_76 : X_row 177 76 = some (76, (.iadd, 1), (0, 0, 0)) := by decide +kernel
theorem xr_177_77 : X_row 177 77 = some (77, (.iaload, 1), (0, 0, 0)) := by decide +kernel
theorem xr_177_78 : X_row 177 78 = some (78, (.iload_n 1, 1), (0, 0, 0)) := by decide +kernel
theorem xr_177_79 : X_row 177 79 = some (79, (.if_icmp .ne 24, 3), (0, 0, 0)) := by decide +kernel
theorem xr_177_82 : X_row 177 82 = some (82, (.lload 5, 2), (0, 0, 0)) := by decide +kernel
theorem xr_177_84 : X_row 177 84 = some (84, (.aload_n 0, 1), (0, 0, 0)) := by decide +kernel
theorem xr_177_85 : X_row 177 85 = some (85, (.getfield 206, 3), (11, 39, 78)) := by decide +kernel
theorem xr_177_88 : X_row 177 88 = some (88, (.sipush 961, 3), (0, 0, 0)) := by decide +kernel
theorem xr_177_91 : X_row 177 91 = some (91, (.iload 7, 2), (0, 0, 0)) := by decide +kernel
theorem xr_177_93 : X_row 177 93 = some (93, (.imul, 1), (0, 0, 0)) := by decide +kernel
theorem xr_177_94 : X_row 177 94 = some (94, (.iload 4, 2), (0, 0, 0)) := by decide +kernel
theorem xr_177_96 : X_row 177 96 = some (96, (.iadd, 1), (0, 0, 0)) := by decide +kernel
theorem xr_177_97 : X_row 177 97 = some (97, (.laload, 1), (0, 0, 0)) := by decide +kernel
theorem xr_177_98 : X_row 177 98 = some (98, (.invokestatic 362, 3), (171, 60, 0)) := by decide +kernel
theorem xr_177_101 : X_row 177 101 = some (101, (.lstore 5, 2), (0, 0, 0)) := by decide +kernel
theorem xr_177_103 : X_row 177 103 = some (103, (.iinc 7 1, 3), (0, 0, 0)) := by decide +kernel
theorem xr_177_106 : X_row 177 106 = some (106, (.goto (-52), 3), (0, 0, 0)) := by decide +kernel
theorem xr_177_109 : X_row 177 109 = some (109, (.lload 5, 2), (0, 0, 0)) := by decide +kernel
theorem xr_177_111 : X_row 177 111 = some (111, (.lreturn, 1), (0, 0, 0)) := by decide +kernel
theorem xr_179_0 : X_row 179 0 = some (0, (.bipush 30, 2), (0, 0, 0)) := by decide +kernel
theorem xr_179_2 : X_row 179 2 = some (2, (.aload_n 0, 1), (0, 0, 0)) := by decide +kernel
theorem xr_179_3 : X_row 179 3 = some (3, (.getfield 91, 3), (11, 4, 8)) := by decide +kernel
theorem xr_179_6 : X_row 179 6 = some (6, (.imul, 1), (0, 0, 0)) := by decide +kernel
theorem xr_179_7 : X_row 179 7 = some (7, (.iload_n 3, 1), (0, 0, 0)) := by decide +kernel
theorem xr_179_8 : X_row 179 8 = some (8, (.iadd, 1), (0, 0, 0)) := by decide +kernel
theorem xr_179_9 : X_row 179 9 = some (9, (.istore 4, 2), (0, 0, 0)) := by decide +kernel
theorem xr_179_11 : X_row 179 11 = some (11, (.iload_n 2, 1), (0, 0, 0)) := by decide +kernel
theorem xr_179_12 : X_row 179 12 = some (12, (.ifCond .eq 12, 3), (0, 0, 0)) := by decide +kernel
theorem xr_179_15 : X_row 179 15 = some (15, (.aload_n 0, 1), (0, 0, 0)) := by decide +kernel
theorem xr_179_16 : X_row 179 16 = some (16, (.iload 4, 2), (0, 0, 0)) := by decide +kernel
theorem xr_179_18 : X_row 179 18 = some (18, (.invokevirtual 162, 3), (160, 46, 0)) := by decide +kernel
theorem xr_179_21 : X_row 179 21 = some (21, (.ifCond .ne 5, 3), (0, 0, 0)) := by decide +kernel
theorem xr_179_24 : X_row 179 24 = some (24, (.iconst 1, 1), (0, 0, 0)) := by decide +kernel
theorem xr_179_25 : X_row 179 25 = some (25, (.ireturn, 1), (0, 0, 0)) := by decide +kernel
theorem xr_179_26 : X_row 179 26 = some (26, (.bipush 30, 2), (0, 0, 0)) := by decide +kernel
theorem xr_179_28 : X_row 179 28 = some (28, (.aload_n 0, 1), (0, 0, 0)) := by decide +kernel
theorem xr_179_29 : X_row 179 29 = some (29, (.getfield 91, 3), (11, 4, 8)) := by decide +kernel
theorem xr_179_32 : X_row 179 32 = some (32, (.imul, 1), (0, 0, 0)) := by decide +kernel
theorem xr_179_33 : X_row 179 33 = some (33, (.iload_n 1, 1), (0, 0, 0)) := by decide +kernel
theorem xr_179_34 : X_row 179 34 = some (34, (.iadd, 1), (0, 0, 0)) := by decide +kernel
theorem xr_179_35 : X_row 179 35 = some (35, (.istore 5, 2), (0, 0, 0)) := by decide +kernel
theorem xr_179_37 : X_row 179 37 = some (37, (.aload_n 0, 1), (0, 0, 0)) := by decide +kernel
theorem xr_179_38 : X_row 179 38 = some (38, (.aload_n 0, 1), (0, 0, 0)) := by decide +kernel
theorem xr_179_39 : X_row 179 39 = some (39, (.getfield 141, 3), (11, 17, 34)) := by decide +kernel
theorem xr_179_42 : X_row 179 42 = some (42, (.iload 4, 2), (0, 0, 0)) := by decide +kernel
theorem xr_179_44 : X_row 179 44 = some (44, (.iaload, 1), (0, 0, 0)) := by decide +kernel
theorem xr_179_45 : X_row 179 45 = some (45, (.aload_n 0, 1), (0, 0, 0)) := by decide +kernel
theorem xr_179_46 : X_row 179 46 = some (46, (.getfield 141, 3), (11, 17, 34)) := by decide +kernel
theorem xr_179_49 : X_row 179 49 = some (49, (.iload 5, 2), (0, 0, 0)) := by decide +kernel
theorem xr_179_51 : X_row 179 51 = some (51, (.iaload, 1), (0, 0, 0)) := by decide +kernel
theorem xr_179_52 : X_row 179 52 = some (52, (.invokevirtual 123, 3), (154, 32, 0)) := by decide +kernel
theorem xr_179_55 : X_row 179 55 = some (55, (.ifCond .ne 31, 3), (0, 0, 0)) := by decide +kernel
theorem xr_179_58 : X_row 179 58 = some (58, (.aload_n 0, 1), (0, 0, 0)) := by decide +kernel
theorem xr_179_59 : X_row 179 59 = some (59, (.getfield 141, 3), (11, 17, 34)) := by decide +kernel
theorem xr_179_62 : X_row 179 62 = some (62, (.iload 4, 2), (0, 0, 0)) := by decide +kernel
theorem xr_179_64 : X_row 179 64 = some (64, (.iaload, 1), (0, 0, 0)) := by decide +kernel
theorem xr_179_65 : X_row 179 65 = some (65, (.aload_n 0, 1), (0, 0, 0)) := by decide +kernel
theorem xr_179_66 : X_row 179 66 = some (66, (.getfield 141, 3), (11, 17, 34)) := by decide +kernel
theorem xr_179_69 : X_row 179 69 = some (69, (.iload 5, 2), (0, 0, 0)) := by decide +kernel
theorem xr_179_71 : X_row 179 71 = some (71, (.iaload, 1), (0, 0, 0)) := by decide +kernel
theorem xr_179_72 : X_row 179 72 = some (72, (.if_icmp .ne 18, 3), (0, 0, 0)) := by decide +kernel
theorem xr_179_75 : X_row 179 75 = some (75, (.aload_n 0, 1), (0, 0, 0)) := by decide +kernel
theorem xr_179_76 : X_row 179 76 = some (76, (.getfield 144, 3), (11, 18, 36)) := by decide +kernel
theorem xr_179_79 : X_row 179 79 = some (79, (.iload 5, 2), (0, 0, 0)) := by decide +kernel
theorem xr_179_81 : X_row 179 81 = some (81, (.iaload, 1), (0, 0, 0)) := by decide +kernel
theorem xr_179_82 : X_row 179 82 = some (82, (.iload_n 2, 1), (0, 0, 0)) := by decide +kernel
theorem xr_179_83 : X_row 179 83 = some (83, (.if_icmp .ne 7, 3), (0, 0, 0)) := by decide +kernel
theorem xr_179_86 : X_row 179 86 = some (86, (.iconst 1, 1), (0, 0, 0)) := by decide +kernel
theorem xr_179_87 : X_row 179 87 = some (87, (.goto 4, 3), (0, 0, 0)) := by decide +kernel
theorem xr_179_90 : X_row 179 90 = some (90, (.iconst 0, 1), (0, 0, 0)) := by decide +kernel
theorem xr_179_91 : X_row 179 91 = some (91, (.ireturn, 1), (0, 0, 0)) := by decide +kernel
theorem xr_180_0 : X_row 180 0 = some (0, (.bipush 30, 2), (0, 0, 0)) := by decide +kernel
theorem xr_180_2 : X_row 180 2 = some (2, (.aload_n 0, 1), (0, 0, 0)) := by decide +kernel
theorem xr_180_3 : X_row 180 3 = some (3, (.getfield 91, 3), (11, 4, 8)) := by decide +kernel
theorem xr_180_6 : X_row 180 6 = some (6, (.imul, 1), (0, 0, 0)) := by decide +kernel
theorem xr_180_7 : X_row 180 7 = some (7, (.iload_n 1, 1), (0, 0, 0)) := by decide +kernel
theorem xr_180_8 : X_row 180 8 = some (8, (.iadd, 1), (0, 0, 0)) := by decide +kernel
theorem xr_180_9 : X_row 180 9 = some (9, (.istore_n 3, 1), (0, 0, 0)) := by decide +kernel
theorem xr_180_10 : X_row 180 10 = some (10, (.iload_n 2, 1), (0, 0, 0)) := by decide +kernel
theorem xr_180_11 : X_row 180 11 = some (11, (.ifCond .ne 19, 3), (0, 0, 0)) := by decide +kernel
theorem xr_180_14 : X_row 180 14 = some (14, (.aload_n 0, 1), (0, 0, 0)) := by decide +kernel
theorem xr_180_15 : X_row 180 15 = some (15, (.getfield 168, 3), (11, 25, 50)) := by decide +kernel
theorem xr_180_18 : X_row 180 18 = some (18, (.bipush 8, 2), (0, 0, 0)) := by decide +kernel
theorem xr_180_20 : X_row 180 20 = some (20, (.iload_n 3, 1), (0, 0, 0)) := by decide +kernel
theorem xr_180_21 : X_row 180 21 = some (21, (.imul, 1), (0, 0, 0)) := by decide +kernel
theorem xr_180_22 : X_row 180 22 = some (22, (.laload, 1), (0, 0, 0)) := by decide +kernel
theorem xr_180_23 : X_row 180 23 = some (23, (.lconst 0, 1), (0, 0, 0)) := by decide +kernel
theorem xr_180_24 : X_row 180 24 = some (24, (.lcmp, 1), (0, 0, 0)) := by decide +kernel
theorem xr_180_25 : X_row 180 25 = some (25, (.ifCond .ne 5, 3), (0, 0, 0)) := by decide +kernel
theorem xr_180_28 : X_row 180 28 = some (28, (.iconst 1, 1), (0, 0, 0)) := by decide +kernel
theorem xr_180_29 : X_row 180 29 = some (29, (.ireturn, 1), (0, 0, 0)) := by decide +kernel
theorem xr_180_30 : X_row 180 30 = some (30, (.iload_n 2, 1), (0, 0, 0)) := by decide +kernel
theorem xr_180_31 : X_row 180 31 = some (31, (.aload_n 0, 1), (0, 0, 0)) := by decide +kernel
theorem xr_180_32 : X_row 180 32 = some (32, (.getfield 153, 3), (11, 21, 42)) := by decide +kernel
theorem xr_180_35 : X_row 180 35 = some (35, (.iload_n 3, 1), (0, 0, 0)) := by decide +kernel
theorem xr_180_36 : X_row 180 36 = some (36, (.iaload, 1), (0, 0, 0)) := by decide +kernel
theorem xr_180_37 : X_row 180 37 = some (37, (.iconst 1, 1), (0, 0, 0)) := by decide +kernel
theorem xr_180_38 : X_row 180 38 = some (38, (.isub, 1), (0, 0, 0)) := by decide +kernel
theorem xr_180_39 : X_row 180 39 = some (39, (.if_icmp .ne 30, 3), (0, 0, 0)) := by decide +kernel
theorem xr_180_42 : X_row 180 42 = some (42, (.aload_n 0, 1), (0, 0, 0)) := by decide +kernel
theorem xr_180_43 : X_row 180 43 = some (43, (.getfield 168, 3), (11, 25, 50)) := by decide +kernel
theorem xr_180_46 : X_row 180 46 = some (46, (.bipush 8, 2), (0, 0, 0)) := by decide +kernel
theorem xr_180_48 : X_row 180 48 = some (48, (.iload_n 3, 1), (0, 0, 0)) := by decide +kernel
theorem xr_180_49 : X_row 180 49 = some (49, (.imul, 1), (0, 0, 0)) := by decide +kernel
theorem xr_180_50 : X_row 180 50 = some (50, (.aload_n 0, 1), (0, 0, 0)) := by decide +kernel
theorem xr_180_51 : X_row 180 51 = some (51, (.getfield 150, 3), (11, 20, 40)) := by decide +kernel
theorem xr_180_54 : X_row 180 54 = some (54, (.iload_n 3, 1), (0, 0, 0)) := by decide +kernel
theorem xr_180_55 : X_row 180 55 = some (55, (.iaload, 1), (0, 0, 0)) := by decide +kernel
theorem xr_180_56 : X_row 180 56 = some (56, (.iadd, 1), (0, 0, 0)) := by decide +kernel
theorem xr_180_57 : X_row 180 57 = some (57, (.iconst 1, 1), (0, 0, 0)) := by decide +kernel
theorem xr_180_58 : X_row 180 58 = some (58, (.isub, 1), (0, 0, 0)) := by decide +kernel
theorem xr_180_59 : X_row 180 59 = some (59, (.laload, 1), (0, 0, 0)) := by decide +kernel
theorem xr_180_60 : X_row 180 60 = some (60, (.lconst 0, 1), (0, 0, 0)) := by decide +kernel
theorem xr_180_61 : X_row 180 61 = some (61, (.lcmp, 1), (0, 0, 0)) := by decide +kernel
theorem xr_180_62 : X_row 180 62 = some (62, (.ifCond .ne 7, 3), (0, 0, 0)) := by decide +kernel
theorem xr_180_65 : X_row 180 65 = some (65, (.iconst 2, 1), (0, 0, 0)) := by decide +kernel
theorem xr_180_66 : X_row 180 66 = some (66, (.goto 4, 3), (0, 0, 0)) := by decide +kernel
theorem xr_180_69 : X_row 180 69 = some (69, (.iconst 0, 1), (0, 0, 0)) := by decide +kernel
theorem xr_180_70 : X_row 180 70 = some (70, (.ireturn, 1), (0, 0, 0)) := by decide +kernel
theorem xr_181_0 : X_row 181 0 = some (0, (.iload_n 3, 1), (0, 0, 0)) := by decide +kernel
theorem xr_181_1 : X_row 181 1 = some (1, (.iload 4, 2), (0, 0, 0)) := by decide +kernel
theorem xr_181_3 : X_row 181 3 = some (3, (.invokestatic 337, 3), (173, 56, 0)) := by decide +kernel
theorem xr_181_6 : X_row 181 6 = some (6, (.istore 5, 2), (0, 0, 0)) := by decide +kernel
theorem xr_181_8 : X_row 181 8 = some (8, (.aload_n 0, 1), (0, 0, 0)) := by decide +kernel
theorem xr_181_9 : X_row 181 9 = some (9, (.getfield 174, 3), (11, 27, 54)) := by decide +kernel
theorem xr_181_12 : X_row 181 12 = some (12, (.iconst 4, 1), (0, 0, 0)) := by decide +kernel
theorem xr_181_13 : X_row 181 13 = some (13, (.bipush 30, 2), (0, 0, 0)) := by decide +kernel
theorem xr_181_15 : X_row 181 15 = some (15, (.aload_n 0, 1), (0, 0, 0)) := by decide +kernel
theorem xr_181_16 : X_row 181 16 = some (16, (.getfield 91, 3), (11, 4, 8)) := by decide +kernel
theorem xr_181_19 : X_row 181 19 = some (19, (.imul, 1), (0, 0, 0)) := by decide +kernel
theorem xr_181_20 : X_row 181 20 = some (20, (.iload_n 1, 1), (0, 0, 0)) := by decide +kernel
theorem xr_181_21 : X_row 181 21 = some (21, (.iadd, 1), (0, 0, 0)) := by decide +kernel
theorem xr_181_22 : X_row 181 22 = some (22, (.imul, 1), (0, 0, 0)) := by decide +kernel
theorem xr_181_23 : X_row 181 23 = some (23, (.iload_n 2, 1), (0, 0, 0)) := by decide +kernel
theorem xr_181_24 : X_row 181 24 = some (24, (.iadd, 1), (0, 0, 0)) := by decide +kernel
theorem xr_181_25 : X_row 181 25 = some (25, (.iaload, 1), (0, 0, 0)) := by decide +kernel
theorem xr_181_26 : X_row 181 26 = some (26, (.istore 6, 2), (0, 0, 0)) := by decide +kernel
theorem xr_181_28 : X_row 181 28 = some (28, (.aload_n 0, 1), (0, 0, 0)) := by decide +kernel
theorem xr_181_29 : X_row 181 29 = some (29, (.iload_n 1, 1), (0, 0, 0)) := by decide +kernel
theorem xr_181_30 : X_row 181 30 = some (30, (.iload_n 2, 1), (0, 0, 0)) := by decide +kernel
theorem xr_181_31 : X_row 181 31 = some (31, (.invokevirtual 369, 3), (180, 72, 0)) := by decide +kernel
theorem xr_181_34 : X_row 181 34 = some (34, (.istore 7, 2), (0, 0, 0)) := by decide +kernel
theorem xr_181_36 : X_row 181 36 = some (36, (.aload_n 0, 1), (0, 0, 0)) := by decide +kernel
theorem xr_181_37 : X_row 181 37 = some (37, (.iload_n 3, 1), (0, 0, 0)) := by decide +kernel
theorem xr_181_38 : X_row 181 38 = some (38, (.iload 4, 2), (0, 0, 0)) := by decide +kernel
theorem xr_181_40 : X_row 181 40 = some (40, (.invokevirtual 356, 3), (176, 66, 0)) := by decide +kernel
theorem xr_181_43 : X_row 181 43 = some (43, (.ifCond .eq 20, 3), (0, 0, 0)) := by decide +kernel
theorem xr_181_46 : X_row 181 46 = some (46, (.aload_n 0, 1), (0, 0, 0)) := by decide +kernel
theorem xr_181_47 : X_row 181 47 = some (47, (.aload_n 0, 1), (0, 0, 0)) := by decide +kernel
theorem xr_181_48 : X_row 181 48 = some (48, (.invokevirtual 359, 3), (174, 68, 0)) := by decide +kernel
theorem xr_181_51 : X_row 181 51 = some (51, (.iload 6, 2), (0, 0, 0)) := by decide +kernel
theorem xr_181_53 : X_row 181 53 = some (53, (.invokevirtual 327, 3), (168, 52, 0)) := by decide +kernel
theorem xr_181_56 : X_row 181 56 = some (56, (.ifCond .eq 7, 3), (0, 0, 0)) := by decide +kernel
theorem xr_181_59 : X_row 181 59 = some (59, (.lconst 1, 1), (0, 0, 0)) := by decide +kernel
theorem xr_181_60 : X_row 181 60 = some (60, (.goto 4, 3), (0, 0, 0)) := by decide +kernel
theorem xr_181_63 : X_row 181 63 = some (63, (.lconst 0, 1), (0, 0, 0)) := by decide +kernel
theorem xr_181_64 : X_row 181 64 = some (64, (.lstore 8, 2), (0, 0, 0)) := by decide +kernel
theorem xr_181_66 : X_row 181 66 = some (66, (.iconst 0, 1), (0, 0, 0)) := by decide +kernel
theorem xr_181_67 : X_row 181 67 = some (67, (.istore 10, 2), (0, 0, 0)) := by decide +kernel
theorem xr_181_69 : X_row 181 69 = some (69, (.iload 10, 2), (0, 0, 0)) := by decide +kernel
theorem xr_181_71 : X_row 181 71 = some (71, (.aload_n 0, 1), (0, 0, 0)) := by decide +kernel
theorem xr_181_72 : X_row 181 72 = some (72, (.getfield 94, 3), (11, 29, 58)) := by decide +kernel
theorem xr_181_75 : X_row 181 75 = some (75, (.if_icmp .ge 41, 3), (0, 0, 0)) := by decide +kernel
theorem xr_181_78 : X_row 181 78 = some (78, (.aload_n 0, 1), (0, 0, 0)) := by decide +kernel
theorem xr_181_79 : X_row 181 79 = some (79, (.iload 10, 2), (0, 0, 0)) := by decide +kernel
theorem xr_181_81 : X_row 181 81 = some (81, (.iload 6, 2), (0, 0, 0)) := by decide +kernel
theorem xr_181_83 : X_row 181 83 = some (83, (.invokevirtual 327, 3), (168, 52, 0)) := by decide +kernel
theorem xr_181_86 : X_row 181 86 = some (86, (.ifCond .eq 24, 3), (0, 0, 0)) := by decide +kernel
theorem xr_181_89 : X_row 181 89 = some (89, (.lload 8, 2), (0, 0, 0)) := by decide +kernel
theorem xr_181_91 : X_row 181 91 = some (91, (.aload_n 0, 1), (0, 0, 0)) := by decide +kernel
theorem xr_181_92 : X_row 181 92 = some (92, (.getfield 209, 3), (11, 40, 80)) := by decide +kernel
theorem xr_181_95 : X_row 181 95 = some (95, (.sipush 961, 3), (0, 0, 0)) := by decide +kernel
theorem xr_181_98 : X_row 181 98 = some (98, (.iload 10, 2), (0, 0, 0)) := by decide +kernel
theorem xr_181_100 : X_row 181 100 = some (100, (.imul, 1), (0, 0, 0)) := by decide +kernel
theorem xr_181_101 : X_row 181 101 = some (101, (.iload 5, 2), (0, 0, 0)) := by decide +kernel
theorem xr_181_103 : X_row 181 103 = some (103, (.iadd, 1), (0, 0, 0)) := by decide +kernel
theorem xr_181_104 : X_row 181 104 = some (104, (.laload, 1), (0, 0, 0)) := by decide +kernel
theorem xr_181_105 : X_row 181 105 = some (105, (.invokestatic 362, 3), (171, 60, 0)) := by decide +kernel
theorem xr_181_108 : X_row 181 108 = some (108, (.lstore 8, 2), (0, 0, 0)) := by decide +kernel
theorem xr_181_110 : X_row 181 110 = some (110, (.iinc 10 1, 3), (0, 0, 0)) := by decide +kernel
theorem xr_181_113 : X_row 181 113 = some (113, (.goto (-44), 3), (0, 0, 0)) := by decide +kernel
theorem xr_181_116 : X_row 181 116 = some (116, (.iconst 0, 1), (0, 0, 0)) := by decide +kernel
theorem xr_181_117 : X_row 181 117 = some (117, (.istore 10, 2), (0, 0, 0)) := by decide +kernel
theorem xr_181_119 : X_row 181 119 = some (119, (.iload 10, 2), (0, 0, 0)) := by decide +kernel
theorem xr_181_121 : X_row 181 121 = some (121, (.aload_n 0, 1), (0, 0, 0)) := by decide +kernel
theorem xr_181_122 : X_row 181 122 = some (122, (.getfield 138, 3), (11, 30, 60)) := by decide +kernel
theorem xr_181_125 : X_row 181 125 = some (125, (.if_icmp .ge 66, 3), (0, 0, 0)) := by decide +kernel
theorem xr_181_128 : X_row 181 128 = some (128, (.aload_n 0, 1), (0, 0, 0)) := by decide +kernel
theorem xr_181_129 : X_row 181 129 = some (129, (.aload_n 0, 1), (0, 0, 0)) := by decide +kernel
theorem xr_181_130 : X_row 181 130 = some (130, (.getfield 147, 3), (11, 19, 38)) := by decide +kernel
theorem xr_181_133 : X_row 181 133 = some (133, (.bipush 30, 2), (0, 0, 0)) := by decide +kernel
theorem xr_181_135 : X_row 181 135 = some (135, (.aload_n 0, 1), (0, 0, 0)) := by decide +kernel
theorem xr_181_136 : X_row 181 136 = some (136, (.getfield 91, 3), (11, 4, 8)) := by decide +kernel
theorem xr_181_139 : X_row 181 139 = some (139, (.imul, 1), (0, 0, 0)) := by decide +kernel
theorem xr_181_140 : X_row 181 140 = some (140, (.iload 10, 2), (0, 0, 0)) := by decide +kernel
theorem xr_181_142 : X_row 181 142 = some (142, (.iadd, 1), (0, 0, 0)) := by decide +kernel
theorem xr_181_143 : X_row 181 143 = some (143, (.iaload, 1), (0, 0, 0)) := by decide +kernel
theorem xr_181_144 : X_row 181 144 = some (144, (.iload 6, 2), (0, 0, 0)) := by decide +kernel
theorem xr_181_146 : X_row 181 146 = some (146, (.invokevirtual 327, 3), (168, 52, 0)) := by decide +kernel
theorem xr_181_149 : X_row 181 149 = some (149, (.ifCond .eq 36, 3), (0, 0, 0)) := by decide +kernel
theorem xr_181_152 : X_row 181 152 = some (152, (.aload_n 0, 1), (0, 0, 0)) := by decide +kernel
theorem xr_181_153 : X_row 181 153 = some (153, (.iload_n 1, 1), (0, 0, 0)) := by decide +kernel
theorem xr_181_154 : X_row 181 154 = some (154, (.iload 7, 2), (0, 0, 0)) := by decide +kernel
theorem xr_181_156 : X_row 181 156 = some (156, (.iload 10, 2), (0, 0, 0)) := by decide +kernel
theorem xr_181_158 : X_row 181 158 = some (158, (.invokevirtual 372, 3), (179, 74, 0)) := by decide +kernel
theorem xr_181_161 : X_row 181 161 = some (161, (.ifCond .eq 24, 3), (0, 0, 0)) := by decide +kernel
theorem xr_181_164 : X_row 181 164 = some (164, (.lload 8, 2), (0, 0, 0)) := by decide +kernel
theorem xr_181_166 : X_row 181 166 = some (166, (.aload_n 0, 1), (0, 0, 0)) := by decide +kernel
theorem xr_181_167 : X_row 181 167 = some (167, (.getfield 206, 3), (11, 39, 78)) := by decide +kernel
theorem xr_181_170 : X_row 181 170 = some (170, (.sipush 961, 3), (0, 0, 0)) := by decide +kernel
theorem xr_181_173 : X_row 181 173 = some (173, (.iload 10, 2), (0, 0, 0)) := by decide +kernel
theorem xr_181_175 : X_row 181 175 = some (175, (.imul, 1), (0, 0, 0)) := by decide +kernel
theorem xr_181_176 : X_row 181 176 = some (176, (.iload 5, 2), (0, 0, 0)) := by decide +kernel
theorem xr_181_178 : X_row 181 178 = some (178, (.iadd, 1), (0, 0, 0)) := by decide +kernel
theorem xr_181_179 : X_row 181 179 = some (179, (.laload, 1), (0, 0, 0)) := by decide +kernel
theorem xr_181_180 : X_row 181 180 = some (180, (.invokestatic 362, 3), (171, 60, 0)) := by decide +kernel
theorem xr_181_183 : X_row 181 183 = some (183, (.lstore 8, 2), (0, 0, 0)) := by decide +kernel
theorem xr_181_185 : X_row 181 185 = some (185, (.iinc 10 1, 3), (0, 0, 0)) := by decide +kernel
theorem xr_181_188 : X_row 181 188 = some (188, (.goto (-69), 3), (0, 0, 0)) := by decide +kernel
theorem xr_181_191 : X_row 181 191 = some (191, (.lload 8, 2), (0, 0, 0)) := by decide +kernel
theorem xr_181_193 : X_row 181 193 = some (193, (.lreturn, 1), (0, 0, 0)) := by decide +kernel
theorem xr_182_0 : X_row 182 0 = some (0, (.lconst 0, 1), (0, 0, 0)) := by decide +kernel
theorem xr_182_1 : X_row 182 1 = some (1, (.lstore_n 3, 1), (0, 0, 0)) := by decide +kernel
theorem xr_182_2 : X_row 182 2 = some (2, (.iconst 0, 1), (0, 0, 0)) := by decide +kernel
theorem xr_182_3 : X_row 182 3 = some (3, (.istore 5, 2), (0, 0, 0)) := by decide +kernel
theorem xr_182_5 : X_row 182 5 = some (5, (.iload 5, 2), (0, 0, 0)) := by decide +kernel
theorem xr_182_7 : X_row 182 7 = some (7, (.aload_n 0, 1), (0, 0, 0)) := by decide +kernel
theorem xr_182_8 : X_row 182 8 = some (8, (.getfield 94, 3), (11, 29, 58)) := by decide +kernel
theorem xr_182_11 : X_row 182 11 = some (11, (.if_icmp .ge 22, 3), (0, 0, 0)) := by decide +kernel
theorem xr_182_14 : X_row 182 14 = some (14, (.lload_n 3, 1), (0, 0, 0)) := by decide +kernel
theorem xr_182_15 : X_row 182 15 = some (15, (.aload_n 0, 1), (0, 0, 0)) := by decide +kernel
theorem xr_182_16 : X_row 182 16 = some (16, (.iload 5, 2), (0, 0, 0)) := by decide +kernel
theorem xr_182_18 : X_row 182 18 = some (18, (.iload_n 1, 1), (0, 0, 0)) := by decide +kernel
theorem xr_182_19 : X_row 182 19 = some (19, (.iload_n 2, 1), (0, 0, 0)) := by decide +kernel
theorem xr_182_20 : X_row 182 20 = some (20, (.invokevirtual 349, 3), (177, 64, 0)) := by decide +kernel
theorem xr_182_23 : X_row 182 23 = some (23, (.invokestatic 362, 3), (171, 60, 0)) := by decide +kernel
theorem xr_182_26 : X_row 182 26 = some (26, (.lstore_n 3, 1), (0, 0, 0)) := by decide +kernel
theorem xr_182_27 : X_row 182 27 = some (27, (.iinc 5 1, 3), (0, 0, 0)) := by decide +kernel
theorem xr_182_30 : X_row 182 30 = some (30, (.goto (-25), 3), (0, 0, 0)) := by decide +kernel
theorem xr_182_33 : X_row 182 33 = some (33, (.lload_n 3, 1), (0, 0, 0)) := by decide +kernel
theorem xr_182_34 : X_row 182 34 = some (34, (.lreturn, 1), (0, 0, 0)) := by decide +kernel
theorem xn_173 : X_nL 173 = 2 := by decide +kernel
theorem xf_173 : X_na 173 = 2 ∧ X_ci 173 = 11 ∧ X_rt 173 = (some .int) := by decide +kernel
theorem xn_174 : X_nL 174 = 1 := by decide +kernel
theorem xf_174 : X_na 174 = 0 ∧ X_ci 174 = 11 ∧ X_rt 174 = (some .int) := by decide +kernel
theorem xn_177 : X_nL 177 = 8 := by decide +kernel
theorem xf_177 : X_na 177 = 3 ∧ X_ci 177 = 11 ∧ X_rt 177 = (some .long) := by decide +kernel
theorem xn_179 : X_nL 179 = 6 := by decide +kernel
theorem xf_179 : X_na 179 = 3 ∧ X_ci 179 = 11 ∧ X_rt 179 = (some .boolean) := by decide +kernel
theorem xn_180 : X_nL 180 = 4 := by decide +kernel
theorem xf_180 : X_na 180 = 2 ∧ X_ci 180 = 11 ∧ X_rt 180 = (some .int) := by decide +kernel
theorem xn_181 : X_nL 181 = 11 := by decide +kernel
theorem xf_181 : X_na 181 = 4 ∧ X_ci 181 = 11 ∧ X_rt 181 = (some .long) := by decide +kernel
theorem xn_182 : X_nL 182 = 6 := by decide +kernel
theorem xf_182 : X_na 182 = 2 ∧ X_ci 182 = 11 ∧ X_rt 182 = (some .long) := by decide +kernel
theorem r_endOf (sc : X_Sc) (S : X_S) (wM : Int → Int) (wH : Int → Int) (eP : Int → Int64) (o : Nat → Int) (nm : Int64) (b : Int) (rc : Int) (G : X_G) (tn : Int) (w : Int) (h : Int) (hO530 : S.1 530 = .inr (11, [.ref 531, .int (iI (o 1)), .ref 532, .int (iI (o 3)), .int (iI b), .int (iI (o 5)), .int (iI (o 6)), .int (iI (o 7)), .int (iI (o 8)), .int (iI (o 9)), .int (iI (o 10)), .int (iI (o 11)), .long nm, .ref 533, .ref 534, .ref 535, .ref 536, .ref 537, .ref 538, .ref 539, .ref 540, .ref 541, .ref 542, .ref 543, .ref 544, .ref 545, .ref 546, .ref 547, .int (iI rc), .int (iI (gk G)), .int (iI (gw G)), .int (iI (o 31)), .int (iI (o 32)), .int (iI (o 33)), .ref 548, .ref 549, .ref 550, .ref 551, .int (iI tn), .ref 552, .ref 553, .ref 554, .ref 555, .ref 556, .ref 557, .ref 558, .ref 559, .ref 560, .ref 561, .int (iI (o 49)), .ref 562, .ref 563, .ref 564, .ref 565, .ref 566, .ref 567, .ref 568, .ref 569, .int (iI (o 58)), .ref 570, .ref 571, .ref 572, .ref 573, .ref 574, .ref 575, .ref 576, .ref 577, .ref 578, .int (iI (o 68)), .int (iI (o 69)), .int (iI (o 70)), .ref 579])) (hA540 : S.1 540 = .inl (.int, 60, .inl fun k : Nat => iI (wM (k : Int)))) (hA541 : S.1 541 = .inl (.int, 60, .inl fun k : Nat => iI (wH (k : Int)))) (hA545 : S.1 545 = .inl (.long, 480, .inr (.inl fun k : Nat => eP (k : Int)))) (hbr : 0 ≤ b ∧ b ≤ 1) (hG : X_Gok G) (hWM : ∀ w, 0 ≤ w → w < gw G → wM (30 * b + w) = gD G w 3 0) (hWH : ∀ w, 0 ≤ w → w < gw G → wH (30 * b + w) = gD G w 4 0) (hEP : ∀ w, 0 ≤ w → w < gw G → ∀ e, 0 ≤ e → e < gD G w 3 0 → eP (8 * (30 * b + w) + e) = gW G w e) (hw : 0 ≤ w ∧ w < gw G) (hh : 0 ≤ h ∧ h < gD G w 4 0) : X_T sc 180 (0, [(0, .ref 530), (1, .int (iI w)), (2, .int (iI h))], [], S) (fun v S' => v = some (.int (iI (X_eh G w h))) ∧ S' = S) := by
  have hgw := hG.2.2.2 w hw.1 hw.2
  have hsz := hgw.1
  have hgh := hgw.2.1
  have hc1 := hG.1
  refine X_QI (fun Q hQ => ?_)
  refine T_p xr_180_0 xn_180 (pc' := 2) (ls' := [(0, .ref 530), (1, .int (iI w)), (2, .int (iI h))]) (st' := [.int (iI 30)]) rfl ?_
  refine T_p xr_180_2 xn_180 (pc' := 3) (ls' := [(0, .ref 530), (1, .int (iI w)), (2, .int (iI h))]) (st' := [.ref 530, .int (iI 30)]) rfl ?_
  refine T_get xr_180_3 hO530 rfl (v := .int (iI b)) rfl (pc' := 6) rfl ?_
  refine T_zimul xr_180_6 (z := 30 * b) rfl (pc' := 7) rfl ?_
  refine T_p xr_180_7 xn_180 (pc' := 8) (ls' := [(0, .ref 530), (1, .int (iI w)), (2, .int (iI h))]) (st' := [.int (iI w), .int (iI (30 * b))]) rfl ?_
  refine T_ziadd xr_180_8 (z := (30 * b) + w) rfl (pc' := 9) rfl ?_
  refine T_p xr_180_9 xn_180 (pc' := 10) (ls' := [(3, .int (iI ((30 * b) + w))), (0, .ref 530), (1, .int (iI w)), (2, .int (iI h))]) (st' := []) rfl ?_
  refine T_p xr_180_10 xn_180 (pc' := 11) (ls' := [(3, .int (iI ((30 * b) + w))), (0, .ref 530), (1, .int (iI w)), (2, .int (iI h))]) (st' := [.int (iI h)]) rfl ?_
  refine T_zif_ne xr_180_11 (t := 30) (pc' := 14) rfl rfl (fun c584 => ?_) (fun c584 => ?_)
  · skip
    have c584 : ¬ h = 0 := c584
    refine T_p xr_180_30 xn_180 (pc' := 31) (ls' := [(3, .int (iI ((30 * b) + w))), (0, .ref 530), (1, .int (iI w)), (2, .int (iI h))]) (st' := [.int (iI h)]) rfl ?_
    refine T_p xr_180_31 xn_180 (pc' := 32) (ls' := [(3, .int (iI ((30 * b) + w))), (0, .ref 530), (1, .int (iI w)), (2, .int (iI h))]) (st' := [.ref 530, .int (iI h)]) rfl ?_
    refine T_get xr_180_32 hO530 rfl (v := .ref 541) rfl (pc' := 35) rfl ?_
    refine T_p xr_180_35 xn_180 (pc' := 36) (ls' := [(3, .int (iI ((30 * b) + w))), (0, .ref 530), (1, .int (iI w)), (2, .int (iI h))]) (st' := [.int (iI ((30 * b) + w)), .ref 541, .int (iI h)]) rfl ?_
    refine T_ziald xr_180_36 hA541 (pc' := 37) rfl ?_
    refine T_ie (y := iI (gD G w 4 0)) (by rw [hWH w hw.1 hw.2]) ?_
    refine T_p xr_180_37 xn_180 (pc' := 38) (ls' := [(3, .int (iI ((30 * b) + w))), (0, .ref 530), (1, .int (iI w)), (2, .int (iI h))]) (st' := [.int (iI 1), .int (iI (gD G w 4 0)), .int (iI h)]) rfl ?_
    refine T_zisub xr_180_38 (z := (gD G w 4 0) - 1) rfl (pc' := 39) rfl ?_
    refine T_zicmp_ne xr_180_39 (t := 69) (pc' := 42) rfl rfl (fun c585 => ?_) (fun c585 => ?_)
    · skip
      have c585 : ¬ h = ((gD G w 4 0) - 1) := c585
      refine T_p xr_180_69 xn_180 (pc' := 70) (ls' := [(3, .int (iI ((30 * b) + w))), (0, .ref 530), (1, .int (iI w)), (2, .int (iI h))]) (st' := [.int (iI 0)]) rfl ?_
      refine T_iret xr_180_70 xf_180.2.2 rfl ?_
      refine hQ _ _ ?_
      exact ⟨(by rw [show X_eh G w h = 0 from by unfold X_eh; rw [if_neg (fun z => by first | exact absurd z.1 (by omega) | exact absurd z.2 (by assumption)), if_neg (fun z => by first | exact absurd z.1 (by omega) | exact absurd z.2 (by assumption))]]), rfl⟩
    · skip
      have c585 : ¬ (¬ h = ((gD G w 4 0) - 1)) := c585
      refine T_p xr_180_42 xn_180 (pc' := 43) (ls' := [(3, .int (iI ((30 * b) + w))), (0, .ref 530), (1, .int (iI w)), (2, .int (iI h))]) (st' := [.ref 530]) rfl ?_
      refine T_get xr_180_43 hO530 rfl (v := .ref 545) rfl (pc' := 46) rfl ?_
      refine T_p xr_180_46 xn_180 (pc' := 48) (ls' := [(3, .int (iI ((30 * b) + w))), (0, .ref 530), (1, .int (iI w)), (2, .int (iI h))]) (st' := [.int (iI 8), .ref 545]) rfl ?_
      refine T_p xr_180_48 xn_180 (pc' := 49) (ls' := [(3, .int (iI ((30 * b) + w))), (0, .ref 530), (1, .int (iI w)), (2, .int (iI h))]) (st' := [.int (iI ((30 * b) + w)), .int (iI 8), .ref 545]) rfl ?_
      refine T_zimul xr_180_49 (z := 8 * ((30 * b) + w)) rfl (pc' := 50) rfl ?_
      refine T_p xr_180_50 xn_180 (pc' := 51) (ls' := [(3, .int (iI ((30 * b) + w))), (0, .ref 530), (1, .int (iI w)), (2, .int (iI h))]) (st' := [.ref 530, .int (iI (8 * ((30 * b) + w))), .ref 545]) rfl ?_
      refine T_get xr_180_51 hO530 rfl (v := .ref 540) rfl (pc' := 54) rfl ?_
      refine T_p xr_180_54 xn_180 (pc' := 55) (ls' := [(3, .int (iI ((30 * b) + w))), (0, .ref 530), (1, .int (iI w)), (2, .int (iI h))]) (st' := [.int (iI ((30 * b) + w)), .ref 540, .int (iI (8 * ((30 * b) + w))), .ref 545]) rfl ?_
      refine T_ziald xr_180_55 hA540 (pc' := 56) rfl ?_
      refine T_ie (y := iI (gD G w 3 0)) (by rw [hWM w hw.1 hw.2]) ?_
      refine T_ziadd xr_180_56 (z := (8 * ((30 * b) + w)) + (gD G w 3 0)) rfl (pc' := 57) rfl ?_
      refine T_p xr_180_57 xn_180 (pc' := 58) (ls' := [(3, .int (iI ((30 * b) + w))), (0, .ref 530), (1, .int (iI w)), (2, .int (iI h))]) (st' := [.int (iI 1), .int (iI ((8 * ((30 * b) + w)) + (gD G w 3 0))), .ref 545]) rfl ?_
      refine T_zisub xr_180_58 (z := ((8 * ((30 * b) + w)) + (gD G w 3 0)) - 1) rfl (pc' := 59) rfl ?_
      refine T_zlald xr_180_59 hA545 (pc' := 60) rfl ?_
      refine T_le (y := (gW G w (gD G w 3 0 - 1))) (by rw [← hEP w hw.1 hw.2 (gD G w 3 0 - 1) (by omega) (by omega)]; congr 1; omega) ?_
      refine T_p xr_180_60 xn_180 (pc' := 61) (ls' := [(3, .int (iI ((30 * b) + w))), (0, .ref 530), (1, .int (iI w)), (2, .int (iI h))]) (st' := [.long (iL 0), .long (gW G w (gD G w 3 0 - 1))]) rfl ?_
      refine T_lc_ne xr_180_61 xr_180_62 (t := 69) (pc' := 65) rfl rfl (fun c586 => ?_) (fun c586 => ?_)
      · skip
        have c586 : ¬ (gW G w (gD G w 3 0 - 1)) = (iL 0) := c586
        refine T_p xr_180_69 xn_180 (pc' := 70) (ls' := [(3, .int (iI ((30 * b) + w))), (0, .ref 530), (1, .int (iI w)), (2, .int (iI h))]) (st' := [.int (iI 0)]) rfl ?_
        refine T_iret xr_180_70 xf_180.2.2 rfl ?_
        refine hQ _ _ ?_
        exact ⟨(by rw [show X_eh G w h = 0 from by unfold X_eh; rw [if_neg (fun z => by first | exact absurd z.1 (by omega) | exact absurd z.2 (by assumption)), if_neg (fun z => by first | exact absurd z.1 (by omega) | exact absurd z.2 (by assumption))]]), rfl⟩
      · skip
        have c586 : ¬ (¬ (gW G w (gD G w 3 0 - 1)) = (iL 0)) := c586
        refine T_p xr_180_65 xn_180 (pc' := 66) (ls' := [(3, .int (iI ((30 * b) + w))), (0, .ref 530), (1, .int (iI w)), (2, .int (iI h))]) (st' := [.int (iI 2)]) rfl ?_
        refine T_p xr_180_66 xn_180 (pc' := 70) (ls' := [(3, .int (iI ((30 * b) + w))), (0, .ref 530), (1, .int (iI w)), (2, .int (iI h))]) (st' := [.int (iI 2)]) rfl ?_
        refine T_iret xr_180_70 xf_180.2.2 rfl ?_
        refine hQ _ _ ?_
        exact ⟨(by rw [show X_eh G w h = 2 from by unfold X_eh; rw [if_neg (fun z => by first | exact absurd z.1 (by omega) | exact absurd z.2 (by assumption)), if_pos ⟨by omega, (by first | assumption | exact Classical.not_not.mp (by assumption))⟩]]), rfl⟩
  · skip
    have c584 : ¬ (¬ h = 0) := c584
    refine T_p xr_180_14 xn_180 (pc' := 15) (ls' := [(3, .int (iI ((30 * b) + w))), (0, .ref 530), (1, .int (iI w)), (2, .int (iI h))]) (st' := [.ref 530]) rfl ?_
    refine T_get xr_180_15 hO530 rfl (v := .ref 545) rfl (pc' := 18) rfl ?_
    refine T_p xr_180_18 xn_180 (pc' := 20) (ls' := [(3, .int (iI ((30 * b) + w))), (0, .ref 530), (1, .int (iI w)), (2, .int (iI h))]) (st' := [.int (iI 8), .ref 545]) rfl ?_
    refine T_p xr_180_20 xn_180 (pc' := 21) (ls' := [(3, .int (iI ((30 * b) + w))), (0, .ref 530), (1, .int (iI w)), (2, .int (iI h))]) (st' := [.int (iI ((30 * b) + w)), .int (iI 8), .ref 545]) rfl ?_
    refine T_zimul xr_180_21 (z := 8 * ((30 * b) + w)) rfl (pc' := 22) rfl ?_
    refine T_zlald xr_180_22 hA545 (pc' := 23) rfl ?_
    refine T_le (y := (gW G w 0)) (by rw [← hEP w hw.1 hw.2 0 (Int.le_refl 0) (by omega)]; congr 1; omega) ?_
    refine T_p xr_180_23 xn_180 (pc' := 24) (ls' := [(3, .int (iI ((30 * b) + w))), (0, .ref 530), (1, .int (iI w)), (2, .int (iI h))]) (st' := [.long (iL 0), .long (gW G w 0)]) rfl ?_
    refine T_lc_ne xr_180_24 xr_180_25 (t := 30) (pc' := 28) rfl rfl (fun c587 => ?_) (fun c587 => ?_)
    · skip
      have c587 : ¬ (gW G w 0) = (iL 0) := c587
      refine T_p xr_180_30 xn_180 (pc' := 31) (ls' := [(3, .int (iI ((30 * b) + w))), (0, .ref 530), (1, .int (iI w)), (2, .int (iI h))]) (st' := [.int (iI h)]) rfl ?_
      refine T_p xr_180_31 xn_180 (pc' := 32) (ls' := [(3, .int (iI ((30 * b) + w))), (0, .ref 530), (1, .int (iI w)), (2, .int (iI h))]) (st' := [.ref 530, .int (iI h)]) rfl ?_
      refine T_get xr_180_32 hO530 rfl (v := .ref 541) rfl (pc' := 35) rfl ?_
      refine T_p xr_180_35 xn_180 (pc' := 36) (ls' := [(3, .int (iI ((30 * b) + w))), (0, .ref 530), (1, .int (iI w)), (2, .int (iI h))]) (st' := [.int (iI ((30 * b) + w)), .ref 541, .int (iI h)]) rfl ?_
      refine T_ziald xr_180_36 hA541 (pc' := 37) rfl ?_
      refine T_ie (y := iI (gD G w 4 0)) (by rw [hWH w hw.1 hw.2]) ?_
      refine T_p xr_180_37 xn_180 (pc' := 38) (ls' := [(3, .int (iI ((30 * b) + w))), (0, .ref 530), (1, .int (iI w)), (2, .int (iI h))]) (st' := [.int (iI 1), .int (iI (gD G w 4 0)), .int (iI h)]) rfl ?_
      refine T_zisub xr_180_38 (z := (gD G w 4 0) - 1) rfl (pc' := 39) rfl ?_
      refine T_zicmp_ne xr_180_39 (t := 69) (pc' := 42) rfl rfl (fun c588 => ?_) (fun c588 => ?_)
      · skip
        have c588 : ¬ h = ((gD G w 4 0) - 1) := c588
        refine T_p xr_180_69 xn_180 (pc' := 70) (ls' := [(3, .int (iI ((30 * b) + w))), (0, .ref 530), (1, .int (iI w)), (2, .int (iI h))]) (st' := [.int (iI 0)]) rfl ?_
        refine T_iret xr_180_70 xf_180.2.2 rfl ?_
        refine hQ _ _ ?_
        exact ⟨(by rw [show X_eh G w h = 0 from by unfold X_eh; rw [if_neg (fun z => by first | exact absurd z.1 (by omega) | exact absurd z.2 (by assumption)), if_neg (fun z => by first | exact absurd z.1 (by omega) | exact absurd z.2 (by assumption))]]), rfl⟩
      · skip
        have c588 : ¬ (¬ h = ((gD G w 4 0) - 1)) := c588
        refine T_p xr_180_42 xn_180 (pc' := 43) (ls' := [(3, .int (iI ((30 * b) + w))), (0, .ref 530), (1, .int (iI w)), (2, .int (iI h))]) (st' := [.ref 530]) rfl ?_
        refine T_get xr_180_43 hO530 rfl (v := .ref 545) rfl (pc' := 46) rfl ?_
        refine T_p xr_180_46 xn_180 (pc' := 48) (ls' := [(3, .int (iI ((30 * b) + w))), (0, .ref 530), (1, .int (iI w)), (2, .int (iI h))]) (st' := [.int (iI 8), .ref 545]) rfl ?_
        refine T_p xr_180_48 xn_180 (pc' := 49) (ls' := [(3, .int (iI ((30 * b) + w))), (0, .ref 530), (1, .int (iI w)), (2, .int (iI h))]) (st' := [.int (iI ((30 * b) + w)), .int (iI 8), .ref 545]) rfl ?_
        refine T_zimul xr_180_49 (z := 8 * ((30 * b) + w)) rfl (pc' := 50) rfl ?_
        refine T_p xr_180_50 xn_180 (pc' := 51) (ls' := [(3, .int (iI ((30 * b) + w))), (0, .ref 530), (1, .int (iI w)), (2, .int (iI h))]) (st' := [.ref 530, .int (iI (8 * ((30 * b) + w))), .ref 545]) rfl ?_
        refine T_get xr_180_51 hO530 rfl (v := .ref 540) rfl (pc' := 54) rfl ?_
        refine T_p xr_180_54 xn_180 (pc' := 55) (ls' := [(3, .int (iI ((30 * b) + w))), (0, .ref 530), (1, .int (iI w)), (2, .int (iI h))]) (st' := [.int (iI ((30 * b) + w)), .ref 540, .int (iI (8 * ((30 * b) + w))), .ref 545]) rfl ?_
        refine T_ziald xr_180_55 hA540 (pc' := 56) rfl ?_
        refine T_ie (y := iI (gD G w 3 0)) (by rw [hWM w hw.1 hw.2]) ?_
        refine T_ziadd xr_180_56 (z := (8 * ((30 * b) + w)) + (gD G w 3 0)) rfl (pc' := 57) rfl ?_
        refine T_p xr_180_57 xn_180 (pc' := 58) (ls' := [(3, .int (iI ((30 * b) + w))), (0, .ref 530), (1, .int (iI w)), (2, .int (iI h))]) (st' := [.int (iI 1), .int (iI ((8 * ((30 * b) + w)) + (gD G w 3 0))), .ref 545]) rfl ?_
        refine T_zisub xr_180_58 (z := ((8 * ((30 * b) + w)) + (gD G w 3 0)) - 1) rfl (pc' := 59) rfl ?_
        refine T_zlald xr_180_59 hA545 (pc' := 60) rfl ?_
        refine T_le (y := (gW G w (gD G w 3 0 - 1))) (by rw [← hEP w hw.1 hw.2 (gD G w 3 0 - 1) (by omega) (by omega)]; congr 1; omega) ?_
        refine T_p xr_180_60 xn_180 (pc' := 61) (ls' := [(3, .int (iI ((30 * b) + w))), (0, .ref 530), (1, .int (iI w)), (2, .int (iI h))]) (st' := [.long (iL 0), .long (gW G w (gD G w 3 0 - 1))]) rfl ?_
        refine T_lc_ne xr_180_61 xr_180_62 (t := 69) (pc' := 65) rfl rfl (fun c589 => ?_) (fun c589 => ?_)
        · skip
          have c589 : ¬ (gW G w (gD G w 3 0 - 1)) = (iL 0) := c589
          refine T_p xr_180_69 xn_180 (pc' := 70) (ls' := [(3, .int (iI ((30 * b) + w))), (0, .ref 530), (1, .int (iI w)), (2, .int (iI h))]) (st' := [.int (iI 0)]) rfl ?_
          refine T_iret xr_180_70 xf_180.2.2 rfl ?_
          refine hQ _ _ ?_
          exact ⟨(by rw [show X_eh G w h = 0 from by unfold X_eh; rw [if_neg (fun z => by first | exact absurd z.1 (by omega) | exact absurd z.2 (by assumption)), if_neg (fun z => by first | exact absurd z.1 (by omega) | exact absurd z.2 (by assumption))]]), rfl⟩
        · skip
          have c589 : ¬ (¬ (gW G w (gD G w 3 0 - 1)) = (iL 0)) := c589
          refine T_p xr_180_65 xn_180 (pc' := 66) (ls' := [(3, .int (iI ((30 * b) + w))), (0, .ref 530), (1, .int (iI w)), (2, .int (iI h))]) (st' := [.int (iI 2)]) rfl ?_
          refine T_p xr_180_66 xn_180 (pc' := 70) (ls' := [(3, .int (iI ((30 * b) + w))), (0, .ref 530), (1, .int (iI w)), (2, .int (iI h))]) (st' := [.int (iI 2)]) rfl ?_
          refine T_iret xr_180_70 xf_180.2.2 rfl ?_
          refine hQ _ _ ?_
          exact ⟨(by rw [show X_eh G w h = 2 from by unfold X_eh; rw [if_neg (fun z => by first | exact absurd z.1 (by omega) | exact absurd z.2 (by assumption)), if_pos ⟨by omega, (by first | assumption | exact Classical.not_not.mp (by assumption))⟩]]), rfl⟩
    · skip
      have c587 : ¬ (¬ (gW G w 0) = (iL 0)) := c587
      refine T_p xr_180_28 xn_180 (pc' := 29) (ls' := [(3, .int (iI ((30 * b) + w))), (0, .ref 530), (1, .int (iI w)), (2, .int (iI h))]) (st' := [.int (iI 1)]) rfl ?_
      refine T_iret xr_180_29 xf_180.2.2 rfl ?_
      refine hQ _ _ ?_
      exact ⟨(by rw [show X_eh G w h = 1 from by unfold X_eh; rw [if_pos ⟨by omega, (by first | assumption | exact Classical.not_not.mp (by assumption))⟩]]), rfl⟩
theorem r_letsRank (sc : X_Sc) (S : X_S) (tg : Int → Int) (wR : Int → Int) (wL : Int → Int) (wM : Int → Int) (eP : Int → Int64) (o : Nat → Int) (nm : Int64) (b : Int) (rc : Int) (G : X_G) (tn : Int) (of : Int) (en : Int) (w : Int) (hO530 : S.1 530 = .inr (11, [.ref 531, .int (iI (o 1)), .ref 532, .int (iI (o 3)), .int (iI b), .int (iI (o 5)), .int (iI (o 6)), .int (iI (o 7)), .int (iI (o 8)), .int (iI (o 9)), .int (iI (o 10)), .int (iI (o 11)), .long nm, .ref 533, .ref 534, .ref 535, .ref 536, .ref 537, .ref 538, .ref 539, .ref 540, .ref 541, .ref 542, .ref 543, .ref 544, .ref 545, .ref 546, .ref 547, .int (iI rc), .int (iI (gk G)), .int (iI (gw G)), .int (iI (o 31)), .int (iI (o 32)), .int (iI (o 33)), .ref 548, .ref 549, .ref 550, .ref 551, .int (iI tn), .ref 552, .ref 553, .ref 554, .ref 555, .ref 556, .ref 557, .ref 558, .ref 559, .ref 560, .ref 561, .int (iI (o 49)), .ref 562, .ref 563, .ref 564, .ref 565, .ref 566, .ref 567, .ref 568, .ref 569, .int (iI (o 58)), .ref 570, .ref 571, .ref 572, .ref 573, .ref 574, .ref 575, .ref 576, .ref 577, .ref 578, .int (iI (o 68)), .int (iI (o 69)), .int (iI (o 70)), .ref 579])) (hA535 : S.1 535 = .inl (.boolean, 288, .inl fun k : Nat => iI (tg (k : Int)))) (hA537 : S.1 537 = .inl (.int, 60, .inl fun k : Nat => iI (wR (k : Int)))) (hA538 : S.1 538 = .inl (.int, 60, .inl fun k : Nat => iI (wL (k : Int)))) (hA540 : S.1 540 = .inl (.int, 60, .inl fun k : Nat => iI (wM (k : Int)))) (hA545 : S.1 545 = .inl (.long, 480, .inr (.inl fun k : Nat => eP (k : Int)))) (hbr : 0 ≤ b ∧ b ≤ 1) (hG : X_Gok G) (hTG : (∀ i j, 0 ≤ i → i < rc → 0 ≤ j → j < rc → tg (144 * b + 12 * i + j) = bI (X_bt (gl G i) j)) ∧ ∀ w, 0 ≤ w → w < gw G → gD G w 0 0 < rc) (hWR : ∀ w, 0 ≤ w → w < gw G → wR (30 * b + w) = gD G w 0 0) (hWL : ∀ w, 0 ≤ w → w < gw G → wL (30 * b + w) = gD G w 1 0) (hWM : ∀ w, 0 ≤ w → w < gw G → wM (30 * b + w) = gD G w 3 0) (hEP : ∀ w, 0 ≤ w → w < gw G → ∀ e, 0 ≤ e → e < gD G w 3 0 → eP (8 * (30 * b + w) + e) = gW G w e) (hw : 0 ≤ w ∧ w < gw G) (hof : 0 ≤ of ∧ of < 30 ∧ (of < gw G ∨ en = 0)) (hen : 0 ≤ en ∧ en ≤ 2) : X_T sc 179 (0, [(0, .ref 530), (1, .int (iI of)), (2, .int (iI en)), (3, .int (iI w))], [], S) (fun v S' => v = some (.int (iI (bI (X_lt G of en w)))) ∧ S' = S) := by
  have hgw := hG.2.2.2 w hw.1 hw.2
  have hsz := hgw.1
  have hgh := hgw.2.1
  have hc1 := hG.1
  have hrc := hgw.2.2.2.1
  have hrw := hTG.2 w hw.1 hw.2
  refine X_QI (fun Q hQ => ?_)
  refine T_p xr_179_0 xn_179 (pc' := 2) (ls' := [(0, .ref 530), (1, .int (iI of)), (2, .int (iI en)), (3, .int (iI w))]) (st' := [.int (iI 30)]) rfl ?_
  refine T_p xr_179_2 xn_179 (pc' := 3) (ls' := [(0, .ref 530), (1, .int (iI of)), (2, .int (iI en)), (3, .int (iI w))]) (st' := [.ref 530, .int (iI 30)]) rfl ?_
  refine T_get xr_179_3 hO530 rfl (v := .int (iI b)) rfl (pc' := 6) rfl ?_
  refine T_zimul xr_179_6 (z := 30 * b) rfl (pc' := 7) rfl ?_
  refine T_p xr_179_7 xn_179 (pc' := 8) (ls' := [(0, .ref 530), (1, .int (iI of)), (2, .int (iI en)), (3, .int (iI w))]) (st' := [.int (iI w), .int (iI (30 * b))]) rfl ?_
  refine T_ziadd xr_179_8 (z := (30 * b) + w) rfl (pc' := 9) rfl ?_
  refine T_p xr_179_9 xn_179 (pc' := 11) (ls' := [(4, .int (iI ((30 * b) + w))), (0, .ref 530), (1, .int (iI of)), (2, .int (iI en)), (3, .int (iI w))]) (st' := []) rfl ?_
  refine T_p xr_179_11 xn_179 (pc' := 12) (ls' := [(4, .int (iI ((30 * b) + w))), (0, .ref 530), (1, .int (iI of)), (2, .int (iI en)), (3, .int (iI w))]) (st' := [.int (iI en)]) rfl ?_
  refine T_zif_eq xr_179_12 (t := 24) (pc' := 15) rfl rfl (fun c590 => ?_) (fun c590 => ?_)
  · skip
    have c590 : en = 0 := c590
    refine T_p xr_179_24 xn_179 (pc' := 25) (ls' := [(4, .int (iI ((30 * b) + w))), (0, .ref 530), (1, .int (iI of)), (2, .int (iI en)), (3, .int (iI w))]) (st' := [.int (iI 1)]) rfl ?_
    refine T_iret xr_179_25 xf_179.2.2 (by decide) ?_
    refine hQ _ _ ?_
    exact ⟨(by rw [bI_t (show X_lt G of en w by unfold X_lt; first | exact Or.inl (by omega) | exact Or.inr (Or.inl (by omega)) | exact Or.inr (Or.inr (Or.inl (by assumption))) | exact Or.inr (Or.inr (Or.inr ⟨by omega, by omega⟩)))]), rfl⟩
  · skip
    have c590 : ¬ (en = 0) := c590
    refine T_p xr_179_15 xn_179 (pc' := 16) (ls' := [(4, .int (iI ((30 * b) + w))), (0, .ref 530), (1, .int (iI of)), (2, .int (iI en)), (3, .int (iI w))]) (st' := [.ref 530]) rfl ?_
    refine T_p xr_179_16 xn_179 (pc' := 18) (ls' := [(4, .int (iI ((30 * b) + w))), (0, .ref 530), (1, .int (iI of)), (2, .int (iI en)), (3, .int (iI w))]) (st' := [.int (iI ((30 * b) + w)), .ref 530]) rfl ?_
    refine T_cv (S := S) (q := 530) xr_179_18 xf_160.1 xf_160.2.1 xn_160 (as := [.int (iI ((30 * b) + w))]) (r := []) rfl hO530 (Nat.le_of_ble_eq_true rfl) (Nat.le_of_ble_eq_true rfl) (pc' := 21) rfl (ls' := [(0, .ref 530), (1, .int (iI ((30 * b) + w)))]) rfl ?_
    refine T_mono (r_ends2 sc S wM eP o nm b rc G tn w hO530 hA540 hA545 (by omega) hG hWM hEP (by omega)) (fun v591 S592 h593 => ?_)
    rcases h593 with ⟨hv594, hf595⟩
    rw [hv594]
    rw [hf595]
    have hen596 := X_en_r (gD G w) (gW G w)
    show X_T sc 179 (21, [(4, .int (iI ((30 * b) + w))), (0, .ref 530), (1, .int (iI of)), (2, .int (iI en)), (3, .int (iI w))], [.int (iI (X_en (gD G w) (gW G w)))], S) _
    refine T_zif_ne xr_179_21 (t := 26) (pc' := 24) rfl rfl (fun c597 => ?_) (fun c597 => ?_)
    · skip
      have c597 : ¬ (X_en (gD G w) (gW G w)) = 0 := c597
      have hof2 : of < gw G := by omega
      have hgo := hG.2.2.2 of hof.1 hof2
      have hro := hgo.2.2.2.1
      have hlo := hgo.2.2.2.2.1
      have hrw2 := hTG.2 of hof.1 hof2
      refine T_p xr_179_26 xn_179 (pc' := 28) (ls' := [(4, .int (iI ((30 * b) + w))), (0, .ref 530), (1, .int (iI of)), (2, .int (iI en)), (3, .int (iI w))]) (st' := [.int (iI 30)]) rfl ?_
      refine T_p xr_179_28 xn_179 (pc' := 29) (ls' := [(4, .int (iI ((30 * b) + w))), (0, .ref 530), (1, .int (iI of)), (2, .int (iI en)), (3, .int (iI w))]) (st' := [.ref 530, .int (iI 30)]) rfl ?_
      refine T_get xr_179_29 hO530 rfl (v := .int (iI b)) rfl (pc' := 32) rfl ?_
      refine T_zimul xr_179_32 (z := 30 * b) rfl (pc' := 33) rfl ?_
      refine T_p xr_179_33 xn_179 (pc' := 34) (ls' := [(4, .int (iI ((30 * b) + w))), (0, .ref 530), (1, .int (iI of)), (2, .int (iI en)), (3, .int (iI w))]) (st' := [.int (iI of), .int (iI (30 * b))]) rfl ?_
      refine T_ziadd xr_179_34 (z := (30 * b) + of) rfl (pc' := 35) rfl ?_
      refine T_p xr_179_35 xn_179 (pc' := 37) (ls' := [(5, .int (iI ((30 * b) + of))), (4, .int (iI ((30 * b) + w))), (0, .ref 530), (1, .int (iI of)), (2, .int (iI en)), (3, .int (iI w))]) (st' := []) rfl ?_
      refine T_p xr_179_37 xn_179 (pc' := 38) (ls' := [(5, .int (iI ((30 * b) + of))), (4, .int (iI ((30 * b) + w))), (0, .ref 530), (1, .int (iI of)), (2, .int (iI en)), (3, .int (iI w))]) (st' := [.ref 530]) rfl ?_
      refine T_p xr_179_38 xn_179 (pc' := 39) (ls' := [(5, .int (iI ((30 * b) + of))), (4, .int (iI ((30 * b) + w))), (0, .ref 530), (1, .int (iI of)), (2, .int (iI en)), (3, .int (iI w))]) (st' := [.ref 530, .ref 530]) rfl ?_
      refine T_get xr_179_39 hO530 rfl (v := .ref 537) rfl (pc' := 42) rfl ?_
      refine T_p xr_179_42 xn_179 (pc' := 44) (ls' := [(5, .int (iI ((30 * b) + of))), (4, .int (iI ((30 * b) + w))), (0, .ref 530), (1, .int (iI of)), (2, .int (iI en)), (3, .int (iI w))]) (st' := [.int (iI ((30 * b) + w)), .ref 537, .ref 530]) rfl ?_
      refine T_ziald xr_179_44 hA537 (pc' := 45) rfl ?_
      refine T_ie (y := iI (gD G w 0 0)) (by rw [hWR w (by omega) (by omega)]) ?_
      refine T_p xr_179_45 xn_179 (pc' := 46) (ls' := [(5, .int (iI ((30 * b) + of))), (4, .int (iI ((30 * b) + w))), (0, .ref 530), (1, .int (iI of)), (2, .int (iI en)), (3, .int (iI w))]) (st' := [.ref 530, .int (iI (gD G w 0 0)), .ref 530]) rfl ?_
      refine T_get xr_179_46 hO530 rfl (v := .ref 537) rfl (pc' := 49) rfl ?_
      refine T_p xr_179_49 xn_179 (pc' := 51) (ls' := [(5, .int (iI ((30 * b) + of))), (4, .int (iI ((30 * b) + w))), (0, .ref 530), (1, .int (iI of)), (2, .int (iI en)), (3, .int (iI w))]) (st' := [.int (iI ((30 * b) + of)), .ref 537, .int (iI (gD G w 0 0)), .ref 530]) rfl ?_
      refine T_ziald xr_179_51 hA537 (pc' := 52) rfl ?_
      refine T_ie (y := iI (gD G of 0 0)) (by rw [hWR of (by omega) (by omega)]) ?_
      refine T_cv (S := S) (q := 530) xr_179_52 xf_154.1 xf_154.2.1 xn_154 (as := [.int (iI (gD G w 0 0)), .int (iI (gD G of 0 0))]) (r := []) rfl hO530 (Nat.le_of_ble_eq_true rfl) (Nat.le_of_ble_eq_true rfl) (pc' := 55) rfl (ls' := [(0, .ref 530), (1, .int (iI (gD G w 0 0))), (2, .int (iI (gD G of 0 0)))]) rfl ?_
      refine T_p xr_154_0 xn_154 (pc' := 1) (ls' := [(0, .ref 530), (1, .int (iI (gD G w 0 0))), (2, .int (iI (gD G of 0 0)))]) (st' := [.ref 530]) rfl ?_
      refine T_get xr_154_1 hO530 rfl (v := .ref 535) rfl (pc' := 4) rfl ?_
      refine T_p xr_154_4 xn_154 (pc' := 7) (ls' := [(0, .ref 530), (1, .int (iI (gD G w 0 0))), (2, .int (iI (gD G of 0 0)))]) (st' := [.int (iI 144), .ref 535]) rfl ?_
      refine T_p xr_154_7 xn_154 (pc' := 8) (ls' := [(0, .ref 530), (1, .int (iI (gD G w 0 0))), (2, .int (iI (gD G of 0 0)))]) (st' := [.ref 530, .int (iI 144), .ref 535]) rfl ?_
      refine T_get xr_154_8 hO530 rfl (v := .int (iI b)) rfl (pc' := 11) rfl ?_
      refine T_zimul xr_154_11 (z := 144 * b) rfl (pc' := 12) rfl ?_
      refine T_p xr_154_12 xn_154 (pc' := 14) (ls' := [(0, .ref 530), (1, .int (iI (gD G w 0 0))), (2, .int (iI (gD G of 0 0)))]) (st' := [.int (iI 12), .int (iI (144 * b)), .ref 535]) rfl ?_
      refine T_p xr_154_14 xn_154 (pc' := 15) (ls' := [(0, .ref 530), (1, .int (iI (gD G w 0 0))), (2, .int (iI (gD G of 0 0)))]) (st' := [.int (iI (gD G w 0 0)), .int (iI 12), .int (iI (144 * b)), .ref 535]) rfl ?_
      refine T_zimul xr_154_15 (z := 12 * (gD G w 0 0)) rfl (pc' := 16) rfl ?_
      refine T_ziadd xr_154_16 (z := (144 * b) + (12 * (gD G w 0 0))) rfl (pc' := 17) rfl ?_
      refine T_p xr_154_17 xn_154 (pc' := 18) (ls' := [(0, .ref 530), (1, .int (iI (gD G w 0 0))), (2, .int (iI (gD G of 0 0)))]) (st' := [.int (iI (gD G of 0 0)), .int (iI ((144 * b) + (12 * (gD G w 0 0)))), .ref 535]) rfl ?_
      refine T_ziadd xr_154_18 (z := ((144 * b) + (12 * (gD G w 0 0))) + (gD G of 0 0)) rfl (pc' := 19) rfl ?_
      refine T_zzald xr_154_19 hA535 (pc' := 20) rfl ?_
      refine T_ie (y := iI (bI (X_bt (gl G (gD G w 0 0)) (gD G of 0 0)))) (congrArg iI (hTG.1 (gD G w 0 0) (gD G of 0 0) (by omega) hrw (by omega) hrw2)) ?_
      refine T_iret xr_154_20 xf_154.2.2 (X_fit_b _) ?_
      show X_T sc 179 (55, [(5, .int (iI ((30 * b) + of))), (4, .int (iI ((30 * b) + w))), (0, .ref 530), (1, .int (iI of)), (2, .int (iI en)), (3, .int (iI w))], [.int (iI (bI (X_bt (gl G (gD G w 0 0)) (gD G of 0 0))))], S) _
      refine T_bif_ne xr_179_55 (t := 86) (pc' := 58) rfl rfl (fun c598 => ?_) (fun c598 => ?_)
      · skip
        have c598 : (X_bt (gl G (gD G w 0 0)) (gD G of 0 0)) := c598
        refine T_p xr_179_86 xn_179 (pc' := 87) (ls' := [(5, .int (iI ((30 * b) + of))), (4, .int (iI ((30 * b) + w))), (0, .ref 530), (1, .int (iI of)), (2, .int (iI en)), (3, .int (iI w))]) (st' := [.int (iI 1)]) rfl ?_
        refine T_p xr_179_87 xn_179 (pc' := 91) (ls' := [(5, .int (iI ((30 * b) + of))), (4, .int (iI ((30 * b) + w))), (0, .ref 530), (1, .int (iI of)), (2, .int (iI en)), (3, .int (iI w))]) (st' := [.int (iI 1)]) rfl ?_
        refine T_iret xr_179_91 xf_179.2.2 (by decide) ?_
        refine hQ _ _ ?_
        exact ⟨(by rw [bI_t (show X_lt G of en w by unfold X_lt; first | exact Or.inl (by omega) | exact Or.inr (Or.inl (by omega)) | exact Or.inr (Or.inr (Or.inl (by assumption))) | exact Or.inr (Or.inr (Or.inr ⟨by omega, by omega⟩)))]), rfl⟩
      · skip
        have c598 : ¬ (X_bt (gl G (gD G w 0 0)) (gD G of 0 0)) := c598
        refine T_p xr_179_58 xn_179 (pc' := 59) (ls' := [(5, .int (iI ((30 * b) + of))), (4, .int (iI ((30 * b) + w))), (0, .ref 530), (1, .int (iI of)), (2, .int (iI en)), (3, .int (iI w))]) (st' := [.ref 530]) rfl ?_
        refine T_get xr_179_59 hO530 rfl (v := .ref 537) rfl (pc' := 62) rfl ?_
        refine T_p xr_179_62 xn_179 (pc' := 64) (ls' := [(5, .int (iI ((30 * b) + of))), (4, .int (iI ((30 * b) + w))), (0, .ref 530), (1, .int (iI of)), (2, .int (iI en)), (3, .int (iI w))]) (st' := [.int (iI ((30 * b) + w)), .ref 537]) rfl ?_
        refine T_ziald xr_179_64 hA537 (pc' := 65) rfl ?_
        refine T_ie (y := iI (gD G w 0 0)) (by rw [hWR w (by omega) (by omega)]) ?_
        refine T_p xr_179_65 xn_179 (pc' := 66) (ls' := [(5, .int (iI ((30 * b) + of))), (4, .int (iI ((30 * b) + w))), (0, .ref 530), (1, .int (iI of)), (2, .int (iI en)), (3, .int (iI w))]) (st' := [.ref 530, .int (iI (gD G w 0 0))]) rfl ?_
        refine T_get xr_179_66 hO530 rfl (v := .ref 537) rfl (pc' := 69) rfl ?_
        refine T_p xr_179_69 xn_179 (pc' := 71) (ls' := [(5, .int (iI ((30 * b) + of))), (4, .int (iI ((30 * b) + w))), (0, .ref 530), (1, .int (iI of)), (2, .int (iI en)), (3, .int (iI w))]) (st' := [.int (iI ((30 * b) + of)), .ref 537, .int (iI (gD G w 0 0))]) rfl ?_
        refine T_ziald xr_179_71 hA537 (pc' := 72) rfl ?_
        refine T_ie (y := iI (gD G of 0 0)) (by rw [hWR of (by omega) (by omega)]) ?_
        refine T_zicmp_ne xr_179_72 (t := 90) (pc' := 75) rfl rfl (fun c599 => ?_) (fun c599 => ?_)
        · skip
          have c599 : ¬ (gD G w 0 0) = (gD G of 0 0) := c599
          refine T_p xr_179_90 xn_179 (pc' := 91) (ls' := [(5, .int (iI ((30 * b) + of))), (4, .int (iI ((30 * b) + w))), (0, .ref 530), (1, .int (iI of)), (2, .int (iI en)), (3, .int (iI w))]) (st' := [.int (iI 0)]) rfl ?_
          refine T_iret xr_179_91 xf_179.2.2 (by decide) ?_
          refine hQ _ _ ?_
          exact ⟨(by rw [bI_f (show ¬ X_lt G of en w by unfold X_lt; rintro (h | h | h | ⟨h1, h2⟩) <;> first | omega | contradiction)]), rfl⟩
        · skip
          have c599 : ¬ (¬ (gD G w 0 0) = (gD G of 0 0)) := c599
          refine T_p xr_179_75 xn_179 (pc' := 76) (ls' := [(5, .int (iI ((30 * b) + of))), (4, .int (iI ((30 * b) + w))), (0, .ref 530), (1, .int (iI of)), (2, .int (iI en)), (3, .int (iI w))]) (st' := [.ref 530]) rfl ?_
          refine T_get xr_179_76 hO530 rfl (v := .ref 538) rfl (pc' := 79) rfl ?_
          refine T_p xr_179_79 xn_179 (pc' := 81) (ls' := [(5, .int (iI ((30 * b) + of))), (4, .int (iI ((30 * b) + w))), (0, .ref 530), (1, .int (iI of)), (2, .int (iI en)), (3, .int (iI w))]) (st' := [.int (iI ((30 * b) + of)), .ref 538]) rfl ?_
          refine T_ziald xr_179_81 hA538 (pc' := 82) rfl ?_
          refine T_ie (y := iI (gD G of 1 0)) (by rw [hWL of (by omega) (by omega)]) ?_
          refine T_p xr_179_82 xn_179 (pc' := 83) (ls' := [(5, .int (iI ((30 * b) + of))), (4, .int (iI ((30 * b) + w))), (0, .ref 530), (1, .int (iI of)), (2, .int (iI en)), (3, .int (iI w))]) (st' := [.int (iI en), .int (iI (gD G of 1 0))]) rfl ?_
          refine T_zicmp_ne xr_179_83 (t := 90) (pc' := 86) rfl rfl (fun c600 => ?_) (fun c600 => ?_)
          · skip
            have c600 : ¬ (gD G of 1 0) = en := c600
            refine T_p xr_179_90 xn_179 (pc' := 91) (ls' := [(5, .int (iI ((30 * b) + of))), (4, .int (iI ((30 * b) + w))), (0, .ref 530), (1, .int (iI of)), (2, .int (iI en)), (3, .int (iI w))]) (st' := [.int (iI 0)]) rfl ?_
            refine T_iret xr_179_91 xf_179.2.2 (by decide) ?_
            refine hQ _ _ ?_
            exact ⟨(by rw [bI_f (show ¬ X_lt G of en w by unfold X_lt; rintro (h | h | h | ⟨h1, h2⟩) <;> first | omega | contradiction)]), rfl⟩
          · skip
            have c600 : ¬ (¬ (gD G of 1 0) = en) := c600
            refine T_p xr_179_86 xn_179 (pc' := 87) (ls' := [(5, .int (iI ((30 * b) + of))), (4, .int (iI ((30 * b) + w))), (0, .ref 530), (1, .int (iI of)), (2, .int (iI en)), (3, .int (iI w))]) (st' := [.int (iI 1)]) rfl ?_
            refine T_p xr_179_87 xn_179 (pc' := 91) (ls' := [(5, .int (iI ((30 * b) + of))), (4, .int (iI ((30 * b) + w))), (0, .ref 530), (1, .int (iI of)), (2, .int (iI en)), (3, .int (iI w))]) (st' := [.int (iI 1)]) rfl ?_
            refine T_iret xr_179_91 xf_179.2.2 (by decide) ?_
            refine hQ _ _ ?_
            exact ⟨(by rw [bI_t (show X_lt G of en w by unfold X_lt; first | exact Or.inl (by omega) | exact Or.inr (Or.inl (by omega)) | exact Or.inr (Or.inr (Or.inl (by assumption))) | exact Or.inr (Or.inr (Or.inr ⟨by omega, by omega⟩)))]), rfl⟩
    · skip
      have c597 : ¬ (¬ (X_en (gD G w) (gW G w)) = 0) := c597
      refine T_p xr_179_24 xn_179 (pc' := 25) (ls' := [(4, .int (iI ((30 * b) + w))), (0, .ref 530), (1, .int (iI of)), (2, .int (iI en)), (3, .int (iI w))]) (st' := [.int (iI 1)]) rfl ?_
      refine T_iret xr_179_25 xf_179.2.2 (by decide) ?_
      refine hQ _ _ ?_
      exact ⟨(by rw [bI_t (show X_lt G of en w by unfold X_lt; first | exact Or.inl (by omega) | exact Or.inr (Or.inl (by omega)) | exact Or.inr (Or.inr (Or.inl (by assumption))) | exact Or.inr (Or.inr (Or.inr ⟨by omega, by omega⟩)))]), rfl⟩
theorem r_kindWays (sc : X_Sc) (S : X_S) (wK : Int → Int) (tU : Int → Int) (oW : Int → Int64) (oK : Int → Int64) (o : Nat → Int) (nm : Int64) (b : Int) (rc : Int) (G : X_G) (tn : Int) (x : Int) (i : Int) (j : Int) (hO530 : S.1 530 = .inr (11, [.ref 531, .int (iI (o 1)), .ref 532, .int (iI (o 3)), .int (iI b), .int (iI (o 5)), .int (iI (o 6)), .int (iI (o 7)), .int (iI (o 8)), .int (iI (o 9)), .int (iI (o 10)), .int (iI (o 11)), .long nm, .ref 533, .ref 534, .ref 535, .ref 536, .ref 537, .ref 538, .ref 539, .ref 540, .ref 541, .ref 542, .ref 543, .ref 544, .ref 545, .ref 546, .ref 547, .int (iI rc), .int (iI (gk G)), .int (iI (gw G)), .int (iI (o 31)), .int (iI (o 32)), .int (iI (o 33)), .ref 548, .ref 549, .ref 550, .ref 551, .int (iI tn), .ref 552, .ref 553, .ref 554, .ref 555, .ref 556, .ref 557, .ref 558, .ref 559, .ref 560, .ref 561, .int (iI (o 49)), .ref 562, .ref 563, .ref 564, .ref 565, .ref 566, .ref 567, .ref 568, .ref 569, .int (iI (o 58)), .ref 570, .ref 571, .ref 572, .ref 573, .ref 574, .ref 575, .ref 576, .ref 577, .ref 578, .int (iI (o 68)), .int (iI (o 69)), .int (iI (o 70)), .ref 579])) (hA539 : S.1 539 = .inl (.int, 60, .inl fun k : Nat => iI (wK (k : Int)))) (hA550 : S.1 550 = .inl (.int, 30, .inl fun k : Nat => iI (tU (k : Int)))) (hA552 : S.1 552 = .inl (.long, 28830, .inr (.inl fun k : Nat => oW (k : Int)))) (hA553 : S.1 553 = .inl (.long, 10571, .inr (.inl fun k : Nat => oK (k : Int)))) (hbr : 0 ≤ b ∧ b ≤ 1) (hG : X_Gok G) (htn : 0 ≤ tn ∧ tn ≤ 30) (hTU : ∀ t, 0 ≤ t → t < tn → tU t = X_nv (gt G t)) (hWK : ∀ w, 0 ≤ w → w < gw G → wK (30 * b + w) = gD G w 2 0) (hij : 0 ≤ i ∧ i < j ∧ j ≤ tn) (hx : 0 ≤ x ∧ x < gk G) (hBc : oK (961 * x + (31 * i + j)) = X_st (-1) ((X_T_ G).2 x i j)) (hWc : ∀ w, 0 ≤ w → w < gw G → oW (961 * w + (31 * i + j)) = X_st (-1) ((X_T_ G).1 w i j)) : X_T sc 177 (0, [(0, .ref 530), (1, .int (iI x)), (2, .int (iI i)), (3, .int (iI j))], [], S) (fun v S' => v = some (.long (X_st (-1) (X_Kd G (X_T_ G) x i j))) ∧ S' = S) := by
  have hnk : (1 < gk G → bI (1 < gk G) = 1) ∧ (¬ 1 < gk G → bI (1 < gk G) = 0) := ⟨fun z => bI_t z, fun z => bI_f z⟩
  have hkr := hG.2.1
  have hc1 := hG.1
  refine X_QI (fun Q hQ => ?_)
  refine T_p xr_177_0 xn_177 (pc' := 1) (ls' := [(0, .ref 530), (1, .int (iI x)), (2, .int (iI i)), (3, .int (iI j))]) (st' := [.int (iI i)]) rfl ?_
  refine T_p xr_177_1 xn_177 (pc' := 2) (ls' := [(0, .ref 530), (1, .int (iI x)), (2, .int (iI i)), (3, .int (iI j))]) (st' := [.int (iI j), .int (iI i)]) rfl ?_
  refine T_cs xr_177_2 (by decide) xf_173.1 xn_173 (as := [.int (iI i), .int (iI j)]) (r := []) rfl (Nat.le_of_ble_eq_true rfl) (Nat.le_of_ble_eq_true rfl) (pc' := 5) rfl (ls' := [(0, .int (iI i)), (1, .int (iI j))]) rfl ?_
  refine T_p xr_173_0 xn_173 (pc' := 2) (ls' := [(0, .int (iI i)), (1, .int (iI j))]) (st' := [.int (iI 31)]) rfl ?_
  refine T_p xr_173_2 xn_173 (pc' := 3) (ls' := [(0, .int (iI i)), (1, .int (iI j))]) (st' := [.int (iI i), .int (iI 31)]) rfl ?_
  refine T_zimul xr_173_3 (z := 31 * i) rfl (pc' := 4) rfl ?_
  refine T_p xr_173_4 xn_173 (pc' := 5) (ls' := [(0, .int (iI i)), (1, .int (iI j))]) (st' := [.int (iI j), .int (iI (31 * i))]) rfl ?_
  refine T_ziadd xr_173_5 (z := (31 * i) + j) rfl (pc' := 6) rfl ?_
  refine T_iret xr_173_6 xf_173.2.2 rfl ?_
  show X_T sc 177 (5, [(0, .ref 530), (1, .int (iI x)), (2, .int (iI i)), (3, .int (iI j))], [.int (iI ((31 * i) + j))], S) _
  refine T_p xr_177_5 xn_177 (pc' := 7) (ls' := [(4, .int (iI ((31 * i) + j))), (0, .ref 530), (1, .int (iI x)), (2, .int (iI i)), (3, .int (iI j))]) (st' := []) rfl ?_
  have J601 : X_T sc 177 (31, [(5, .long (X_st (-1) (X_nm G x i j))), (4, .int (iI ((31 * i) + j))), (0, .ref 530), (1, .int (iI x)), (2, .int (iI i)), (3, .int (iI j))], [], S) Q := by
    refine T_p xr_177_31 xn_177 (pc' := 33) (ls' := [(5, .long (X_st (-1) (X_nm G x i j))), (4, .int (iI ((31 * i) + j))), (0, .ref 530), (1, .int (iI x)), (2, .int (iI i)), (3, .int (iI j))]) (st' := [.long (X_st (-1) (X_nm G x i j))]) rfl ?_
    refine T_p xr_177_33 xn_177 (pc' := 34) (ls' := [(5, .long (X_st (-1) (X_nm G x i j))), (4, .int (iI ((31 * i) + j))), (0, .ref 530), (1, .int (iI x)), (2, .int (iI i)), (3, .int (iI j))]) (st' := [.ref 530, .long (X_st (-1) (X_nm G x i j))]) rfl ?_
    refine T_get xr_177_34 hO530 rfl (v := .ref 553) rfl (pc' := 37) rfl ?_
    refine T_p xr_177_37 xn_177 (pc' := 40) (ls' := [(5, .long (X_st (-1) (X_nm G x i j))), (4, .int (iI ((31 * i) + j))), (0, .ref 530), (1, .int (iI x)), (2, .int (iI i)), (3, .int (iI j))]) (st' := [.int (iI 961), .ref 553, .long (X_st (-1) (X_nm G x i j))]) rfl ?_
    refine T_p xr_177_40 xn_177 (pc' := 41) (ls' := [(5, .long (X_st (-1) (X_nm G x i j))), (4, .int (iI ((31 * i) + j))), (0, .ref 530), (1, .int (iI x)), (2, .int (iI i)), (3, .int (iI j))]) (st' := [.int (iI x), .int (iI 961), .ref 553, .long (X_st (-1) (X_nm G x i j))]) rfl ?_
    refine T_zimul xr_177_41 (z := 961 * x) rfl (pc' := 42) rfl ?_
    refine T_p xr_177_42 xn_177 (pc' := 44) (ls' := [(5, .long (X_st (-1) (X_nm G x i j))), (4, .int (iI ((31 * i) + j))), (0, .ref 530), (1, .int (iI x)), (2, .int (iI i)), (3, .int (iI j))]) (st' := [.int (iI ((31 * i) + j)), .int (iI (961 * x)), .ref 553, .long (X_st (-1) (X_nm G x i j))]) rfl ?_
    refine T_ziadd xr_177_44 (z := (961 * x) + ((31 * i) + j)) rfl (pc' := 45) rfl ?_
    refine T_zlald xr_177_45 hA553 (pc' := 46) rfl ?_
    refine T_le (y := (X_st (-1) ((X_T_ G).2 x i j))) hBc ?_
    refine T_cs xr_177_46 (by decide) xf_171.1 xn_171 (as := [.long (X_st (-1) (X_nm G x i j)), .long (X_st (-1) ((X_T_ G).2 x i j))]) (r := []) rfl (Nat.le_of_ble_eq_true rfl) (Nat.le_of_ble_eq_true rfl) (pc' := 49) rfl (ls' := [(0, .long (X_st (-1) (X_nm G x i j))), (2, .long (X_st (-1) ((X_T_ G).2 x i j)))]) rfl ?_
    refine T_mono (r_sum sc S (X_nm G x i j) ((X_T_ G).2 x i j)) (fun v602 S603 h604 => ?_)
    rcases h604 with ⟨hv605, hf606⟩
    rw [hv605]
    rw [hf606]
    show X_T sc 177 (49, [(5, .long (X_st (-1) (X_nm G x i j))), (4, .int (iI ((31 * i) + j))), (0, .ref 530), (1, .int (iI x)), (2, .int (iI i)), (3, .int (iI j))], [.long (X_st (-1) ((X_nm G x i j) + ((X_T_ G).2 x i j)))], S) _
    refine T_p xr_177_49 xn_177 (pc' := 51) (ls' := [(5, .long (X_st (-1) ((X_nm G x i j) + ((X_T_ G).2 x i j)))), (4, .int (iI ((31 * i) + j))), (0, .ref 530), (1, .int (iI x)), (2, .int (iI i)), (3, .int (iI j))]) (st' := []) rfl ?_
    refine T_p xr_177_51 xn_177 (pc' := 52) (ls' := [(5, .long (X_st (-1) ((X_nm G x i j) + ((X_T_ G).2 x i j)))), (4, .int (iI ((31 * i) + j))), (0, .ref 530), (1, .int (iI x)), (2, .int (iI i)), (3, .int (iI j))]) (st' := [.int (iI 0)]) rfl ?_
    refine T_p xr_177_52 xn_177 (pc' := 54) (ls' := [(7, .int (iI 0)), (5, .long (X_st (-1) ((X_nm G x i j) + ((X_T_ G).2 x i j)))), (4, .int (iI ((31 * i) + j))), (0, .ref 530), (1, .int (iI x)), (2, .int (iI i)), (3, .int (iI j))]) (st' := []) rfl ?_
    have L607 : ∀ (m609 : Nat) (w : Int) (su : Nat) (hw : 0 ≤ w ∧ w ≤ gw G) (hsu : su = X_nm G x i j + (X_T_ G).2 x i j + X_Su (fun v => X_if (gD G v 2 0 = x) ((X_T_ G).1 v i j)) 0 w) (hm610 : gw G - w < m609), X_T sc 177 (54, [(7, .int (iI w)), (5, .long (X_st (-1) su)), (4, .int (iI (31 * i + j))), (0, .ref 530), (1, .int (iI x)), (2, .int (iI i)), (3, .int (iI j))], [], S) Q := by
      intro m609
      induction m609 with
      | zero =>
        intro w su hw hsu hm610
        exact (show False by omega).elim
      | succ m609 ih608 =>
        intro w su hw hsu hm610
        refine T_p xr_177_54 xn_177 (pc' := 56) (ls' := [(7, .int (iI w)), (5, .long (X_st (-1) su)), (4, .int (iI (31 * i + j))), (0, .ref 530), (1, .int (iI x)), (2, .int (iI i)), (3, .int (iI j))]) (st' := [.int (iI w)]) rfl ?_
        refine T_p xr_177_56 xn_177 (pc' := 57) (ls' := [(7, .int (iI w)), (5, .long (X_st (-1) su)), (4, .int (iI (31 * i + j))), (0, .ref 530), (1, .int (iI x)), (2, .int (iI i)), (3, .int (iI j))]) (st' := [.ref 530, .int (iI w)]) rfl ?_
        refine T_get xr_177_57 hO530 rfl (v := .int (iI (gw G))) rfl (pc' := 60) rfl ?_
        refine T_zicmp_ge xr_177_60 (t := 109) (pc' := 63) rfl rfl (fun c612 => ?_) (fun c612 => ?_)
        · skip
          have c612 : (gw G) ≤ w := c612
          refine T_p xr_177_109 xn_177 (pc' := 111) (ls' := [(7, .int (iI w)), (5, .long (X_st (-1) su)), (4, .int (iI (31 * i + j))), (0, .ref 530), (1, .int (iI x)), (2, .int (iI i)), (3, .int (iI j))]) (st' := [.long (X_st (-1) su)]) rfl ?_
          refine T_lret xr_177_111 xf_177.2.2 rfl ?_
          refine hQ _ _ ?_
          exact ⟨(by rw [hsu, show w = gw G by omega]; rfl), rfl⟩
        · skip
          have c612 : ¬ ((gw G) ≤ w) := c612
          refine T_p xr_177_63 xn_177 (pc' := 64) (ls' := [(7, .int (iI w)), (5, .long (X_st (-1) su)), (4, .int (iI (31 * i + j))), (0, .ref 530), (1, .int (iI x)), (2, .int (iI i)), (3, .int (iI j))]) (st' := [.ref 530]) rfl ?_
          refine T_get xr_177_64 hO530 rfl (v := .ref 539) rfl (pc' := 67) rfl ?_
          refine T_p xr_177_67 xn_177 (pc' := 69) (ls' := [(7, .int (iI w)), (5, .long (X_st (-1) su)), (4, .int (iI (31 * i + j))), (0, .ref 530), (1, .int (iI x)), (2, .int (iI i)), (3, .int (iI j))]) (st' := [.int (iI 30), .ref 539]) rfl ?_
          refine T_p xr_177_69 xn_177 (pc' := 70) (ls' := [(7, .int (iI w)), (5, .long (X_st (-1) su)), (4, .int (iI (31 * i + j))), (0, .ref 530), (1, .int (iI x)), (2, .int (iI i)), (3, .int (iI j))]) (st' := [.ref 530, .int (iI 30), .ref 539]) rfl ?_
          refine T_get xr_177_70 hO530 rfl (v := .int (iI b)) rfl (pc' := 73) rfl ?_
          refine T_zimul xr_177_73 (z := 30 * b) rfl (pc' := 74) rfl ?_
          refine T_p xr_177_74 xn_177 (pc' := 76) (ls' := [(7, .int (iI w)), (5, .long (X_st (-1) su)), (4, .int (iI (31 * i + j))), (0, .ref 530), (1, .int (iI x)), (2, .int (iI i)), (3, .int (iI j))]) (st' := [.int (iI w), .int (iI (30 * b)), .ref 539]) rfl ?_
          refine T_ziadd xr_177_76 (z := (30 * b) + w) rfl (pc' := 77) rfl ?_
          refine T_ziald xr_177_77 hA539 (pc' := 78) rfl ?_
          have hkv := hG.kd w (by omega) (by omega)
          refine T_ie (y := iI (gD G w 2 0)) (by rw [hWK w (by omega) (by omega)]) ?_
          refine T_p xr_177_78 xn_177 (pc' := 79) (ls' := [(7, .int (iI w)), (5, .long (X_st (-1) su)), (4, .int (iI (31 * i + j))), (0, .ref 530), (1, .int (iI x)), (2, .int (iI i)), (3, .int (iI j))]) (st' := [.int (iI x), .int (iI (gD G w 2 0))]) rfl ?_
          refine T_zicmp_ne xr_177_79 (t := 103) (pc' := 82) rfl rfl (fun c613 => ?_) (fun c613 => ?_)
          · skip
            have c613 : ¬ (gD G w 2 0) = x := c613
            refine T_ziinc xr_177_103 xn_177 (a := w) (z := w + 1) rfl (Nat.le_of_ble_eq_true rfl) (by omega) (ls' := [(7, .int (iI (w + 1))), (5, .long (X_st (-1) su)), (4, .int (iI (31 * i + j))), (0, .ref 530), (1, .int (iI x)), (2, .int (iI i)), (3, .int (iI j))]) rfl (pc' := 106) rfl ?_
            refine T_p xr_177_106 xn_177 (pc' := 54) (ls' := [(7, .int (iI (w + 1))), (5, .long (X_st (-1) su)), (4, .int (iI (31 * i + j))), (0, .ref 530), (1, .int (iI x)), (2, .int (iI i)), (3, .int (iI j))]) (st' := []) rfl ?_
            exact ih608 (w + 1) su  (by omega) (by first | exact ((X_Su_if (p := fun v => gD G v 2 0 = x) (f := fun v => (X_T_ G).1 v i j) (show (0 : Int) ≤ w by omega)).1 (by omega)).symm ▸ (by rw [hsu, Nat.add_assoc]) | exact ((X_Su_if (p := fun v => gD G v 2 0 = x) (f := fun v => (X_T_ G).1 v i j) (show (0 : Int) ≤ w by omega)).2 (by omega)).symm ▸ hsu) (by omega)
          · skip
            have c613 : ¬ (¬ (gD G w 2 0) = x) := c613
            refine T_p xr_177_82 xn_177 (pc' := 84) (ls' := [(7, .int (iI w)), (5, .long (X_st (-1) su)), (4, .int (iI (31 * i + j))), (0, .ref 530), (1, .int (iI x)), (2, .int (iI i)), (3, .int (iI j))]) (st' := [.long (X_st (-1) su)]) rfl ?_
            refine T_p xr_177_84 xn_177 (pc' := 85) (ls' := [(7, .int (iI w)), (5, .long (X_st (-1) su)), (4, .int (iI (31 * i + j))), (0, .ref 530), (1, .int (iI x)), (2, .int (iI i)), (3, .int (iI j))]) (st' := [.ref 530, .long (X_st (-1) su)]) rfl ?_
            refine T_get xr_177_85 hO530 rfl (v := .ref 552) rfl (pc' := 88) rfl ?_
            refine T_p xr_177_88 xn_177 (pc' := 91) (ls' := [(7, .int (iI w)), (5, .long (X_st (-1) su)), (4, .int (iI (31 * i + j))), (0, .ref 530), (1, .int (iI x)), (2, .int (iI i)), (3, .int (iI j))]) (st' := [.int (iI 961), .ref 552, .long (X_st (-1) su)]) rfl ?_
            refine T_p xr_177_91 xn_177 (pc' := 93) (ls' := [(7, .int (iI w)), (5, .long (X_st (-1) su)), (4, .int (iI (31 * i + j))), (0, .ref 530), (1, .int (iI x)), (2, .int (iI i)), (3, .int (iI j))]) (st' := [.int (iI w), .int (iI 961), .ref 552, .long (X_st (-1) su)]) rfl ?_
            refine T_zimul xr_177_93 (z := 961 * w) rfl (pc' := 94) rfl ?_
            refine T_p xr_177_94 xn_177 (pc' := 96) (ls' := [(7, .int (iI w)), (5, .long (X_st (-1) su)), (4, .int (iI (31 * i + j))), (0, .ref 530), (1, .int (iI x)), (2, .int (iI i)), (3, .int (iI j))]) (st' := [.int (iI (31 * i + j)), .int (iI (961 * w)), .ref 552, .long (X_st (-1) su)]) rfl ?_
            refine T_ziadd xr_177_96 (z := (961 * w) + (31 * i + j)) rfl (pc' := 97) rfl ?_
            refine T_zlald xr_177_97 hA552 (pc' := 98) rfl ?_
            refine T_le (y := (X_st (-1) ((X_T_ G).1 w i j))) (hWc w (by omega) (by omega)) ?_
            refine T_cs xr_177_98 (by decide) xf_171.1 xn_171 (as := [.long (X_st (-1) su), .long (X_st (-1) ((X_T_ G).1 w i j))]) (r := []) rfl (Nat.le_of_ble_eq_true rfl) (Nat.le_of_ble_eq_true rfl) (pc' := 101) rfl (ls' := [(0, .long (X_st (-1) su)), (2, .long (X_st (-1) ((X_T_ G).1 w i j)))]) rfl ?_
            refine T_mono (r_sum sc S su ((X_T_ G).1 w i j)) (fun v614 S615 h616 => ?_)
            rcases h616 with ⟨hv617, hf618⟩
            rw [hv617]
            rw [hf618]
            show X_T sc 177 (101, [(7, .int (iI w)), (5, .long (X_st (-1) su)), (4, .int (iI (31 * i + j))), (0, .ref 530), (1, .int (iI x)), (2, .int (iI i)), (3, .int (iI j))], [.long (X_st (-1) (su + ((X_T_ G).1 w i j)))], S) _
            refine T_p xr_177_101 xn_177 (pc' := 103) (ls' := [(5, .long (X_st (-1) (su + ((X_T_ G).1 w i j)))), (7, .int (iI w)), (4, .int (iI (31 * i + j))), (0, .ref 530), (1, .int (iI x)), (2, .int (iI i)), (3, .int (iI j))]) (st' := []) rfl ?_
            refine T_ziinc xr_177_103 xn_177 (a := w) (z := w + 1) rfl (Nat.le_of_ble_eq_true rfl) (by omega) (ls' := [(7, .int (iI (w + 1))), (5, .long (X_st (-1) (su + ((X_T_ G).1 w i j)))), (4, .int (iI (31 * i + j))), (0, .ref 530), (1, .int (iI x)), (2, .int (iI i)), (3, .int (iI j))]) rfl (pc' := 106) rfl ?_
            refine T_p xr_177_106 xn_177 (pc' := 54) (ls' := [(7, .int (iI (w + 1))), (5, .long (X_st (-1) (su + ((X_T_ G).1 w i j)))), (4, .int (iI (31 * i + j))), (0, .ref 530), (1, .int (iI x)), (2, .int (iI i)), (3, .int (iI j))]) (st' := []) rfl ?_
            exact ih608 (w + 1) (su + ((X_T_ G).1 w i j))  (by omega) (by first | exact ((X_Su_if (p := fun v => gD G v 2 0 = x) (f := fun v => (X_T_ G).1 v i j) (show (0 : Int) ≤ w by omega)).1 (by omega)).symm ▸ (by rw [hsu, Nat.add_assoc]) | exact ((X_Su_if (p := fun v => gD G v 2 0 = x) (f := fun v => (X_T_ G).1 v i j) (show (0 : Int) ≤ w by omega)).2 (by omega)).symm ▸ hsu) (by omega)
    exact L607 ((gw G) + 1).toNat 0 (X_nm G x i j + (X_T_ G).2 x i j)  (by omega) (by rw [X_Su_e (Int.le_refl 0)]; rfl) (by omega)
  refine T_p xr_177_7 xn_177 (pc' := 8) (ls' := [(4, .int (iI ((31 * i) + j))), (0, .ref 530), (1, .int (iI x)), (2, .int (iI i)), (3, .int (iI j))]) (st' := [.ref 530]) rfl ?_
  refine T_p xr_177_8 xn_177 (pc' := 9) (ls' := [(4, .int (iI ((31 * i) + j))), (0, .ref 530), (1, .int (iI x)), (2, .int (iI i)), (3, .int (iI j))]) (st' := [.int (iI i), .ref 530]) rfl ?_
  refine T_p xr_177_9 xn_177 (pc' := 10) (ls' := [(4, .int (iI ((31 * i) + j))), (0, .ref 530), (1, .int (iI x)), (2, .int (iI i)), (3, .int (iI j))]) (st' := [.int (iI j), .int (iI i), .ref 530]) rfl ?_
  refine T_cv (S := S) (q := 530) xr_177_10 xf_176.1 xf_176.2.1 xn_176 (as := [.int (iI i), .int (iI j)]) (r := []) rfl hO530 (Nat.le_of_ble_eq_true rfl) (Nat.le_of_ble_eq_true rfl) (pc' := 13) rfl (ls' := [(0, .ref 530), (1, .int (iI i)), (2, .int (iI j))]) rfl ?_
  refine T_mono (r_isNumber sc S tU o nm b rc G tn i j hO530 hA550 (by omega) hTU (by omega)) (fun v619 S620 h621 => ?_)
  rcases h621 with ⟨hv622, hf623⟩
  rw [hv622]
  rw [hf623]
  show X_T sc 177 (13, [(4, .int (iI ((31 * i) + j))), (0, .ref 530), (1, .int (iI x)), (2, .int (iI i)), (3, .int (iI j))], [.int (iI (bI (j = i + 1 ∧ 0 ≤ X_nv (gt G i))))], S) _
  refine T_bif_eq xr_177_13 (t := 28) (pc' := 16) rfl rfl (fun c624 => ?_) (fun c624 => ?_)
  · skip
    have c624 : ¬ (j = i + 1 ∧ 0 ≤ X_nv (gt G i)) := c624
    refine T_p xr_177_28 xn_177 (pc' := 29) (ls' := [(4, .int (iI ((31 * i) + j))), (0, .ref 530), (1, .int (iI x)), (2, .int (iI i)), (3, .int (iI j))]) (st' := [.long (iL 0)]) rfl ?_
    refine T_le (y := (X_st (-1) (X_nm G x i j))) (by rw [show X_nm G x i j = 0 from X_if_f (fun z => by obtain ⟨z1, z2, z3⟩ := z; omega)]; rfl) ?_
    refine T_p xr_177_29 xn_177 (pc' := 31) (ls' := [(5, .long (X_st (-1) (X_nm G x i j))), (4, .int (iI ((31 * i) + j))), (0, .ref 530), (1, .int (iI x)), (2, .int (iI i)), (3, .int (iI j))]) (st' := []) rfl ?_
    exact J601
  · skip
    have c624 : (j = i + 1 ∧ 0 ≤ X_nv (gt G i)) := c624
    refine T_p xr_177_16 xn_177 (pc' := 17) (ls' := [(4, .int (iI ((31 * i) + j))), (0, .ref 530), (1, .int (iI x)), (2, .int (iI i)), (3, .int (iI j))]) (st' := [.ref 530]) rfl ?_
    refine T_cv (S := S) (q := 530) xr_177_17 xf_174.1 xf_174.2.1 xn_174 (as := []) (r := []) rfl hO530 (Nat.le_of_ble_eq_true rfl) (Nat.le_of_ble_eq_true rfl) (pc' := 20) rfl (ls' := [(0, .ref 530)]) rfl ?_
    refine T_p xr_174_0 xn_174 (pc' := 1) (ls' := [(0, .ref 530)]) (st' := [.ref 530]) rfl ?_
    refine T_get xr_174_1 hO530 rfl (v := .int (iI (gk G))) rfl (pc' := 4) rfl ?_
    refine T_p xr_174_4 xn_174 (pc' := 5) (ls' := [(0, .ref 530)]) (st' := [.int (iI 1), .int (iI (gk G))]) rfl ?_
    refine T_zicmp_le xr_174_5 (t := 12) (pc' := 8) rfl rfl (fun c625 => ?_) (fun c625 => ?_)
    · skip
      have c625 : (gk G) ≤ 1 := c625
      refine T_p xr_174_12 xn_174 (pc' := 13) (ls' := [(0, .ref 530)]) (st' := [.int (iI 0)]) rfl ?_
      refine T_iret xr_174_13 xf_174.2.2 rfl ?_
      show X_T sc 177 (20, [(4, .int (iI ((31 * i) + j))), (0, .ref 530), (1, .int (iI x)), (2, .int (iI i)), (3, .int (iI j))], [.int (iI 0)], S) _
      refine T_p xr_177_20 xn_177 (pc' := 21) (ls' := [(4, .int (iI ((31 * i) + j))), (0, .ref 530), (1, .int (iI x)), (2, .int (iI i)), (3, .int (iI j))]) (st' := [.int (iI x), .int (iI 0)]) rfl ?_
      refine T_zicmp_ne xr_177_21 (t := 28) (pc' := 24) rfl rfl (fun c626 => ?_) (fun c626 => ?_)
      · skip
        have c626 : ¬ 0 = x := c626
        refine T_p xr_177_28 xn_177 (pc' := 29) (ls' := [(4, .int (iI ((31 * i) + j))), (0, .ref 530), (1, .int (iI x)), (2, .int (iI i)), (3, .int (iI j))]) (st' := [.long (iL 0)]) rfl ?_
        refine T_le (y := (X_st (-1) (X_nm G x i j))) (by rw [show X_nm G x i j = 0 from X_if_f (fun z => by obtain ⟨z1, z2, z3⟩ := z; omega)]; rfl) ?_
        refine T_p xr_177_29 xn_177 (pc' := 31) (ls' := [(5, .long (X_st (-1) (X_nm G x i j))), (4, .int (iI ((31 * i) + j))), (0, .ref 530), (1, .int (iI x)), (2, .int (iI i)), (3, .int (iI j))]) (st' := []) rfl ?_
        exact J601
      · skip
        have c626 : ¬ (¬ 0 = x) := c626
        refine T_p xr_177_24 xn_177 (pc' := 25) (ls' := [(4, .int (iI ((31 * i) + j))), (0, .ref 530), (1, .int (iI x)), (2, .int (iI i)), (3, .int (iI j))]) (st' := [.long (iL 1)]) rfl ?_
        refine T_p xr_177_25 xn_177 (pc' := 29) (ls' := [(4, .int (iI ((31 * i) + j))), (0, .ref 530), (1, .int (iI x)), (2, .int (iI i)), (3, .int (iI j))]) (st' := [.long (iL 1)]) rfl ?_
        refine T_le (y := (X_st (-1) (X_nm G x i j))) (by rw [show X_nm G x i j = 1 from X_if_t ⟨by omega, by omega, by omega⟩]; rfl) ?_
        refine T_p xr_177_29 xn_177 (pc' := 31) (ls' := [(5, .long (X_st (-1) (X_nm G x i j))), (4, .int (iI ((31 * i) + j))), (0, .ref 530), (1, .int (iI x)), (2, .int (iI i)), (3, .int (iI j))]) (st' := []) rfl ?_
        exact J601
    · skip
      have c625 : ¬ ((gk G) ≤ 1) := c625
      refine T_p xr_174_8 xn_174 (pc' := 9) (ls' := [(0, .ref 530)]) (st' := [.int (iI 1)]) rfl ?_
      refine T_p xr_174_9 xn_174 (pc' := 13) (ls' := [(0, .ref 530)]) (st' := [.int (iI 1)]) rfl ?_
      refine T_iret xr_174_13 xf_174.2.2 rfl ?_
      show X_T sc 177 (20, [(4, .int (iI ((31 * i) + j))), (0, .ref 530), (1, .int (iI x)), (2, .int (iI i)), (3, .int (iI j))], [.int (iI 1)], S) _
      refine T_p xr_177_20 xn_177 (pc' := 21) (ls' := [(4, .int (iI ((31 * i) + j))), (0, .ref 530), (1, .int (iI x)), (2, .int (iI i)), (3, .int (iI j))]) (st' := [.int (iI x), .int (iI 1)]) rfl ?_
      refine T_zicmp_ne xr_177_21 (t := 28) (pc' := 24) rfl rfl (fun c627 => ?_) (fun c627 => ?_)
      · skip
        have c627 : ¬ 1 = x := c627
        refine T_p xr_177_28 xn_177 (pc' := 29) (ls' := [(4, .int (iI ((31 * i) + j))), (0, .ref 530), (1, .int (iI x)), (2, .int (iI i)), (3, .int (iI j))]) (st' := [.long (iL 0)]) rfl ?_
        refine T_le (y := (X_st (-1) (X_nm G x i j))) (by rw [show X_nm G x i j = 0 from X_if_f (fun z => by obtain ⟨z1, z2, z3⟩ := z; omega)]; rfl) ?_
        refine T_p xr_177_29 xn_177 (pc' := 31) (ls' := [(5, .long (X_st (-1) (X_nm G x i j))), (4, .int (iI ((31 * i) + j))), (0, .ref 530), (1, .int (iI x)), (2, .int (iI i)), (3, .int (iI j))]) (st' := []) rfl ?_
        exact J601
      · skip
        have c627 : ¬ (¬ 1 = x) := c627
        refine T_p xr_177_24 xn_177 (pc' := 25) (ls' := [(4, .int (iI ((31 * i) + j))), (0, .ref 530), (1, .int (iI x)), (2, .int (iI i)), (3, .int (iI j))]) (st' := [.long (iL 1)]) rfl ?_
        refine T_p xr_177_25 xn_177 (pc' := 29) (ls' := [(4, .int (iI ((31 * i) + j))), (0, .ref 530), (1, .int (iI x)), (2, .int (iI i)), (3, .int (iI j))]) (st' := [.long (iL 1)]) rfl ?_
        refine T_le (y := (X_st (-1) (X_nm G x i j))) (by rw [show X_nm G x i j = 1 from X_if_t ⟨by omega, by omega, by omega⟩]; rfl) ?_
        refine T_p xr_177_29 xn_177 (pc' := 31) (ls' := [(5, .long (X_st (-1) (X_nm G x i j))), (4, .int (iI ((31 * i) + j))), (0, .ref 530), (1, .int (iI x)), (2, .int (iI i)), (3, .int (iI j))]) (st' := []) rfl ?_
        exact J601
theorem r_allWays (sc : X_Sc) (S : X_S) (wK : Int → Int) (tU : Int → Int) (oW : Int → Int64) (oK : Int → Int64) (o : Nat → Int) (nm : Int64) (b : Int) (rc : Int) (G : X_G) (tn : Int) (i : Int) (j : Int) (hO530 : S.1 530 = .inr (11, [.ref 531, .int (iI (o 1)), .ref 532, .int (iI (o 3)), .int (iI b), .int (iI (o 5)), .int (iI (o 6)), .int (iI (o 7)), .int (iI (o 8)), .int (iI (o 9)), .int (iI (o 10)), .int (iI (o 11)), .long nm, .ref 533, .ref 534, .ref 535, .ref 536, .ref 537, .ref 538, .ref 539, .ref 540, .ref 541, .ref 542, .ref 543, .ref 544, .ref 545, .ref 546, .ref 547, .int (iI rc), .int (iI (gk G)), .int (iI (gw G)), .int (iI (o 31)), .int (iI (o 32)), .int (iI (o 33)), .ref 548, .ref 549, .ref 550, .ref 551, .int (iI tn), .ref 552, .ref 553, .ref 554, .ref 555, .ref 556, .ref 557, .ref 558, .ref 559, .ref 560, .ref 561, .int (iI (o 49)), .ref 562, .ref 563, .ref 564, .ref 565, .ref 566, .ref 567, .ref 568, .ref 569, .int (iI (o 58)), .ref 570, .ref 571, .ref 572, .ref 573, .ref 574, .ref 575, .ref 576, .ref 577, .ref 578, .int (iI (o 68)), .int (iI (o 69)), .int (iI (o 70)), .ref 579])) (hA539 : S.1 539 = .inl (.int, 60, .inl fun k : Nat => iI (wK (k : Int)))) (hA550 : S.1 550 = .inl (.int, 30, .inl fun k : Nat => iI (tU (k : Int)))) (hA552 : S.1 552 = .inl (.long, 28830, .inr (.inl fun k : Nat => oW (k : Int)))) (hA553 : S.1 553 = .inl (.long, 10571, .inr (.inl fun k : Nat => oK (k : Int)))) (hbr : 0 ≤ b ∧ b ≤ 1) (hG : X_Gok G) (htn : 0 ≤ tn ∧ tn ≤ 30) (hTU : ∀ t, 0 ≤ t → t < tn → tU t = X_nv (gt G t)) (hWK : ∀ w, 0 ≤ w → w < gw G → wK (30 * b + w) = gD G w 2 0) (hij : 0 ≤ i ∧ i < j ∧ j ≤ tn) (hBa : ∀ x, 0 ≤ x → x < gk G → oK (961 * x + (31 * i + j)) = X_st (-1) ((X_T_ G).2 x i j)) (hWc : ∀ w, 0 ≤ w → w < gw G → oW (961 * w + (31 * i + j)) = X_st (-1) ((X_T_ G).1 w i j)) : X_T sc 182 (0, [(0, .ref 530), (1, .int (iI i)), (2, .int (iI j))], [], S) (fun v S' => v = some (.long (X_st (-1) (X_all G i j))) ∧ S' = S) := by
  have hnk : (1 < gk G → bI (1 < gk G) = 1) ∧ (¬ 1 < gk G → bI (1 < gk G) = 0) := ⟨fun z => bI_t z, fun z => bI_f z⟩
  have hkr := hG.2.1
  have hc1 := hG.1
  refine X_QI (fun Q hQ => ?_)
  refine T_p xr_182_0 xn_182 (pc' := 1) (ls' := [(0, .ref 530), (1, .int (iI i)), (2, .int (iI j))]) (st' := [.long (iL 0)]) rfl ?_
  refine T_p xr_182_1 xn_182 (pc' := 2) (ls' := [(3, .long (iL 0)), (0, .ref 530), (1, .int (iI i)), (2, .int (iI j))]) (st' := []) rfl ?_
  refine T_p xr_182_2 xn_182 (pc' := 3) (ls' := [(3, .long (iL 0)), (0, .ref 530), (1, .int (iI i)), (2, .int (iI j))]) (st' := [.int (iI 0)]) rfl ?_
  refine T_p xr_182_3 xn_182 (pc' := 5) (ls' := [(5, .int (iI 0)), (3, .long (iL 0)), (0, .ref 530), (1, .int (iI i)), (2, .int (iI j))]) (st' := []) rfl ?_
  have L628 : ∀ (m630 : Nat) (x : Int) (su : Nat) (hx : 0 ≤ x ∧ x ≤ gk G) (hsu : su = X_Su (fun k => X_Kd G (X_T_ G) k i j) 0 x) (hm631 : gk G - x < m630), X_T sc 182 (5, [(5, .int (iI x)), (3, .long (X_st (-1) su)), (0, .ref 530), (1, .int (iI i)), (2, .int (iI j))], [], S) Q := by
    intro m630
    induction m630 with
    | zero =>
      intro x su hx hsu hm631
      exact (show False by omega).elim
    | succ m630 ih629 =>
      intro x su hx hsu hm631
      refine T_p xr_182_5 xn_182 (pc' := 7) (ls' := [(5, .int (iI x)), (3, .long (X_st (-1) su)), (0, .ref 530), (1, .int (iI i)), (2, .int (iI j))]) (st' := [.int (iI x)]) rfl ?_
      refine T_p xr_182_7 xn_182 (pc' := 8) (ls' := [(5, .int (iI x)), (3, .long (X_st (-1) su)), (0, .ref 530), (1, .int (iI i)), (2, .int (iI j))]) (st' := [.ref 530, .int (iI x)]) rfl ?_
      refine T_get xr_182_8 hO530 rfl (v := .int (iI (gk G))) rfl (pc' := 11) rfl ?_
      refine T_zicmp_ge xr_182_11 (t := 33) (pc' := 14) rfl rfl (fun c633 => ?_) (fun c633 => ?_)
      · skip
        have c633 : (gk G) ≤ x := c633
        refine T_p xr_182_33 xn_182 (pc' := 34) (ls' := [(5, .int (iI x)), (3, .long (X_st (-1) su)), (0, .ref 530), (1, .int (iI i)), (2, .int (iI j))]) (st' := [.long (X_st (-1) su)]) rfl ?_
        refine T_lret xr_182_34 xf_182.2.2 rfl ?_
        refine hQ _ _ ?_
        exact ⟨(by rw [hsu, show x = gk G by omega]; rfl), rfl⟩
      · skip
        have c633 : ¬ ((gk G) ≤ x) := c633
        refine T_p xr_182_14 xn_182 (pc' := 15) (ls' := [(5, .int (iI x)), (3, .long (X_st (-1) su)), (0, .ref 530), (1, .int (iI i)), (2, .int (iI j))]) (st' := [.long (X_st (-1) su)]) rfl ?_
        refine T_p xr_182_15 xn_182 (pc' := 16) (ls' := [(5, .int (iI x)), (3, .long (X_st (-1) su)), (0, .ref 530), (1, .int (iI i)), (2, .int (iI j))]) (st' := [.ref 530, .long (X_st (-1) su)]) rfl ?_
        refine T_p xr_182_16 xn_182 (pc' := 18) (ls' := [(5, .int (iI x)), (3, .long (X_st (-1) su)), (0, .ref 530), (1, .int (iI i)), (2, .int (iI j))]) (st' := [.int (iI x), .ref 530, .long (X_st (-1) su)]) rfl ?_
        refine T_p xr_182_18 xn_182 (pc' := 19) (ls' := [(5, .int (iI x)), (3, .long (X_st (-1) su)), (0, .ref 530), (1, .int (iI i)), (2, .int (iI j))]) (st' := [.int (iI i), .int (iI x), .ref 530, .long (X_st (-1) su)]) rfl ?_
        refine T_p xr_182_19 xn_182 (pc' := 20) (ls' := [(5, .int (iI x)), (3, .long (X_st (-1) su)), (0, .ref 530), (1, .int (iI i)), (2, .int (iI j))]) (st' := [.int (iI j), .int (iI i), .int (iI x), .ref 530, .long (X_st (-1) su)]) rfl ?_
        refine T_cv (S := S) (q := 530) xr_182_20 xf_177.1 xf_177.2.1 xn_177 (as := [.int (iI x), .int (iI i), .int (iI j)]) (r := [.long (X_st (-1) su)]) rfl hO530 (Nat.le_of_ble_eq_true rfl) (Nat.le_of_ble_eq_true rfl) (pc' := 23) rfl (ls' := [(0, .ref 530), (1, .int (iI x)), (2, .int (iI i)), (3, .int (iI j))]) rfl ?_
        refine T_mono (r_kindWays sc S wK tU oW oK o nm b rc G tn x i j hO530 hA539 hA550 hA552 hA553 (by omega) hG (by omega) hTU hWK (by omega) (by omega) (hBa x (by omega) (by omega)) hWc) (fun v634 S635 h636 => ?_)
        rcases h636 with ⟨hv637, hf638⟩
        rw [hv637]
        rw [hf638]
        show X_T sc 182 (23, [(5, .int (iI x)), (3, .long (X_st (-1) su)), (0, .ref 530), (1, .int (iI i)), (2, .int (iI j))], [.long (X_st (-1) (X_Kd G (X_T_ G) x i j)), .long (X_st (-1) su)], S) _
        refine T_cs xr_182_23 (by decide) xf_171.1 xn_171 (as := [.long (X_st (-1) su), .long (X_st (-1) (X_Kd G (X_T_ G) x i j))]) (r := []) rfl (Nat.le_of_ble_eq_true rfl) (Nat.le_of_ble_eq_true rfl) (pc' := 26) rfl (ls' := [(0, .long (X_st (-1) su)), (2, .long (X_st (-1) (X_Kd G (X_T_ G) x i j)))]) rfl ?_
        refine T_mono (r_sum sc S su (X_Kd G (X_T_ G) x i j)) (fun v639 S640 h641 => ?_)
        rcases h641 with ⟨hv642, hf643⟩
        rw [hv642]
        rw [hf643]
        show X_T sc 182 (26, [(5, .int (iI x)), (3, .long (X_st (-1) su)), (0, .ref 530), (1, .int (iI i)), (2, .int (iI j))], [.long (X_st (-1) (su + (X_Kd G (X_T_ G) x i j)))], S) _
        refine T_p xr_182_26 xn_182 (pc' := 27) (ls' := [(3, .long (X_st (-1) (su + (X_Kd G (X_T_ G) x i j)))), (5, .int (iI x)), (0, .ref 530), (1, .int (iI i)), (2, .int (iI j))]) (st' := []) rfl ?_
        refine T_ziinc xr_182_27 xn_182 (a := x) (z := x + 1) rfl (Nat.le_of_ble_eq_true rfl) (by omega) (ls' := [(5, .int (iI (x + 1))), (3, .long (X_st (-1) (su + (X_Kd G (X_T_ G) x i j)))), (0, .ref 530), (1, .int (iI i)), (2, .int (iI j))]) rfl (pc' := 30) rfl ?_
        refine T_p xr_182_30 xn_182 (pc' := 5) (ls' := [(5, .int (iI (x + 1))), (3, .long (X_st (-1) (su + (X_Kd G (X_T_ G) x i j)))), (0, .ref 530), (1, .int (iI i)), (2, .int (iI j))]) (st' := []) rfl ?_
        exact ih629 (x + 1) (su + (X_Kd G (X_T_ G) x i j))  (by omega) (by rw [X_Su_s (by omega), hsu]) (by omega)
  exact L628 ((gk G) + 1).toNat 0 0  (by omega) (X_Su_e (Int.le_refl 0)).symm (by omega)
set_option maxHeartbeats 1600000 in
theorem r_holeWays (sc : X_Sc) (S : X_S) (tg : Int → Int) (kU : Int → Int) (wR : Int → Int) (wL : Int → Int) (wK : Int → Int) (wM : Int → Int) (wH : Int → Int) (eP : Int → Int64) (hK : Int → Int) (tU : Int → Int) (oW : Int → Int64) (oK : Int → Int64) (o : Nat → Int) (nm : Int64) (b : Int) (rc : Int) (G : X_G) (tn : Int) (w : Int) (h : Int) (i : Int) (j : Int) (hO530 : S.1 530 = .inr (11, [.ref 531, .int (iI (o 1)), .ref 532, .int (iI (o 3)), .int (iI b), .int (iI (o 5)), .int (iI (o 6)), .int (iI (o 7)), .int (iI (o 8)), .int (iI (o 9)), .int (iI (o 10)), .int (iI (o 11)), .long nm, .ref 533, .ref 534, .ref 535, .ref 536, .ref 537, .ref 538, .ref 539, .ref 540, .ref 541, .ref 542, .ref 543, .ref 544, .ref 545, .ref 546, .ref 547, .int (iI rc), .int (iI (gk G)), .int (iI (gw G)), .int (iI (o 31)), .int (iI (o 32)), .int (iI (o 33)), .ref 548, .ref 549, .ref 550, .ref 551, .int (iI tn), .ref 552, .ref 553, .ref 554, .ref 555, .ref 556, .ref 557, .ref 558, .ref 559, .ref 560, .ref 561, .int (iI (o 49)), .ref 562, .ref 563, .ref 564, .ref 565, .ref 566, .ref 567, .ref 568, .ref 569, .int (iI (o 58)), .ref 570, .ref 571, .ref 572, .ref 573, .ref 574, .ref 575, .ref 576, .ref 577, .ref 578, .int (iI (o 68)), .int (iI (o 69)), .int (iI (o 70)), .ref 579])) (hA535 : S.1 535 = .inl (.boolean, 288, .inl fun k : Nat => iI (tg (k : Int)))) (hA536 : S.1 536 = .inl (.int, 22, .inl fun k : Nat => iI (kU (k : Int)))) (hA537 : S.1 537 = .inl (.int, 60, .inl fun k : Nat => iI (wR (k : Int)))) (hA538 : S.1 538 = .inl (.int, 60, .inl fun k : Nat => iI (wL (k : Int)))) (hA539 : S.1 539 = .inl (.int, 60, .inl fun k : Nat => iI (wK (k : Int)))) (hA540 : S.1 540 = .inl (.int, 60, .inl fun k : Nat => iI (wM (k : Int)))) (hA541 : S.1 541 = .inl (.int, 60, .inl fun k : Nat => iI (wH (k : Int)))) (hA545 : S.1 545 = .inl (.long, 480, .inr (.inl fun k : Nat => eP (k : Int)))) (hA547 : S.1 547 = .inl (.int, 240, .inl fun k : Nat => iI (hK (k : Int)))) (hA550 : S.1 550 = .inl (.int, 30, .inl fun k : Nat => iI (tU (k : Int)))) (hA552 : S.1 552 = .inl (.long, 28830, .inr (.inl fun k : Nat => oW (k : Int)))) (hA553 : S.1 553 = .inl (.long, 10571, .inr (.inl fun k : Nat => oK (k : Int)))) (hbr : 0 ≤ b ∧ b ≤ 1) (hG : X_Gok G) (htn : 0 ≤ tn ∧ tn ≤ 30) (hTU : ∀ t, 0 ≤ t → t < tn → tU t = X_nv (gt G t)) (hKU : (∀ u, 0 ≤ u → u < 32 → (X_bt (ga G 0) u ↔ u = 0)) ∧ kU (11 * b) = -1 ∧ ∀ k, 1 ≤ k → k < gk G → (0 ≤ kU (11 * b + k) ∧ kU (11 * b + k) < k) ∧ ∀ u, 0 ≤ u → u < 32 → (X_bt (ga G k) u ↔ u = k ∨ X_bt (ga G (kU (11 * b + k))) u)) (hTG : (∀ i j, 0 ≤ i → i < rc → 0 ≤ j → j < rc → tg (144 * b + 12 * i + j) = bI (X_bt (gl G i) j)) ∧ ∀ w, 0 ≤ w → w < gw G → gD G w 0 0 < rc) (hWR : ∀ w, 0 ≤ w → w < gw G → wR (30 * b + w) = gD G w 0 0) (hWL : ∀ w, 0 ≤ w → w < gw G → wL (30 * b + w) = gD G w 1 0) (hWK : ∀ w, 0 ≤ w → w < gw G → wK (30 * b + w) = gD G w 2 0) (hWM : ∀ w, 0 ≤ w → w < gw G → wM (30 * b + w) = gD G w 3 0) (hWH : ∀ w, 0 ≤ w → w < gw G → wH (30 * b + w) = gD G w 4 0) (hEP : ∀ w, 0 ≤ w → w < gw G → ∀ e, 0 ≤ e → e < gD G w 3 0 → eP (8 * (30 * b + w) + e) = gW G w e) (hHK : ∀ w, 0 ≤ w → w < gw G → ∀ h, 0 ≤ h → h < gD G w 4 0 → hK (4 * (30 * b + w) + h) = gD G w 9 h) (hij : 0 ≤ i ∧ i < j ∧ j ≤ tn) (hw : 0 ≤ w ∧ w < gw G) (hh : 0 ≤ h ∧ h < gD G w 4 0) (hBa : ∀ x, 0 ≤ x → x < gk G → oK (961 * x + (31 * i + j)) = X_st (-1) ((X_T_ G).2 x i j)) (hWc : ∀ w, 0 ≤ w → w < gw G → oW (961 * w + (31 * i + j)) = X_st (-1) ((X_T_ G).1 w i j)) : X_T sc 181 (0, [(0, .ref 530), (1, .int (iI w)), (2, .int (iI h)), (3, .int (iI i)), (4, .int (iI j))], [], S) (fun v S' => v = some (.long (X_st (-1) (X_Hh G w h i j))) ∧ S' = S) := by
  have hgw := hG.2.2.2 w hw.1 hw.2
  have hsz := hgw.1
  have hgh := hgw.2.1
  have hc1 := hG.1
  have hnk : (1 < gk G → bI (1 < gk G) = 1) ∧ (¬ 1 < gk G → bI (1 < gk G) = 0) := ⟨fun z => bI_t z, fun z => bI_f z⟩
  have hkr := hG.2.1
  have h9 := hgw.2.2.2.2.2.2.2.2.1 h hh.1 hh.2
  refine X_QI (fun Q hQ => ?_)
  refine T_p xr_181_0 xn_181 (pc' := 1) (ls' := [(0, .ref 530), (1, .int (iI w)), (2, .int (iI h)), (3, .int (iI i)), (4, .int (iI j))]) (st' := [.int (iI i)]) rfl ?_
  refine T_p xr_181_1 xn_181 (pc' := 3) (ls' := [(0, .ref 530), (1, .int (iI w)), (2, .int (iI h)), (3, .int (iI i)), (4, .int (iI j))]) (st' := [.int (iI j), .int (iI i)]) rfl ?_
  refine T_cs xr_181_3 (by decide) xf_173.1 xn_173 (as := [.int (iI i), .int (iI j)]) (r := []) rfl (Nat.le_of_ble_eq_true rfl) (Nat.le_of_ble_eq_true rfl) (pc' := 6) rfl (ls' := [(0, .int (iI i)), (1, .int (iI j))]) rfl ?_
  refine T_p xr_173_0 xn_173 (pc' := 2) (ls' := [(0, .int (iI i)), (1, .int (iI j))]) (st' := [.int (iI 31)]) rfl ?_
  refine T_p xr_173_2 xn_173 (pc' := 3) (ls' := [(0, .int (iI i)), (1, .int (iI j))]) (st' := [.int (iI i), .int (iI 31)]) rfl ?_
  refine T_zimul xr_173_3 (z := 31 * i) rfl (pc' := 4) rfl ?_
  refine T_p xr_173_4 xn_173 (pc' := 5) (ls' := [(0, .int (iI i)), (1, .int (iI j))]) (st' := [.int (iI j), .int (iI (31 * i))]) rfl ?_
  refine T_ziadd xr_173_5 (z := (31 * i) + j) rfl (pc' := 6) rfl ?_
  refine T_iret xr_173_6 xf_173.2.2 rfl ?_
  show X_T sc 181 (6, [(0, .ref 530), (1, .int (iI w)), (2, .int (iI h)), (3, .int (iI i)), (4, .int (iI j))], [.int (iI ((31 * i) + j))], S) _
  refine T_p xr_181_6 xn_181 (pc' := 8) (ls' := [(5, .int (iI ((31 * i) + j))), (0, .ref 530), (1, .int (iI w)), (2, .int (iI h)), (3, .int (iI i)), (4, .int (iI j))]) (st' := []) rfl ?_
  refine T_p xr_181_8 xn_181 (pc' := 9) (ls' := [(5, .int (iI ((31 * i) + j))), (0, .ref 530), (1, .int (iI w)), (2, .int (iI h)), (3, .int (iI i)), (4, .int (iI j))]) (st' := [.ref 530]) rfl ?_
  refine T_get xr_181_9 hO530 rfl (v := .ref 547) rfl (pc' := 12) rfl ?_
  refine T_p xr_181_12 xn_181 (pc' := 13) (ls' := [(5, .int (iI ((31 * i) + j))), (0, .ref 530), (1, .int (iI w)), (2, .int (iI h)), (3, .int (iI i)), (4, .int (iI j))]) (st' := [.int (iI 4), .ref 547]) rfl ?_
  refine T_p xr_181_13 xn_181 (pc' := 15) (ls' := [(5, .int (iI ((31 * i) + j))), (0, .ref 530), (1, .int (iI w)), (2, .int (iI h)), (3, .int (iI i)), (4, .int (iI j))]) (st' := [.int (iI 30), .int (iI 4), .ref 547]) rfl ?_
  refine T_p xr_181_15 xn_181 (pc' := 16) (ls' := [(5, .int (iI ((31 * i) + j))), (0, .ref 530), (1, .int (iI w)), (2, .int (iI h)), (3, .int (iI i)), (4, .int (iI j))]) (st' := [.ref 530, .int (iI 30), .int (iI 4), .ref 547]) rfl ?_
  refine T_get xr_181_16 hO530 rfl (v := .int (iI b)) rfl (pc' := 19) rfl ?_
  refine T_zimul xr_181_19 (z := 30 * b) rfl (pc' := 20) rfl ?_
  refine T_p xr_181_20 xn_181 (pc' := 21) (ls' := [(5, .int (iI ((31 * i) + j))), (0, .ref 530), (1, .int (iI w)), (2, .int (iI h)), (3, .int (iI i)), (4, .int (iI j))]) (st' := [.int (iI w), .int (iI (30 * b)), .int (iI 4), .ref 547]) rfl ?_
  refine T_ziadd xr_181_21 (z := (30 * b) + w) rfl (pc' := 22) rfl ?_
  refine T_zimul xr_181_22 (z := 4 * ((30 * b) + w)) rfl (pc' := 23) rfl ?_
  refine T_p xr_181_23 xn_181 (pc' := 24) (ls' := [(5, .int (iI ((31 * i) + j))), (0, .ref 530), (1, .int (iI w)), (2, .int (iI h)), (3, .int (iI i)), (4, .int (iI j))]) (st' := [.int (iI h), .int (iI (4 * ((30 * b) + w))), .ref 547]) rfl ?_
  refine T_ziadd xr_181_24 (z := (4 * ((30 * b) + w)) + h) rfl (pc' := 25) rfl ?_
  refine T_ziald xr_181_25 hA547 (pc' := 26) rfl ?_
  refine T_ie (y := iI (gD G w 9 h)) (by rw [← hHK w hw.1 hw.2 h hh.1 hh.2]) ?_
  refine T_p xr_181_26 xn_181 (pc' := 28) (ls' := [(6, .int (iI (gD G w 9 h))), (5, .int (iI ((31 * i) + j))), (0, .ref 530), (1, .int (iI w)), (2, .int (iI h)), (3, .int (iI i)), (4, .int (iI j))]) (st' := []) rfl ?_
  refine T_p xr_181_28 xn_181 (pc' := 29) (ls' := [(6, .int (iI (gD G w 9 h))), (5, .int (iI ((31 * i) + j))), (0, .ref 530), (1, .int (iI w)), (2, .int (iI h)), (3, .int (iI i)), (4, .int (iI j))]) (st' := [.ref 530]) rfl ?_
  refine T_p xr_181_29 xn_181 (pc' := 30) (ls' := [(6, .int (iI (gD G w 9 h))), (5, .int (iI ((31 * i) + j))), (0, .ref 530), (1, .int (iI w)), (2, .int (iI h)), (3, .int (iI i)), (4, .int (iI j))]) (st' := [.int (iI w), .ref 530]) rfl ?_
  refine T_p xr_181_30 xn_181 (pc' := 31) (ls' := [(6, .int (iI (gD G w 9 h))), (5, .int (iI ((31 * i) + j))), (0, .ref 530), (1, .int (iI w)), (2, .int (iI h)), (3, .int (iI i)), (4, .int (iI j))]) (st' := [.int (iI h), .int (iI w), .ref 530]) rfl ?_
  refine T_cv (S := S) (q := 530) xr_181_31 xf_180.1 xf_180.2.1 xn_180 (as := [.int (iI w), .int (iI h)]) (r := []) rfl hO530 (Nat.le_of_ble_eq_true rfl) (Nat.le_of_ble_eq_true rfl) (pc' := 34) rfl (ls' := [(0, .ref 530), (1, .int (iI w)), (2, .int (iI h))]) rfl ?_
  refine T_mono (r_endOf sc S wM wH eP o nm b rc G tn w h hO530 hA540 hA541 hA545 (by omega) hG hWM hWH hEP (by omega) (by omega)) (fun v644 S645 h646 => ?_)
  rcases h646 with ⟨hv647, hf648⟩
  rw [hv647]
  rw [hf648]
  have heh649 := X_eh_r (G := G) (w := w) (h := h)
  show X_T sc 181 (34, [(6, .int (iI (gD G w 9 h))), (5, .int (iI ((31 * i) + j))), (0, .ref 530), (1, .int (iI w)), (2, .int (iI h)), (3, .int (iI i)), (4, .int (iI j))], [.int (iI (X_eh G w h))], S) _
  refine T_p xr_181_34 xn_181 (pc' := 36) (ls' := [(7, .int (iI (X_eh G w h))), (6, .int (iI (gD G w 9 h))), (5, .int (iI ((31 * i) + j))), (0, .ref 530), (1, .int (iI w)), (2, .int (iI h)), (3, .int (iI i)), (4, .int (iI j))]) (st' := []) rfl ?_
  have J650 : X_T sc 181 (66, [(8, .long (X_st (-1) (X_if ((j = i + 1 ∧ 0 ≤ X_nv (gt G i)) ∧ X_bt (ga G (bI (1 < gk G))) (gD G w 9 h)) 1))), (7, .int (iI (X_eh G w h))), (6, .int (iI (gD G w 9 h))), (5, .int (iI ((31 * i) + j))), (0, .ref 530), (1, .int (iI w)), (2, .int (iI h)), (3, .int (iI i)), (4, .int (iI j))], [], S) Q := by
    refine T_p xr_181_66 xn_181 (pc' := 67) (ls' := [(8, .long (X_st (-1) (X_if ((j = i + 1 ∧ 0 ≤ X_nv (gt G i)) ∧ X_bt (ga G (bI (1 < gk G))) (gD G w 9 h)) 1))), (7, .int (iI (X_eh G w h))), (6, .int (iI (gD G w 9 h))), (5, .int (iI ((31 * i) + j))), (0, .ref 530), (1, .int (iI w)), (2, .int (iI h)), (3, .int (iI i)), (4, .int (iI j))]) (st' := [.int (iI 0)]) rfl ?_
    refine T_p xr_181_67 xn_181 (pc' := 69) (ls' := [(10, .int (iI 0)), (8, .long (X_st (-1) (X_if ((j = i + 1 ∧ 0 ≤ X_nv (gt G i)) ∧ X_bt (ga G (bI (1 < gk G))) (gD G w 9 h)) 1))), (7, .int (iI (X_eh G w h))), (6, .int (iI (gD G w 9 h))), (5, .int (iI ((31 * i) + j))), (0, .ref 530), (1, .int (iI w)), (2, .int (iI h)), (3, .int (iI i)), (4, .int (iI j))]) (st' := []) rfl ?_
    have L651 : ∀ (m653 : Nat) (k : Int) (su : Nat) (hk : 0 ≤ k ∧ k ≤ gk G) (hsu : su = X_if ((j = i + 1 ∧ 0 ≤ X_nv (gt G i)) ∧ X_bt (ga G (bI (1 < gk G))) (gD G w 9 h)) 1 + X_Su (fun k => X_if (X_bt (ga G k) (gD G w 9 h)) ((X_T_ G).2 k i j)) 0 k) (hm654 : gk G - k < m653), X_T sc 181 (69, [(10, .int (iI k)), (8, .long (X_st (-1) su)), (7, .int (iI (X_eh G w h))), (6, .int (iI (gD G w 9 h))), (5, .int (iI (31 * i + j))), (0, .ref 530), (1, .int (iI w)), (2, .int (iI h)), (3, .int (iI i)), (4, .int (iI j))], [], S) Q := by
      intro m653
      induction m653 with
      | zero =>
        intro k su hk hsu hm654
        exact (show False by omega).elim
      | succ m653 ih652 =>
        intro k su hk hsu hm654
        refine T_p xr_181_69 xn_181 (pc' := 71) (ls' := [(10, .int (iI k)), (8, .long (X_st (-1) su)), (7, .int (iI (X_eh G w h))), (6, .int (iI (gD G w 9 h))), (5, .int (iI (31 * i + j))), (0, .ref 530), (1, .int (iI w)), (2, .int (iI h)), (3, .int (iI i)), (4, .int (iI j))]) (st' := [.int (iI k)]) rfl ?_
        refine T_p xr_181_71 xn_181 (pc' := 72) (ls' := [(10, .int (iI k)), (8, .long (X_st (-1) su)), (7, .int (iI (X_eh G w h))), (6, .int (iI (gD G w 9 h))), (5, .int (iI (31 * i + j))), (0, .ref 530), (1, .int (iI w)), (2, .int (iI h)), (3, .int (iI i)), (4, .int (iI j))]) (st' := [.ref 530, .int (iI k)]) rfl ?_
        refine T_get xr_181_72 hO530 rfl (v := .int (iI (gk G))) rfl (pc' := 75) rfl ?_
        refine T_zicmp_ge xr_181_75 (t := 116) (pc' := 78) rfl rfl (fun c656 => ?_) (fun c656 => ?_)
        · skip
          have c656 : (gk G) ≤ k := c656
          refine T_p xr_181_116 xn_181 (pc' := 117) (ls' := [(10, .int (iI k)), (8, .long (X_st (-1) su)), (7, .int (iI (X_eh G w h))), (6, .int (iI (gD G w 9 h))), (5, .int (iI (31 * i + j))), (0, .ref 530), (1, .int (iI w)), (2, .int (iI h)), (3, .int (iI i)), (4, .int (iI j))]) (st' := [.int (iI 0)]) rfl ?_
          refine T_p xr_181_117 xn_181 (pc' := 119) (ls' := [(10, .int (iI 0)), (8, .long (X_st (-1) su)), (7, .int (iI (X_eh G w h))), (6, .int (iI (gD G w 9 h))), (5, .int (iI (31 * i + j))), (0, .ref 530), (1, .int (iI w)), (2, .int (iI h)), (3, .int (iI i)), (4, .int (iI j))]) (st' := []) rfl ?_
          have L657 : ∀ (m659 : Nat) (v : Int) (sv : Nat) (hv : 0 ≤ v ∧ v ≤ gw G) (hsv : sv = X_if ((j = i + 1 ∧ 0 ≤ X_nv (gt G i)) ∧ X_bt (ga G (bI (1 < gk G))) (gD G w 9 h)) 1 + X_Su (fun k => X_if (X_bt (ga G k) (gD G w 9 h)) ((X_T_ G).2 k i j)) 0 (gk G) + X_Su (fun v => X_if (X_bt (ga G (gD G v 2 0)) (gD G w 9 h) ∧ X_lt G w (X_eh G w h) v) ((X_T_ G).1 v i j)) 0 v) (hm660 : gw G - v < m659), X_T sc 181 (119, [(10, .int (iI v)), (8, .long (X_st (-1) sv)), (7, .int (iI (X_eh G w h))), (6, .int (iI (gD G w 9 h))), (5, .int (iI (31 * i + j))), (0, .ref 530), (1, .int (iI w)), (2, .int (iI h)), (3, .int (iI i)), (4, .int (iI j))], [], S) Q := by
            intro m659
            induction m659 with
            | zero =>
              intro v sv hv hsv hm660
              exact (show False by omega).elim
            | succ m659 ih658 =>
              intro v sv hv hsv hm660
              refine T_p xr_181_119 xn_181 (pc' := 121) (ls' := [(10, .int (iI v)), (8, .long (X_st (-1) sv)), (7, .int (iI (X_eh G w h))), (6, .int (iI (gD G w 9 h))), (5, .int (iI (31 * i + j))), (0, .ref 530), (1, .int (iI w)), (2, .int (iI h)), (3, .int (iI i)), (4, .int (iI j))]) (st' := [.int (iI v)]) rfl ?_
              refine T_p xr_181_121 xn_181 (pc' := 122) (ls' := [(10, .int (iI v)), (8, .long (X_st (-1) sv)), (7, .int (iI (X_eh G w h))), (6, .int (iI (gD G w 9 h))), (5, .int (iI (31 * i + j))), (0, .ref 530), (1, .int (iI w)), (2, .int (iI h)), (3, .int (iI i)), (4, .int (iI j))]) (st' := [.ref 530, .int (iI v)]) rfl ?_
              refine T_get xr_181_122 hO530 rfl (v := .int (iI (gw G))) rfl (pc' := 125) rfl ?_
              refine T_zicmp_ge xr_181_125 (t := 191) (pc' := 128) rfl rfl (fun c662 => ?_) (fun c662 => ?_)
              · skip
                have c662 : (gw G) ≤ v := c662
                refine T_p xr_181_191 xn_181 (pc' := 193) (ls' := [(10, .int (iI v)), (8, .long (X_st (-1) sv)), (7, .int (iI (X_eh G w h))), (6, .int (iI (gD G w 9 h))), (5, .int (iI (31 * i + j))), (0, .ref 530), (1, .int (iI w)), (2, .int (iI h)), (3, .int (iI i)), (4, .int (iI j))]) (st' := [.long (X_st (-1) sv)]) rfl ?_
                refine T_lret xr_181_193 xf_181.2.2 rfl ?_
                refine hQ _ _ ?_
                exact ⟨(by rw [hsv, show v = gw G by omega, X_Hh_s hG]), rfl⟩
              · skip
                have c662 : ¬ ((gw G) ≤ v) := c662
                refine T_p xr_181_128 xn_181 (pc' := 129) (ls' := [(10, .int (iI v)), (8, .long (X_st (-1) sv)), (7, .int (iI (X_eh G w h))), (6, .int (iI (gD G w 9 h))), (5, .int (iI (31 * i + j))), (0, .ref 530), (1, .int (iI w)), (2, .int (iI h)), (3, .int (iI i)), (4, .int (iI j))]) (st' := [.ref 530]) rfl ?_
                refine T_p xr_181_129 xn_181 (pc' := 130) (ls' := [(10, .int (iI v)), (8, .long (X_st (-1) sv)), (7, .int (iI (X_eh G w h))), (6, .int (iI (gD G w 9 h))), (5, .int (iI (31 * i + j))), (0, .ref 530), (1, .int (iI w)), (2, .int (iI h)), (3, .int (iI i)), (4, .int (iI j))]) (st' := [.ref 530, .ref 530]) rfl ?_
                refine T_get xr_181_130 hO530 rfl (v := .ref 539) rfl (pc' := 133) rfl ?_
                refine T_p xr_181_133 xn_181 (pc' := 135) (ls' := [(10, .int (iI v)), (8, .long (X_st (-1) sv)), (7, .int (iI (X_eh G w h))), (6, .int (iI (gD G w 9 h))), (5, .int (iI (31 * i + j))), (0, .ref 530), (1, .int (iI w)), (2, .int (iI h)), (3, .int (iI i)), (4, .int (iI j))]) (st' := [.int (iI 30), .ref 539, .ref 530]) rfl ?_
                refine T_p xr_181_135 xn_181 (pc' := 136) (ls' := [(10, .int (iI v)), (8, .long (X_st (-1) sv)), (7, .int (iI (X_eh G w h))), (6, .int (iI (gD G w 9 h))), (5, .int (iI (31 * i + j))), (0, .ref 530), (1, .int (iI w)), (2, .int (iI h)), (3, .int (iI i)), (4, .int (iI j))]) (st' := [.ref 530, .int (iI 30), .ref 539, .ref 530]) rfl ?_
                refine T_get xr_181_136 hO530 rfl (v := .int (iI b)) rfl (pc' := 139) rfl ?_
                refine T_zimul xr_181_139 (z := 30 * b) rfl (pc' := 140) rfl ?_
                refine T_p xr_181_140 xn_181 (pc' := 142) (ls' := [(10, .int (iI v)), (8, .long (X_st (-1) sv)), (7, .int (iI (X_eh G w h))), (6, .int (iI (gD G w 9 h))), (5, .int (iI (31 * i + j))), (0, .ref 530), (1, .int (iI w)), (2, .int (iI h)), (3, .int (iI i)), (4, .int (iI j))]) (st' := [.int (iI v), .int (iI (30 * b)), .ref 539, .ref 530]) rfl ?_
                refine T_ziadd xr_181_142 (z := (30 * b) + v) rfl (pc' := 143) rfl ?_
                refine T_ziald xr_181_143 hA539 (pc' := 144) rfl ?_
                have hkv := hG.kd v (by omega) (by omega)
                refine T_ie (y := iI (gD G v 2 0)) (by rw [hWK v (by omega) (by omega)]) ?_
                refine T_p xr_181_144 xn_181 (pc' := 146) (ls' := [(10, .int (iI v)), (8, .long (X_st (-1) sv)), (7, .int (iI (X_eh G w h))), (6, .int (iI (gD G w 9 h))), (5, .int (iI (31 * i + j))), (0, .ref 530), (1, .int (iI w)), (2, .int (iI h)), (3, .int (iI i)), (4, .int (iI j))]) (st' := [.int (iI (gD G w 9 h)), .int (iI (gD G v 2 0)), .ref 530]) rfl ?_
                refine T_cv (S := S) (q := 530) xr_181_146 xf_168.1 xf_168.2.1 xn_168 (as := [.int (iI (gD G v 2 0)), .int (iI (gD G w 9 h))]) (r := []) rfl hO530 (Nat.le_of_ble_eq_true rfl) (Nat.le_of_ble_eq_true rfl) (pc' := 149) rfl (ls' := [(0, .ref 530), (1, .int (iI (gD G v 2 0))), (2, .int (iI (gD G w 9 h)))]) rfl ?_
                refine T_mono (r_isUnder sc S kU o nm b rc G tn (gD G v 2 0) (gD G w 9 h) hO530 hA536 (by omega) hG hKU (by omega) (by omega)) (fun v663 S664 h665 => ?_)
                rcases h665 with ⟨hv666, hf667⟩
                rw [hv666]
                rw [hf667]
                show X_T sc 181 (149, [(10, .int (iI v)), (8, .long (X_st (-1) sv)), (7, .int (iI (X_eh G w h))), (6, .int (iI (gD G w 9 h))), (5, .int (iI (31 * i + j))), (0, .ref 530), (1, .int (iI w)), (2, .int (iI h)), (3, .int (iI i)), (4, .int (iI j))], [.int (iI (bI (X_bt (ga G (gD G v 2 0)) (gD G w 9 h))))], S) _
                refine T_bif_eq xr_181_149 (t := 185) (pc' := 152) rfl rfl (fun c668 => ?_) (fun c668 => ?_)
                · skip
                  have c668 : ¬ (X_bt (ga G (gD G v 2 0)) (gD G w 9 h)) := c668
                  refine T_ziinc xr_181_185 xn_181 (a := v) (z := v + 1) rfl (Nat.le_of_ble_eq_true rfl) (by omega) (ls' := [(10, .int (iI (v + 1))), (8, .long (X_st (-1) sv)), (7, .int (iI (X_eh G w h))), (6, .int (iI (gD G w 9 h))), (5, .int (iI (31 * i + j))), (0, .ref 530), (1, .int (iI w)), (2, .int (iI h)), (3, .int (iI i)), (4, .int (iI j))]) rfl (pc' := 188) rfl ?_
                  refine T_p xr_181_188 xn_181 (pc' := 119) (ls' := [(10, .int (iI (v + 1))), (8, .long (X_st (-1) sv)), (7, .int (iI (X_eh G w h))), (6, .int (iI (gD G w 9 h))), (5, .int (iI (31 * i + j))), (0, .ref 530), (1, .int (iI w)), (2, .int (iI h)), (3, .int (iI i)), (4, .int (iI j))]) (st' := []) rfl ?_
                  exact ih658 (v + 1) sv  (by omega) (by first | exact ((X_Su_if (p := fun v => X_bt (ga G (gD G v 2 0)) (gD G w 9 h) ∧ X_lt G w (X_eh G w h) v) (f := fun v => (X_T_ G).1 v i j) (show (0 : Int) ≤ v by omega)).1 ⟨by assumption, by assumption⟩).symm ▸ (by rw [hsv, Nat.add_assoc]) | exact ((X_Su_if (p := fun v => X_bt (ga G (gD G v 2 0)) (gD G w 9 h) ∧ X_lt G w (X_eh G w h) v) (f := fun v => (X_T_ G).1 v i j) (show (0 : Int) ≤ v by omega)).2 (fun z => by first | exact absurd z.1 (by assumption) | exact absurd z.2 (by assumption))).symm ▸ hsv) (by omega)
                · skip
                  have c668 : (X_bt (ga G (gD G v 2 0)) (gD G w 9 h)) := c668
                  refine T_p xr_181_152 xn_181 (pc' := 153) (ls' := [(10, .int (iI v)), (8, .long (X_st (-1) sv)), (7, .int (iI (X_eh G w h))), (6, .int (iI (gD G w 9 h))), (5, .int (iI (31 * i + j))), (0, .ref 530), (1, .int (iI w)), (2, .int (iI h)), (3, .int (iI i)), (4, .int (iI j))]) (st' := [.ref 530]) rfl ?_
                  refine T_p xr_181_153 xn_181 (pc' := 154) (ls' := [(10, .int (iI v)), (8, .long (X_st (-1) sv)), (7, .int (iI (X_eh G w h))), (6, .int (iI (gD G w 9 h))), (5, .int (iI (31 * i + j))), (0, .ref 530), (1, .int (iI w)), (2, .int (iI h)), (3, .int (iI i)), (4, .int (iI j))]) (st' := [.int (iI w), .ref 530]) rfl ?_
                  refine T_p xr_181_154 xn_181 (pc' := 156) (ls' := [(10, .int (iI v)), (8, .long (X_st (-1) sv)), (7, .int (iI (X_eh G w h))), (6, .int (iI (gD G w 9 h))), (5, .int (iI (31 * i + j))), (0, .ref 530), (1, .int (iI w)), (2, .int (iI h)), (3, .int (iI i)), (4, .int (iI j))]) (st' := [.int (iI (X_eh G w h)), .int (iI w), .ref 530]) rfl ?_
                  refine T_p xr_181_156 xn_181 (pc' := 158) (ls' := [(10, .int (iI v)), (8, .long (X_st (-1) sv)), (7, .int (iI (X_eh G w h))), (6, .int (iI (gD G w 9 h))), (5, .int (iI (31 * i + j))), (0, .ref 530), (1, .int (iI w)), (2, .int (iI h)), (3, .int (iI i)), (4, .int (iI j))]) (st' := [.int (iI v), .int (iI (X_eh G w h)), .int (iI w), .ref 530]) rfl ?_
                  refine T_cv (S := S) (q := 530) xr_181_158 xf_179.1 xf_179.2.1 xn_179 (as := [.int (iI w), .int (iI (X_eh G w h)), .int (iI v)]) (r := []) rfl hO530 (Nat.le_of_ble_eq_true rfl) (Nat.le_of_ble_eq_true rfl) (pc' := 161) rfl (ls' := [(0, .ref 530), (1, .int (iI w)), (2, .int (iI (X_eh G w h))), (3, .int (iI v))]) rfl ?_
                  refine T_mono (r_letsRank sc S tg wR wL wM eP o nm b rc G tn w (X_eh G w h) v hO530 hA535 hA537 hA538 hA540 hA545 (by omega) hG hTG hWR hWL hWM hEP (by omega) (by omega) (by omega)) (fun v669 S670 h671 => ?_)
                  rcases h671 with ⟨hv672, hf673⟩
                  rw [hv672]
                  rw [hf673]
                  show X_T sc 181 (161, [(10, .int (iI v)), (8, .long (X_st (-1) sv)), (7, .int (iI (X_eh G w h))), (6, .int (iI (gD G w 9 h))), (5, .int (iI (31 * i + j))), (0, .ref 530), (1, .int (iI w)), (2, .int (iI h)), (3, .int (iI i)), (4, .int (iI j))], [.int (iI (bI (X_lt G w (X_eh G w h) v)))], S) _
                  refine T_bif_eq xr_181_161 (t := 185) (pc' := 164) rfl rfl (fun c674 => ?_) (fun c674 => ?_)
                  · skip
                    have c674 : ¬ (X_lt G w (X_eh G w h) v) := c674
                    refine T_ziinc xr_181_185 xn_181 (a := v) (z := v + 1) rfl (Nat.le_of_ble_eq_true rfl) (by omega) (ls' := [(10, .int (iI (v + 1))), (8, .long (X_st (-1) sv)), (7, .int (iI (X_eh G w h))), (6, .int (iI (gD G w 9 h))), (5, .int (iI (31 * i + j))), (0, .ref 530), (1, .int (iI w)), (2, .int (iI h)), (3, .int (iI i)), (4, .int (iI j))]) rfl (pc' := 188) rfl ?_
                    refine T_p xr_181_188 xn_181 (pc' := 119) (ls' := [(10, .int (iI (v + 1))), (8, .long (X_st (-1) sv)), (7, .int (iI (X_eh G w h))), (6, .int (iI (gD G w 9 h))), (5, .int (iI (31 * i + j))), (0, .ref 530), (1, .int (iI w)), (2, .int (iI h)), (3, .int (iI i)), (4, .int (iI j))]) (st' := []) rfl ?_
                    exact ih658 (v + 1) sv  (by omega) (by first | exact ((X_Su_if (p := fun v => X_bt (ga G (gD G v 2 0)) (gD G w 9 h) ∧ X_lt G w (X_eh G w h) v) (f := fun v => (X_T_ G).1 v i j) (show (0 : Int) ≤ v by omega)).1 ⟨by assumption, by assumption⟩).symm ▸ (by rw [hsv, Nat.add_assoc]) | exact ((X_Su_if (p := fun v => X_bt (ga G (gD G v 2 0)) (gD G w 9 h) ∧ X_lt G w (X_eh G w h) v) (f := fun v => (X_T_ G).1 v i j) (show (0 : Int) ≤ v by omega)).2 (fun z => by first | exact absurd z.1 (by assumption) | exact absurd z.2 (by assumption))).symm ▸ hsv) (by omega)
                  · skip
                    have c674 : (X_lt G w (X_eh G w h) v) := c674
                    refine T_p xr_181_164 xn_181 (pc' := 166) (ls' := [(10, .int (iI v)), (8, .long (X_st (-1) sv)), (7, .int (iI (X_eh G w h))), (6, .int (iI (gD G w 9 h))), (5, .int (iI (31 * i + j))), (0, .ref 530), (1, .int (iI w)), (2, .int (iI h)), (3, .int (iI i)), (4, .int (iI j))]) (st' := [.long (X_st (-1) sv)]) rfl ?_
                    refine T_p xr_181_166 xn_181 (pc' := 167) (ls' := [(10, .int (iI v)), (8, .long (X_st (-1) sv)), (7, .int (iI (X_eh G w h))), (6, .int (iI (gD G w 9 h))), (5, .int (iI (31 * i + j))), (0, .ref 530), (1, .int (iI w)), (2, .int (iI h)), (3, .int (iI i)), (4, .int (iI j))]) (st' := [.ref 530, .long (X_st (-1) sv)]) rfl ?_
                    refine T_get xr_181_167 hO530 rfl (v := .ref 552) rfl (pc' := 170) rfl ?_
                    refine T_p xr_181_170 xn_181 (pc' := 173) (ls' := [(10, .int (iI v)), (8, .long (X_st (-1) sv)), (7, .int (iI (X_eh G w h))), (6, .int (iI (gD G w 9 h))), (5, .int (iI (31 * i + j))), (0, .ref 530), (1, .int (iI w)), (2, .int (iI h)), (3, .int (iI i)), (4, .int (iI j))]) (st' := [.int (iI 961), .ref 552, .long (X_st (-1) sv)]) rfl ?_
                    refine T_p xr_181_173 xn_181 (pc' := 175) (ls' := [(10, .int (iI v)), (8, .long (X_st (-1) sv)), (7, .int (iI (X_eh G w h))), (6, .int (iI (gD G w 9 h))), (5, .int (iI (31 * i + j))), (0, .ref 530), (1, .int (iI w)), (2, .int (iI h)), (3, .int (iI i)), (4, .int (iI j))]) (st' := [.int (iI v), .int (iI 961), .ref 552, .long (X_st (-1) sv)]) rfl ?_
                    refine T_zimul xr_181_175 (z := 961 * v) rfl (pc' := 176) rfl ?_
                    refine T_p xr_181_176 xn_181 (pc' := 178) (ls' := [(10, .int (iI v)), (8, .long (X_st (-1) sv)), (7, .int (iI (X_eh G w h))), (6, .int (iI (gD G w 9 h))), (5, .int (iI (31 * i + j))), (0, .ref 530), (1, .int (iI w)), (2, .int (iI h)), (3, .int (iI i)), (4, .int (iI j))]) (st' := [.int (iI (31 * i + j)), .int (iI (961 * v)), .ref 552, .long (X_st (-1) sv)]) rfl ?_
                    refine T_ziadd xr_181_178 (z := (961 * v) + (31 * i + j)) rfl (pc' := 179) rfl ?_
                    refine T_zlald xr_181_179 hA552 (pc' := 180) rfl ?_
                    refine T_le (y := (X_st (-1) ((X_T_ G).1 v i j))) (hWc v (by omega) (by omega)) ?_
                    refine T_cs xr_181_180 (by decide) xf_171.1 xn_171 (as := [.long (X_st (-1) sv), .long (X_st (-1) ((X_T_ G).1 v i j))]) (r := []) rfl (Nat.le_of_ble_eq_true rfl) (Nat.le_of_ble_eq_true rfl) (pc' := 183) rfl (ls' := [(0, .long (X_st (-1) sv)), (2, .long (X_st (-1) ((X_T_ G).1 v i j)))]) rfl ?_
                    refine T_mono (r_sum sc S sv ((X_T_ G).1 v i j)) (fun v675 S676 h677 => ?_)
                    rcases h677 with ⟨hv678, hf679⟩
                    rw [hv678]
                    rw [hf679]
                    show X_T sc 181 (183, [(10, .int (iI v)), (8, .long (X_st (-1) sv)), (7, .int (iI (X_eh G w h))), (6, .int (iI (gD G w 9 h))), (5, .int (iI (31 * i + j))), (0, .ref 530), (1, .int (iI w)), (2, .int (iI h)), (3, .int (iI i)), (4, .int (iI j))], [.long (X_st (-1) (sv + ((X_T_ G).1 v i j)))], S) _
                    refine T_p xr_181_183 xn_181 (pc' := 185) (ls' := [(8, .long (X_st (-1) (sv + ((X_T_ G).1 v i j)))), (10, .int (iI v)), (7, .int (iI (X_eh G w h))), (6, .int (iI (gD G w 9 h))), (5, .int (iI (31 * i + j))), (0, .ref 530), (1, .int (iI w)), (2, .int (iI h)), (3, .int (iI i)), (4, .int (iI j))]) (st' := []) rfl ?_
                    refine T_ziinc xr_181_185 xn_181 (a := v) (z := v + 1) rfl (Nat.le_of_ble_eq_true rfl) (by omega) (ls' := [(10, .int (iI (v + 1))), (8, .long (X_st (-1) (sv + ((X_T_ G).1 v i j)))), (7, .int (iI (X_eh G w h))), (6, .int (iI (gD G w 9 h))), (5, .int (iI (31 * i + j))), (0, .ref 530), (1, .int (iI w)), (2, .int (iI h)), (3, .int (iI i)), (4, .int (iI j))]) rfl (pc' := 188) rfl ?_
                    refine T_p xr_181_188 xn_181 (pc' := 119) (ls' := [(10, .int (iI (v + 1))), (8, .long (X_st (-1) (sv + ((X_T_ G).1 v i j)))), (7, .int (iI (X_eh G w h))), (6, .int (iI (gD G w 9 h))), (5, .int (iI (31 * i + j))), (0, .ref 530), (1, .int (iI w)), (2, .int (iI h)), (3, .int (iI i)), (4, .int (iI j))]) (st' := []) rfl ?_
                    exact ih658 (v + 1) (sv + ((X_T_ G).1 v i j))  (by omega) (by first | exact ((X_Su_if (p := fun v => X_bt (ga G (gD G v 2 0)) (gD G w 9 h) ∧ X_lt G w (X_eh G w h) v) (f := fun v => (X_T_ G).1 v i j) (show (0 : Int) ≤ v by omega)).1 ⟨by assumption, by assumption⟩).symm ▸ (by rw [hsv, Nat.add_assoc]) | exact ((X_Su_if (p := fun v => X_bt (ga G (gD G v 2 0)) (gD G w 9 h) ∧ X_lt G w (X_eh G w h) v) (f := fun v => (X_T_ G).1 v i j) (show (0 : Int) ≤ v by omega)).2 (fun z => by first | exact absurd z.1 (by assumption) | exact absurd z.2 (by assumption))).symm ▸ hsv) (by omega)
          exact L657 ((gw G) + 1).toNat 0 su  (by omega) (by rw [hsu, show k = gk G by omega, X_Su_e (f := fun v => X_if (X_bt (ga G (gD G v 2 0)) (gD G w 9 h) ∧ X_lt G w (X_eh G w h) v) ((X_T_ G).1 v i j)) (Int.le_refl 0)]; rfl) (by omega)
        · skip
          have c656 : ¬ ((gk G) ≤ k) := c656
          refine T_p xr_181_78 xn_181 (pc' := 79) (ls' := [(10, .int (iI k)), (8, .long (X_st (-1) su)), (7, .int (iI (X_eh G w h))), (6, .int (iI (gD G w 9 h))), (5, .int (iI (31 * i + j))), (0, .ref 530), (1, .int (iI w)), (2, .int (iI h)), (3, .int (iI i)), (4, .int (iI j))]) (st' := [.ref 530]) rfl ?_
          refine T_p xr_181_79 xn_181 (pc' := 81) (ls' := [(10, .int (iI k)), (8, .long (X_st (-1) su)), (7, .int (iI (X_eh G w h))), (6, .int (iI (gD G w 9 h))), (5, .int (iI (31 * i + j))), (0, .ref 530), (1, .int (iI w)), (2, .int (iI h)), (3, .int (iI i)), (4, .int (iI j))]) (st' := [.int (iI k), .ref 530]) rfl ?_
          refine T_p xr_181_81 xn_181 (pc' := 83) (ls' := [(10, .int (iI k)), (8, .long (X_st (-1) su)), (7, .int (iI (X_eh G w h))), (6, .int (iI (gD G w 9 h))), (5, .int (iI (31 * i + j))), (0, .ref 530), (1, .int (iI w)), (2, .int (iI h)), (3, .int (iI i)), (4, .int (iI j))]) (st' := [.int (iI (gD G w 9 h)), .int (iI k), .ref 530]) rfl ?_
          refine T_cv (S := S) (q := 530) xr_181_83 xf_168.1 xf_168.2.1 xn_168 (as := [.int (iI k), .int (iI (gD G w 9 h))]) (r := []) rfl hO530 (Nat.le_of_ble_eq_true rfl) (Nat.le_of_ble_eq_true rfl) (pc' := 86) rfl (ls' := [(0, .ref 530), (1, .int (iI k)), (2, .int (iI (gD G w 9 h)))]) rfl ?_
          refine T_mono (r_isUnder sc S kU o nm b rc G tn k (gD G w 9 h) hO530 hA536 (by omega) hG hKU (by omega) (by omega)) (fun v680 S681 h682 => ?_)
          rcases h682 with ⟨hv683, hf684⟩
          rw [hv683]
          rw [hf684]
          show X_T sc 181 (86, [(10, .int (iI k)), (8, .long (X_st (-1) su)), (7, .int (iI (X_eh G w h))), (6, .int (iI (gD G w 9 h))), (5, .int (iI (31 * i + j))), (0, .ref 530), (1, .int (iI w)), (2, .int (iI h)), (3, .int (iI i)), (4, .int (iI j))], [.int (iI (bI (X_bt (ga G k) (gD G w 9 h))))], S) _
          refine T_bif_eq xr_181_86 (t := 110) (pc' := 89) rfl rfl (fun c685 => ?_) (fun c685 => ?_)
          · skip
            have c685 : ¬ (X_bt (ga G k) (gD G w 9 h)) := c685
            refine T_ziinc xr_181_110 xn_181 (a := k) (z := k + 1) rfl (Nat.le_of_ble_eq_true rfl) (by omega) (ls' := [(10, .int (iI (k + 1))), (8, .long (X_st (-1) su)), (7, .int (iI (X_eh G w h))), (6, .int (iI (gD G w 9 h))), (5, .int (iI (31 * i + j))), (0, .ref 530), (1, .int (iI w)), (2, .int (iI h)), (3, .int (iI i)), (4, .int (iI j))]) rfl (pc' := 113) rfl ?_
            refine T_p xr_181_113 xn_181 (pc' := 69) (ls' := [(10, .int (iI (k + 1))), (8, .long (X_st (-1) su)), (7, .int (iI (X_eh G w h))), (6, .int (iI (gD G w 9 h))), (5, .int (iI (31 * i + j))), (0, .ref 530), (1, .int (iI w)), (2, .int (iI h)), (3, .int (iI i)), (4, .int (iI j))]) (st' := []) rfl ?_
            exact ih652 (k + 1) su  (by omega) (by first | exact ((X_Su_if (p := fun k => X_bt (ga G k) (gD G w 9 h)) (f := fun k => (X_T_ G).2 k i j) (show (0 : Int) ≤ k by omega)).1 (by assumption)).symm ▸ (by rw [hsu, Nat.add_assoc]) | exact ((X_Su_if (p := fun k => X_bt (ga G k) (gD G w 9 h)) (f := fun k => (X_T_ G).2 k i j) (show (0 : Int) ≤ k by omega)).2 (by assumption)).symm ▸ hsu) (by omega)
          · skip
            have c685 : (X_bt (ga G k) (gD G w 9 h)) := c685
            refine T_p xr_181_89 xn_181 (pc' := 91) (ls' := [(10, .int (iI k)), (8, .long (X_st (-1) su)), (7, .int (iI (X_eh G w h))), (6, .int (iI (gD G w 9 h))), (5, .int (iI (31 * i + j))), (0, .ref 530), (1, .int (iI w)), (2, .int (iI h)), (3, .int (iI i)), (4, .int (iI j))]) (st' := [.long (X_st (-1) su)]) rfl ?_
            refine T_p xr_181_91 xn_181 (pc' := 92) (ls' := [(10, .int (iI k)), (8, .long (X_st (-1) su)), (7, .int (iI (X_eh G w h))), (6, .int (iI (gD G w 9 h))), (5, .int (iI (31 * i + j))), (0, .ref 530), (1, .int (iI w)), (2, .int (iI h)), (3, .int (iI i)), (4, .int (iI j))]) (st' := [.ref 530, .long (X_st (-1) su)]) rfl ?_
            refine T_get xr_181_92 hO530 rfl (v := .ref 553) rfl (pc' := 95) rfl ?_
            refine T_p xr_181_95 xn_181 (pc' := 98) (ls' := [(10, .int (iI k)), (8, .long (X_st (-1) su)), (7, .int (iI (X_eh G w h))), (6, .int (iI (gD G w 9 h))), (5, .int (iI (31 * i + j))), (0, .ref 530), (1, .int (iI w)), (2, .int (iI h)), (3, .int (iI i)), (4, .int (iI j))]) (st' := [.int (iI 961), .ref 553, .long (X_st (-1) su)]) rfl ?_
            refine T_p xr_181_98 xn_181 (pc' := 100) (ls' := [(10, .int (iI k)), (8, .long (X_st (-1) su)), (7, .int (iI (X_eh G w h))), (6, .int (iI (gD G w 9 h))), (5, .int (iI (31 * i + j))), (0, .ref 530), (1, .int (iI w)), (2, .int (iI h)), (3, .int (iI i)), (4, .int (iI j))]) (st' := [.int (iI k), .int (iI 961), .ref 553, .long (X_st (-1) su)]) rfl ?_
            refine T_zimul xr_181_100 (z := 961 * k) rfl (pc' := 101) rfl ?_
            refine T_p xr_181_101 xn_181 (pc' := 103) (ls' := [(10, .int (iI k)), (8, .long (X_st (-1) su)), (7, .int (iI (X_eh G w h))), (6, .int (iI (gD G w 9 h))), (5, .int (iI (31 * i + j))), (0, .ref 530), (1, .int (iI w)), (2, .int (iI h)), (3, .int (iI i)), (4, .int (iI j))]) (st' := [.int (iI (31 * i + j)), .int (iI (961 * k)), .ref 553, .long (X_st (-1) su)]) rfl ?_
            refine T_ziadd xr_181_103 (z := (961 * k) + (31 * i + j)) rfl (pc' := 104) rfl ?_
            refine T_zlald xr_181_104 hA553 (pc' := 105) rfl ?_
            refine T_le (y := (X_st (-1) ((X_T_ G).2 k i j))) (hBa k (by omega) (by omega)) ?_
            refine T_cs xr_181_105 (by decide) xf_171.1 xn_171 (as := [.long (X_st (-1) su), .long (X_st (-1) ((X_T_ G).2 k i j))]) (r := []) rfl (Nat.le_of_ble_eq_true rfl) (Nat.le_of_ble_eq_true rfl) (pc' := 108) rfl (ls' := [(0, .long (X_st (-1) su)), (2, .long (X_st (-1) ((X_T_ G).2 k i j)))]) rfl ?_
            refine T_mono (r_sum sc S su ((X_T_ G).2 k i j)) (fun v686 S687 h688 => ?_)
            rcases h688 with ⟨hv689, hf690⟩
            rw [hv689]
            rw [hf690]
            show X_T sc 181 (108, [(10, .int (iI k)), (8, .long (X_st (-1) su)), (7, .int (iI (X_eh G w h))), (6, .int (iI (gD G w 9 h))), (5, .int (iI (31 * i + j))), (0, .ref 530), (1, .int (iI w)), (2, .int (iI h)), (3, .int (iI i)), (4, .int (iI j))], [.long (X_st (-1) (su + ((X_T_ G).2 k i j)))], S) _
            refine T_p xr_181_108 xn_181 (pc' := 110) (ls' := [(8, .long (X_st (-1) (su + ((X_T_ G).2 k i j)))), (10, .int (iI k)), (7, .int (iI (X_eh G w h))), (6, .int (iI (gD G w 9 h))), (5, .int (iI (31 * i + j))), (0, .ref 530), (1, .int (iI w)), (2, .int (iI h)), (3, .int (iI i)), (4, .int (iI j))]) (st' := []) rfl ?_
            refine T_ziinc xr_181_110 xn_181 (a := k) (z := k + 1) rfl (Nat.le_of_ble_eq_true rfl) (by omega) (ls' := [(10, .int (iI (k + 1))), (8, .long (X_st (-1) (su + ((X_T_ G).2 k i j)))), (7, .int (iI (X_eh G w h))), (6, .int (iI (gD G w 9 h))), (5, .int (iI (31 * i + j))), (0, .ref 530), (1, .int (iI w)), (2, .int (iI h)), (3, .int (iI i)), (4, .int (iI j))]) rfl (pc' := 113) rfl ?_
            refine T_p xr_181_113 xn_181 (pc' := 69) (ls' := [(10, .int (iI (k + 1))), (8, .long (X_st (-1) (su + ((X_T_ G).2 k i j)))), (7, .int (iI (X_eh G w h))), (6, .int (iI (gD G w 9 h))), (5, .int (iI (31 * i + j))), (0, .ref 530), (1, .int (iI w)), (2, .int (iI h)), (3, .int (iI i)), (4, .int (iI j))]) (st' := []) rfl ?_
            exact ih652 (k + 1) (su + ((X_T_ G).2 k i j))  (by omega) (by first | exact ((X_Su_if (p := fun k => X_bt (ga G k) (gD G w 9 h)) (f := fun k => (X_T_ G).2 k i j) (show (0 : Int) ≤ k by omega)).1 (by assumption)).symm ▸ (by rw [hsu, Nat.add_assoc]) | exact ((X_Su_if (p := fun k => X_bt (ga G k) (gD G w 9 h)) (f := fun k => (X_T_ G).2 k i j) (show (0 : Int) ≤ k by omega)).2 (by assumption)).symm ▸ hsu) (by omega)
    exact L651 ((gk G) + 1).toNat 0 (X_if ((j = i + 1 ∧ 0 ≤ X_nv (gt G i)) ∧ X_bt (ga G (bI (1 < gk G))) (gD G w 9 h)) 1)  (by omega) (by rw [X_Su_e (Int.le_refl 0)]; rfl) (by omega)
  refine T_p xr_181_36 xn_181 (pc' := 37) (ls' := [(7, .int (iI (X_eh G w h))), (6, .int (iI (gD G w 9 h))), (5, .int (iI ((31 * i) + j))), (0, .ref 530), (1, .int (iI w)), (2, .int (iI h)), (3, .int (iI i)), (4, .int (iI j))]) (st' := [.ref 530]) rfl ?_
  refine T_p xr_181_37 xn_181 (pc' := 38) (ls' := [(7, .int (iI (X_eh G w h))), (6, .int (iI (gD G w 9 h))), (5, .int (iI ((31 * i) + j))), (0, .ref 530), (1, .int (iI w)), (2, .int (iI h)), (3, .int (iI i)), (4, .int (iI j))]) (st' := [.int (iI i), .ref 530]) rfl ?_
  refine T_p xr_181_38 xn_181 (pc' := 40) (ls' := [(7, .int (iI (X_eh G w h))), (6, .int (iI (gD G w 9 h))), (5, .int (iI ((31 * i) + j))), (0, .ref 530), (1, .int (iI w)), (2, .int (iI h)), (3, .int (iI i)), (4, .int (iI j))]) (st' := [.int (iI j), .int (iI i), .ref 530]) rfl ?_
  refine T_cv (S := S) (q := 530) xr_181_40 xf_176.1 xf_176.2.1 xn_176 (as := [.int (iI i), .int (iI j)]) (r := []) rfl hO530 (Nat.le_of_ble_eq_true rfl) (Nat.le_of_ble_eq_true rfl) (pc' := 43) rfl (ls' := [(0, .ref 530), (1, .int (iI i)), (2, .int (iI j))]) rfl ?_
  refine T_mono (r_isNumber sc S tU o nm b rc G tn i j hO530 hA550 (by omega) hTU (by omega)) (fun v691 S692 h693 => ?_)
  rcases h693 with ⟨hv694, hf695⟩
  rw [hv694]
  rw [hf695]
  show X_T sc 181 (43, [(7, .int (iI (X_eh G w h))), (6, .int (iI (gD G w 9 h))), (5, .int (iI ((31 * i) + j))), (0, .ref 530), (1, .int (iI w)), (2, .int (iI h)), (3, .int (iI i)), (4, .int (iI j))], [.int (iI (bI (j = i + 1 ∧ 0 ≤ X_nv (gt G i))))], S) _
  refine T_bif_eq xr_181_43 (t := 63) (pc' := 46) rfl rfl (fun c696 => ?_) (fun c696 => ?_)
  · skip
    have c696 : ¬ (j = i + 1 ∧ 0 ≤ X_nv (gt G i)) := c696
    refine T_p xr_181_63 xn_181 (pc' := 64) (ls' := [(7, .int (iI (X_eh G w h))), (6, .int (iI (gD G w 9 h))), (5, .int (iI ((31 * i) + j))), (0, .ref 530), (1, .int (iI w)), (2, .int (iI h)), (3, .int (iI i)), (4, .int (iI j))]) (st' := [.long (iL 0)]) rfl ?_
    refine T_le (y := (X_st (-1) (X_if ((j = i + 1 ∧ 0 ≤ X_nv (gt G i)) ∧ X_bt (ga G (bI (1 < gk G))) (gD G w 9 h)) 1))) (by rw [X_if_f (n := 1) (fun z => by first | exact absurd z.1 (by assumption) | (have z2 := z.2; rw [hnk.1 (by omega)] at z2; contradiction) | (have z2 := z.2; rw [hnk.2 (by omega)] at z2; contradiction))]; rfl) ?_
    refine T_p xr_181_64 xn_181 (pc' := 66) (ls' := [(8, .long (X_st (-1) (X_if ((j = i + 1 ∧ 0 ≤ X_nv (gt G i)) ∧ X_bt (ga G (bI (1 < gk G))) (gD G w 9 h)) 1))), (7, .int (iI (X_eh G w h))), (6, .int (iI (gD G w 9 h))), (5, .int (iI ((31 * i) + j))), (0, .ref 530), (1, .int (iI w)), (2, .int (iI h)), (3, .int (iI i)), (4, .int (iI j))]) (st' := []) rfl ?_
    exact J650
  · skip
    have c696 : (j = i + 1 ∧ 0 ≤ X_nv (gt G i)) := c696
    refine T_p xr_181_46 xn_181 (pc' := 47) (ls' := [(7, .int (iI (X_eh G w h))), (6, .int (iI (gD G w 9 h))), (5, .int (iI ((31 * i) + j))), (0, .ref 530), (1, .int (iI w)), (2, .int (iI h)), (3, .int (iI i)), (4, .int (iI j))]) (st' := [.ref 530]) rfl ?_
    refine T_p xr_181_47 xn_181 (pc' := 48) (ls' := [(7, .int (iI (X_eh G w h))), (6, .int (iI (gD G w 9 h))), (5, .int (iI ((31 * i) + j))), (0, .ref 530), (1, .int (iI w)), (2, .int (iI h)), (3, .int (iI i)), (4, .int (iI j))]) (st' := [.ref 530, .ref 530]) rfl ?_
    refine T_cv (S := S) (q := 530) xr_181_48 xf_174.1 xf_174.2.1 xn_174 (as := []) (r := [.ref 530]) rfl hO530 (Nat.le_of_ble_eq_true rfl) (Nat.le_of_ble_eq_true rfl) (pc' := 51) rfl (ls' := [(0, .ref 530)]) rfl ?_
    refine T_p xr_174_0 xn_174 (pc' := 1) (ls' := [(0, .ref 530)]) (st' := [.ref 530]) rfl ?_
    refine T_get xr_174_1 hO530 rfl (v := .int (iI (gk G))) rfl (pc' := 4) rfl ?_
    refine T_p xr_174_4 xn_174 (pc' := 5) (ls' := [(0, .ref 530)]) (st' := [.int (iI 1), .int (iI (gk G))]) rfl ?_
    refine T_zicmp_le xr_174_5 (t := 12) (pc' := 8) rfl rfl (fun c697 => ?_) (fun c697 => ?_)
    · skip
      have c697 : (gk G) ≤ 1 := c697
      refine T_p xr_174_12 xn_174 (pc' := 13) (ls' := [(0, .ref 530)]) (st' := [.int (iI 0)]) rfl ?_
      refine T_iret xr_174_13 xf_174.2.2 rfl ?_
      show X_T sc 181 (51, [(7, .int (iI (X_eh G w h))), (6, .int (iI (gD G w 9 h))), (5, .int (iI ((31 * i) + j))), (0, .ref 530), (1, .int (iI w)), (2, .int (iI h)), (3, .int (iI i)), (4, .int (iI j))], [.int (iI 0), .ref 530], S) _
      refine T_p xr_181_51 xn_181 (pc' := 53) (ls' := [(7, .int (iI (X_eh G w h))), (6, .int (iI (gD G w 9 h))), (5, .int (iI ((31 * i) + j))), (0, .ref 530), (1, .int (iI w)), (2, .int (iI h)), (3, .int (iI i)), (4, .int (iI j))]) (st' := [.int (iI (gD G w 9 h)), .int (iI 0), .ref 530]) rfl ?_
      refine T_cv (S := S) (q := 530) xr_181_53 xf_168.1 xf_168.2.1 xn_168 (as := [.int (iI 0), .int (iI (gD G w 9 h))]) (r := []) rfl hO530 (Nat.le_of_ble_eq_true rfl) (Nat.le_of_ble_eq_true rfl) (pc' := 56) rfl (ls' := [(0, .ref 530), (1, .int (iI 0)), (2, .int (iI (gD G w 9 h)))]) rfl ?_
      refine T_mono (r_isUnder sc S kU o nm b rc G tn 0 (gD G w 9 h) hO530 hA536 (by omega) hG hKU (by omega) (by omega)) (fun v698 S699 h700 => ?_)
      rcases h700 with ⟨hv701, hf702⟩
      rw [hv701]
      rw [hf702]
      show X_T sc 181 (56, [(7, .int (iI (X_eh G w h))), (6, .int (iI (gD G w 9 h))), (5, .int (iI ((31 * i) + j))), (0, .ref 530), (1, .int (iI w)), (2, .int (iI h)), (3, .int (iI i)), (4, .int (iI j))], [.int (iI (bI (X_bt (ga G 0) (gD G w 9 h))))], S) _
      refine T_bif_eq xr_181_56 (t := 63) (pc' := 59) rfl rfl (fun c703 => ?_) (fun c703 => ?_)
      · skip
        have c703 : ¬ (X_bt (ga G 0) (gD G w 9 h)) := c703
        refine T_p xr_181_63 xn_181 (pc' := 64) (ls' := [(7, .int (iI (X_eh G w h))), (6, .int (iI (gD G w 9 h))), (5, .int (iI ((31 * i) + j))), (0, .ref 530), (1, .int (iI w)), (2, .int (iI h)), (3, .int (iI i)), (4, .int (iI j))]) (st' := [.long (iL 0)]) rfl ?_
        refine T_le (y := (X_st (-1) (X_if ((j = i + 1 ∧ 0 ≤ X_nv (gt G i)) ∧ X_bt (ga G (bI (1 < gk G))) (gD G w 9 h)) 1))) (by rw [X_if_f (n := 1) (fun z => by first | exact absurd z.1 (by assumption) | (have z2 := z.2; rw [hnk.1 (by omega)] at z2; contradiction) | (have z2 := z.2; rw [hnk.2 (by omega)] at z2; contradiction))]; rfl) ?_
        refine T_p xr_181_64 xn_181 (pc' := 66) (ls' := [(8, .long (X_st (-1) (X_if ((j = i + 1 ∧ 0 ≤ X_nv (gt G i)) ∧ X_bt (ga G (bI (1 < gk G))) (gD G w 9 h)) 1))), (7, .int (iI (X_eh G w h))), (6, .int (iI (gD G w 9 h))), (5, .int (iI ((31 * i) + j))), (0, .ref 530), (1, .int (iI w)), (2, .int (iI h)), (3, .int (iI i)), (4, .int (iI j))]) (st' := []) rfl ?_
        exact J650
      · skip
        have c703 : (X_bt (ga G 0) (gD G w 9 h)) := c703
        refine T_p xr_181_59 xn_181 (pc' := 60) (ls' := [(7, .int (iI (X_eh G w h))), (6, .int (iI (gD G w 9 h))), (5, .int (iI ((31 * i) + j))), (0, .ref 530), (1, .int (iI w)), (2, .int (iI h)), (3, .int (iI i)), (4, .int (iI j))]) (st' := [.long (iL 1)]) rfl ?_
        refine T_p xr_181_60 xn_181 (pc' := 64) (ls' := [(7, .int (iI (X_eh G w h))), (6, .int (iI (gD G w 9 h))), (5, .int (iI ((31 * i) + j))), (0, .ref 530), (1, .int (iI w)), (2, .int (iI h)), (3, .int (iI i)), (4, .int (iI j))]) (st' := [.long (iL 1)]) rfl ?_
        refine T_le (y := (X_st (-1) (X_if ((j = i + 1 ∧ 0 ≤ X_nv (gt G i)) ∧ X_bt (ga G (bI (1 < gk G))) (gD G w 9 h)) 1))) (by rw [X_if_t (n := 1) ⟨by omega, by first | (rw [hnk.1 (by omega)]; assumption) | (rw [hnk.2 (by omega)]; assumption)⟩]; rfl) ?_
        refine T_p xr_181_64 xn_181 (pc' := 66) (ls' := [(8, .long (X_st (-1) (X_if ((j = i + 1 ∧ 0 ≤ X_nv (gt G i)) ∧ X_bt (ga G (bI (1 < gk G))) (gD G w 9 h)) 1))), (7, .int (iI (X_eh G w h))), (6, .int (iI (gD G w 9 h))), (5, .int (iI ((31 * i) + j))), (0, .ref 530), (1, .int (iI w)), (2, .int (iI h)), (3, .int (iI i)), (4, .int (iI j))]) (st' := []) rfl ?_
        exact J650
    · skip
      have c697 : ¬ ((gk G) ≤ 1) := c697
      refine T_p xr_174_8 xn_174 (pc' := 9) (ls' := [(0, .ref 530)]) (st' := [.int (iI 1)]) rfl ?_
      refine T_p xr_174_9 xn_174 (pc' := 13) (ls' := [(0, .ref 530)]) (st' := [.int (iI 1)]) rfl ?_
      refine T_iret xr_174_13 xf_174.2.2 rfl ?_
      show X_T sc 181 (51, [(7, .int (iI (X_eh G w h))), (6, .int (iI (gD G w 9 h))), (5, .int (iI ((31 * i) + j))), (0, .ref 530), (1, .int (iI w)), (2, .int (iI h)), (3, .int (iI i)), (4, .int (iI j))], [.int (iI 1), .ref 530], S) _
      refine T_p xr_181_51 xn_181 (pc' := 53) (ls' := [(7, .int (iI (X_eh G w h))), (6, .int (iI (gD G w 9 h))), (5, .int (iI ((31 * i) + j))), (0, .ref 530), (1, .int (iI w)), (2, .int (iI h)), (3, .int (iI i)), (4, .int (iI j))]) (st' := [.int (iI (gD G w 9 h)), .int (iI 1), .ref 530]) rfl ?_
      refine T_cv (S := S) (q := 530) xr_181_53 xf_168.1 xf_168.2.1 xn_168 (as := [.int (iI 1), .int (iI (gD G w 9 h))]) (r := []) rfl hO530 (Nat.le_of_ble_eq_true rfl) (Nat.le_of_ble_eq_true rfl) (pc' := 56) rfl (ls' := [(0, .ref 530), (1, .int (iI 1)), (2, .int (iI (gD G w 9 h)))]) rfl ?_
      refine T_mono (r_isUnder sc S kU o nm b rc G tn 1 (gD G w 9 h) hO530 hA536 (by omega) hG hKU (by omega) (by omega)) (fun v704 S705 h706 => ?_)
      rcases h706 with ⟨hv707, hf708⟩
      rw [hv707]
      rw [hf708]
      show X_T sc 181 (56, [(7, .int (iI (X_eh G w h))), (6, .int (iI (gD G w 9 h))), (5, .int (iI ((31 * i) + j))), (0, .ref 530), (1, .int (iI w)), (2, .int (iI h)), (3, .int (iI i)), (4, .int (iI j))], [.int (iI (bI (X_bt (ga G 1) (gD G w 9 h))))], S) _
      refine T_bif_eq xr_181_56 (t := 63) (pc' := 59) rfl rfl (fun c709 => ?_) (fun c709 => ?_)
      · skip
        have c709 : ¬ (X_bt (ga G 1) (gD G w 9 h)) := c709
        refine T_p xr_181_63 xn_181 (pc' := 64) (ls' := [(7, .int (iI (X_eh G w h))), (6, .int (iI (gD G w 9 h))), (5, .int (iI ((31 * i) + j))), (0, .ref 530), (1, .int (iI w)), (2, .int (iI h)), (3, .int (iI i)), (4, .int (iI j))]) (st' := [.long (iL 0)]) rfl ?_
        refine T_le (y := (X_st (-1) (X_if ((j = i + 1 ∧ 0 ≤ X_nv (gt G i)) ∧ X_bt (ga G (bI (1 < gk G))) (gD G w 9 h)) 1))) (by rw [X_if_f (n := 1) (fun z => by first | exact absurd z.1 (by assumption) | (have z2 := z.2; rw [hnk.1 (by omega)] at z2; contradiction) | (have z2 := z.2; rw [hnk.2 (by omega)] at z2; contradiction))]; rfl) ?_
        refine T_p xr_181_64 xn_181 (pc' := 66) (ls' := [(8, .long (X_st (-1) (X_if ((j = i + 1 ∧ 0 ≤ X_nv (gt G i)) ∧ X_bt (ga G (bI (1 < gk G))) (gD G w 9 h)) 1))), (7, .int (iI (X_eh G w h))), (6, .int (iI (gD G w 9 h))), (5, .int (iI ((31 * i) + j))), (0, .ref 530), (1, .int (iI w)), (2, .int (iI h)), (3, .int (iI i)), (4, .int (iI j))]) (st' := []) rfl ?_
        exact J650
      · skip
        have c709 : (X_bt (ga G 1) (gD G w 9 h)) := c709
        refine T_p xr_181_59 xn_181 (pc' := 60) (ls' := [(7, .int (iI (X_eh G w h))), (6, .int (iI (gD G w 9 h))), (5, .int (iI ((31 * i) + j))), (0, .ref 530), (1, .int (iI w)), (2, .int (iI h)), (3, .int (iI i)), (4, .int (iI j))]) (st' := [.long (iL 1)]) rfl ?_
        refine T_p xr_181_60 xn_181 (pc' := 64) (ls' := [(7, .int (iI (X_eh G w h))), (6, .int (iI (gD G w 9 h))), (5, .int (iI ((31 * i) + j))), (0, .ref 530), (1, .int (iI w)), (2, .int (iI h)), (3, .int (iI i)), (4, .int (iI j))]) (st' := [.long (iL 1)]) rfl ?_
        refine T_le (y := (X_st (-1) (X_if ((j = i + 1 ∧ 0 ≤ X_nv (gt G i)) ∧ X_bt (ga G (bI (1 < gk G))) (gD G w 9 h)) 1))) (by rw [X_if_t (n := 1) ⟨by omega, by first | (rw [hnk.1 (by omega)]; assumption) | (rw [hnk.2 (by omega)]; assumption)⟩]; rfl) ?_
        refine T_p xr_181_64 xn_181 (pc' := 66) (ls' := [(8, .long (X_st (-1) (X_if ((j = i + 1 ∧ 0 ≤ X_nv (gt G i)) ∧ X_bt (ga G (bI (1 < gk G))) (gD G w 9 h)) 1))), (7, .int (iI (X_eh G w h))), (6, .int (iI (gD G w 9 h))), (5, .int (iI ((31 * i) + j))), (0, .ref 530), (1, .int (iI w)), (2, .int (iI h)), (3, .int (iI i)), (4, .int (iI j))]) (st' := []) rfl ?_
        exact J650
