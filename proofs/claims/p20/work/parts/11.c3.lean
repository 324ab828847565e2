theorem xr_90_0 : X_row 90 0 = some (0, (.aload_n 0, 1), (0, 0, 0)) := by decide +kernel
theorem xr_90_1 : X_row 90 1 = some (1, (.iload_n 1, 1), (0, 0, 0)) := by decide +kernel
theorem xr_90_2 : X_row 90 2 = some (2, (.putfield 34, 3), (8, 0, 0)) := by decide +kernel
theorem xr_90_5 : X_row 90 5 = some (5, (.aload_n 0, 1), (0, 0, 0)) := by decide +kernel
theorem xr_90_6 : X_row 90 6 = some (6, (.iconst 0, 1), (0, 0, 0)) := by decide +kernel
theorem xr_90_7 : X_row 90 7 = some (7, (.putfield 38, 3), (8, 1, 2)) := by decide +kernel
theorem xr_90_10 : X_row 90 10 = some (10, (.aload_n 0, 1), (0, 0, 0)) := by decide +kernel
theorem xr_90_11 : X_row 90 11 = some (11, (.iconst 0, 1), (0, 0, 0)) := by decide +kernel
theorem xr_90_12 : X_row 90 12 = some (12, (.putfield 41, 3), (8, 2, 4)) := by decide +kernel
theorem xr_90_15 : X_row 90 15 = some (15, (.aload_n 0, 1), (0, 0, 0)) := by decide +kernel
theorem xr_90_16 : X_row 90 16 = some (16, (.iconst 0, 1), (0, 0, 0)) := by decide +kernel
theorem xr_90_17 : X_row 90 17 = some (17, (.putfield 44, 3), (8, 3, 6)) := by decide +kernel
theorem xr_90_20 : X_row 90 20 = some (20, (.aload_n 0, 1), (0, 0, 0)) := by decide +kernel
theorem xr_90_21 : X_row 90 21 = some (21, (.iconst 0, 1), (0, 0, 0)) := by decide +kernel
theorem xr_90_22 : X_row 90 22 = some (22, (.putfield 47, 3), (8, 4, 8)) := by decide +kernel
theorem xr_90_25 : X_row 90 25 = some (25, (.aload_n 0, 1), (0, 0, 0)) := by decide +kernel
theorem xr_90_26 : X_row 90 26 = some (26, (.iconst (-1), 1), (0, 0, 0)) := by decide +kernel
theorem xr_90_27 : X_row 90 27 = some (27, (.putfield 50, 3), (8, 5, 10)) := by decide +kernel
theorem xr_90_30 : X_row 90 30 = some (30, (.aload_n 0, 1), (0, 0, 0)) := by decide +kernel
theorem xr_90_31 : X_row 90 31 = some (31, (.iconst 0, 1), (0, 0, 0)) := by decide +kernel
theorem xr_90_32 : X_row 90 32 = some (32, (.putfield 53, 3), (8, 6, 12)) := by decide +kernel
theorem xr_90_35 : X_row 90 35 = some (35, (.aload_n 0, 1), (0, 0, 0)) := by decide +kernel
theorem xr_90_36 : X_row 90 36 = some (36, (.iconst 0, 1), (0, 0, 0)) := by decide +kernel
theorem xr_90_37 : X_row 90 37 = some (37, (.putfield 57, 3), (8, 7, 14)) := by decide +kernel
theorem xr_90_40 : X_row 90 40 = some (40, (.return_, 1), (0, 0, 0)) := by decide +kernel
theorem xr_91_0 : X_row 91 0 = some (0, (.aload_n 0, 1), (0, 0, 0)) := by decide +kernel
theorem xr_91_1 : X_row 91 1 = some (1, (.getfield 44, 3), (8, 3, 6)) := by decide +kernel
theorem xr_91_4 : X_row 91 4 = some (4, (.bipush 8, 2), (0, 0, 0)) := by decide +kernel
theorem xr_91_6 : X_row 91 6 = some (6, (.if_icmp .ge 23, 3), (0, 0, 0)) := by decide +kernel
theorem xr_91_9 : X_row 91 9 = some (9, (.aload_n 0, 1), (0, 0, 0)) := by decide +kernel
theorem xr_91_10 : X_row 91 10 = some (10, (.getfield 9, 3), (8, 8, 16)) := by decide +kernel
theorem xr_91_13 : X_row 91 13 = some (13, (.aload_n 0, 1), (0, 0, 0)) := by decide +kernel
theorem xr_91_14 : X_row 91 14 = some (14, (.getfield 44, 3), (8, 3, 6)) := by decide +kernel
theorem xr_91_17 : X_row 91 17 = some (17, (.lload_n 1, 1), (0, 0, 0)) := by decide +kernel
theorem xr_91_18 : X_row 91 18 = some (18, (.lastore, 1), (0, 0, 0)) := by decide +kernel
theorem xr_91_19 : X_row 91 19 = some (19, (.aload_n 0, 1), (0, 0, 0)) := by decide +kernel
theorem xr_91_20 : X_row 91 20 = some (20, (.dup, 1), (0, 0, 0)) := by decide +kernel
theorem xr_91_21 : X_row 91 21 = some (21, (.getfield 44, 3), (8, 3, 6)) := by decide +kernel
theorem xr_91_24 : X_row 91 24 = some (24, (.iconst 1, 1), (0, 0, 0)) := by decide +kernel
theorem xr_91_25 : X_row 91 25 = some (25, (.iadd, 1), (0, 0, 0)) := by decide +kernel
theorem xr_91_26 : X_row 91 26 = some (26, (.putfield 44, 3), (8, 3, 6)) := by decide +kernel
theorem xr_91_29 : X_row 91 29 = some (29, (.return_, 1), (0, 0, 0)) := by decide +kernel
theorem xr_92_0 : X_row 92 0 = some (0, (.aload_n 0, 1), (0, 0, 0)) := by decide +kernel
theorem xr_92_1 : X_row 92 1 = some (1, (.getfield 44, 3), (8, 3, 6)) := by decide +kernel
theorem xr_92_4 : X_row 92 4 = some (4, (.bipush 8, 2), (0, 0, 0)) := by decide +kernel
theorem xr_92_6 : X_row 92 6 = some (6, (.if_icmp .ge 28, 3), (0, 0, 0)) := by decide +kernel
theorem xr_92_9 : X_row 92 9 = some (9, (.aload_n 0, 1), (0, 0, 0)) := by decide +kernel
theorem xr_92_10 : X_row 92 10 = some (10, (.getfield 47, 3), (8, 4, 8)) := by decide +kernel
theorem xr_92_13 : X_row 92 13 = some (13, (.iconst 4, 1), (0, 0, 0)) := by decide +kernel
theorem xr_92_14 : X_row 92 14 = some (14, (.if_icmp .ge 20, 3), (0, 0, 0)) := by decide +kernel
theorem xr_92_17 : X_row 92 17 = some (17, (.aload_n 0, 1), (0, 0, 0)) := by decide +kernel
theorem xr_92_18 : X_row 92 18 = some (18, (.aload_n 0, 1), (0, 0, 0)) := by decide +kernel
theorem xr_92_19 : X_row 92 19 = some (19, (.getfield 44, 3), (8, 3, 6)) := by decide +kernel
theorem xr_92_22 : X_row 92 22 = some (22, (.iconst 1, 1), (0, 0, 0)) := by decide +kernel
theorem xr_92_23 : X_row 92 23 = some (23, (.isub, 1), (0, 0, 0)) := by decide +kernel
theorem xr_92_24 : X_row 92 24 = some (24, (.invokevirtual 60, 3), (95, 0, 0)) := by decide +kernel
theorem xr_92_27 : X_row 92 27 = some (27, (.ifCond .ne 7, 3), (0, 0, 0)) := by decide +kernel
theorem xr_92_30 : X_row 92 30 = some (30, (.iconst 1, 1), (0, 0, 0)) := by decide +kernel
theorem xr_92_31 : X_row 92 31 = some (31, (.goto 4, 3), (0, 0, 0)) := by decide +kernel
theorem xr_92_34 : X_row 92 34 = some (34, (.iconst 0, 1), (0, 0, 0)) := by decide +kernel
theorem xr_92_35 : X_row 92 35 = some (35, (.ireturn, 1), (0, 0, 0)) := by decide +kernel
theorem xr_93_0 : X_row 93 0 = some (0, (.aload_n 0, 1), (0, 0, 0)) := by decide +kernel
theorem xr_93_1 : X_row 93 1 = some (1, (.getfield 44, 3), (8, 3, 6)) := by decide +kernel
theorem xr_93_4 : X_row 93 4 = some (4, (.bipush 8, 2), (0, 0, 0)) := by decide +kernel
theorem xr_93_6 : X_row 93 6 = some (6, (.if_icmp .ge 64, 3), (0, 0, 0)) := by decide +kernel
theorem xr_93_9 : X_row 93 9 = some (9, (.aload_n 0, 1), (0, 0, 0)) := by decide +kernel
theorem xr_93_10 : X_row 93 10 = some (10, (.getfield 47, 3), (8, 4, 8)) := by decide +kernel
theorem xr_93_13 : X_row 93 13 = some (13, (.iconst 4, 1), (0, 0, 0)) := by decide +kernel
theorem xr_93_14 : X_row 93 14 = some (14, (.if_icmp .ge 56, 3), (0, 0, 0)) := by decide +kernel
theorem xr_93_17 : X_row 93 17 = some (17, (.aload_n 0, 1), (0, 0, 0)) := by decide +kernel
theorem xr_93_18 : X_row 93 18 = some (18, (.getfield 9, 3), (8, 8, 16)) := by decide +kernel
theorem xr_93_21 : X_row 93 21 = some (21, (.aload_n 0, 1), (0, 0, 0)) := by decide +kernel
theorem xr_93_22 : X_row 93 22 = some (22, (.getfield 44, 3), (8, 3, 6)) := by decide +kernel
theorem xr_93_25 : X_row 93 25 = some (25, (.lconst 0, 1), (0, 0, 0)) := by decide +kernel
theorem xr_93_26 : X_row 93 26 = some (26, (.lastore, 1), (0, 0, 0)) := by decide +kernel
theorem xr_93_27 : X_row 93 27 = some (27, (.aload_n 0, 1), (0, 0, 0)) := by decide +kernel
theorem xr_93_28 : X_row 93 28 = some (28, (.getfield 15, 3), (8, 9, 18)) := by decide +kernel
theorem xr_93_31 : X_row 93 31 = some (31, (.aload_n 0, 1), (0, 0, 0)) := by decide +kernel
theorem xr_93_32 : X_row 93 32 = some (32, (.getfield 44, 3), (8, 3, 6)) := by decide +kernel
theorem xr_93_35 : X_row 93 35 = some (35, (.aload_n 0, 1), (0, 0, 0)) := by decide +kernel
theorem xr_93_36 : X_row 93 36 = some (36, (.getfield 47, 3), (8, 4, 8)) := by decide +kernel
theorem xr_93_39 : X_row 93 39 = some (39, (.iastore, 1), (0, 0, 0)) := by decide +kernel
theorem xr_93_40 : X_row 93 40 = some (40, (.aload_n 0, 1), (0, 0, 0)) := by decide +kernel
theorem xr_93_41 : X_row 93 41 = some (41, (.getfield 19, 3), (8, 10, 20)) := by decide +kernel
theorem xr_93_44 : X_row 93 44 = some (44, (.aload_n 0, 1), (0, 0, 0)) := by decide +kernel
theorem xr_93_45 : X_row 93 45 = some (45, (.getfield 47, 3), (8, 4, 8)) := by decide +kernel
theorem xr_93_48 : X_row 93 48 = some (48, (.iload_n 1, 1), (0, 0, 0)) := by decide +kernel
theorem xr_93_49 : X_row 93 49 = some (49, (.iastore, 1), (0, 0, 0)) := by decide +kernel
theorem xr_93_50 : X_row 93 50 = some (50, (.aload_n 0, 1), (0, 0, 0)) := by decide +kernel
theorem xr_93_51 : X_row 93 51 = some (51, (.dup, 1), (0, 0, 0)) := by decide +kernel
theorem xr_93_52 : X_row 93 52 = some (52, (.getfield 44, 3), (8, 3, 6)) := by decide +kernel
theorem xr_93_55 : X_row 93 55 = some (55, (.iconst 1, 1), (0, 0, 0)) := by decide +kernel
theorem xr_93_56 : X_row 93 56 = some (56, (.iadd, 1), (0, 0, 0)) := by decide +kernel
theorem xr_93_57 : X_row 93 57 = some (57, (.putfield 44, 3), (8, 3, 6)) := by decide +kernel
theorem xr_93_60 : X_row 93 60 = some (60, (.aload_n 0, 1), (0, 0, 0)) := by decide +kernel
theorem xr_93_61 : X_row 93 61 = some (61, (.dup, 1), (0, 0, 0)) := by decide +kernel
theorem xr_93_62 : X_row 93 62 = some (62, (.getfield 47, 3), (8, 4, 8)) := by decide +kernel
theorem xr_93_65 : X_row 93 65 = some (65, (.iconst 1, 1), (0, 0, 0)) := by decide +kernel
theorem xr_93_66 : X_row 93 66 = some (66, (.iadd, 1), (0, 0, 0)) := by decide +kernel
theorem xr_93_67 : X_row 93 67 = some (67, (.putfield 47, 3), (8, 4, 8)) := by decide +kernel
theorem xr_93_70 : X_row 93 70 = some (70, (.return_, 1), (0, 0, 0)) := by decide +kernel
theorem xr_94_0 : X_row 94 0 = some (0, (.aload_n 0, 1), (0, 0, 0)) := by decide +kernel
theorem xr_94_1 : X_row 94 1 = some (1, (.getfield 50, 3), (8, 5, 10)) := by decide +kernel
theorem xr_94_4 : X_row 94 4 = some (4, (.ifCond .lt 42, 3), (0, 0, 0)) := by decide +kernel
theorem xr_94_7 : X_row 94 7 = some (7, (.aload_n 0, 1), (0, 0, 0)) := by decide +kernel
theorem xr_94_8 : X_row 94 8 = some (8, (.getfield 50, 3), (8, 5, 10)) := by decide +kernel
theorem xr_94_11 : X_row 94 11 = some (11, (.bipush 30, 2), (0, 0, 0)) := by decide +kernel
theorem xr_94_13 : X_row 94 13 = some (13, (.if_icmp .ge 33, 3), (0, 0, 0)) := by decide +kernel
theorem xr_94_16 : X_row 94 16 = some (16, (.aload_n 0, 1), (0, 0, 0)) := by decide +kernel
theorem xr_94_17 : X_row 94 17 = some (17, (.getfield 28, 3), (8, 13, 26)) := by decide +kernel
theorem xr_94_20 : X_row 94 20 = some (20, (.aload_n 0, 1), (0, 0, 0)) := by decide +kernel
theorem xr_94_21 : X_row 94 21 = some (21, (.getfield 50, 3), (8, 5, 10)) := by decide +kernel
theorem xr_94_24 : X_row 94 24 = some (24, (.iload_n 1, 1), (0, 0, 0)) := by decide +kernel
theorem xr_94_25 : X_row 94 25 = some (25, (.iastore, 1), (0, 0, 0)) := by decide +kernel
theorem xr_94_26 : X_row 94 26 = some (26, (.aload_n 0, 1), (0, 0, 0)) := by decide +kernel
theorem xr_94_27 : X_row 94 27 = some (27, (.getfield 31, 3), (8, 14, 28)) := by decide +kernel
theorem xr_94_30 : X_row 94 30 = some (30, (.aload_n 0, 1), (0, 0, 0)) := by decide +kernel
theorem xr_94_31 : X_row 94 31 = some (31, (.getfield 50, 3), (8, 5, 10)) := by decide +kernel
theorem xr_94_34 : X_row 94 34 = some (34, (.iload_n 2, 1), (0, 0, 0)) := by decide +kernel
theorem xr_94_35 : X_row 94 35 = some (35, (.iastore, 1), (0, 0, 0)) := by decide +kernel
theorem xr_94_36 : X_row 94 36 = some (36, (.aload_n 0, 1), (0, 0, 0)) := by decide +kernel
theorem xr_94_37 : X_row 94 37 = some (37, (.dup, 1), (0, 0, 0)) := by decide +kernel
theorem xr_94_38 : X_row 94 38 = some (38, (.getfield 50, 3), (8, 5, 10)) := by decide +kernel
theorem xr_94_41 : X_row 94 41 = some (41, (.iconst 1, 1), (0, 0, 0)) := by decide +kernel
theorem xr_94_42 : X_row 94 42 = some (42, (.iadd, 1), (0, 0, 0)) := by decide +kernel
theorem xr_94_43 : X_row 94 43 = some (43, (.putfield 50, 3), (8, 5, 10)) := by decide +kernel
theorem xr_94_46 : X_row 94 46 = some (46, (.return_, 1), (0, 0, 0)) := by decide +kernel
theorem xr_95_0 : X_row 95 0 = some (0, (.iload_n 1, 1), (0, 0, 0)) := by decide +kernel
theorem xr_95_1 : X_row 95 1 = some (1, (.ifCond .lt 26, 3), (0, 0, 0)) := by decide +kernel
theorem xr_95_4 : X_row 95 4 = some (4, (.iload_n 1, 1), (0, 0, 0)) := by decide +kernel
theorem xr_95_5 : X_row 95 5 = some (5, (.aload_n 0, 1), (0, 0, 0)) := by decide +kernel
theorem xr_95_6 : X_row 95 6 = some (6, (.getfield 44, 3), (8, 3, 6)) := by decide +kernel
theorem xr_95_9 : X_row 95 9 = some (9, (.if_icmp .ge 18, 3), (0, 0, 0)) := by decide +kernel
theorem xr_95_12 : X_row 95 12 = some (12, (.aload_n 0, 1), (0, 0, 0)) := by decide +kernel
theorem xr_95_13 : X_row 95 13 = some (13, (.getfield 9, 3), (8, 8, 16)) := by decide +kernel
theorem xr_95_16 : X_row 95 16 = some (16, (.iload_n 1, 1), (0, 0, 0)) := by decide +kernel
theorem xr_95_17 : X_row 95 17 = some (17, (.laload, 1), (0, 0, 0)) := by decide +kernel
theorem xr_95_18 : X_row 95 18 = some (18, (.lconst 0, 1), (0, 0, 0)) := by decide +kernel
theorem xr_95_19 : X_row 95 19 = some (19, (.lcmp, 1), (0, 0, 0)) := by decide +kernel
theorem xr_95_20 : X_row 95 20 = some (20, (.ifCond .ne 7, 3), (0, 0, 0)) := by decide +kernel
theorem xr_95_23 : X_row 95 23 = some (23, (.iconst 1, 1), (0, 0, 0)) := by decide +kernel
theorem xr_95_24 : X_row 95 24 = some (24, (.goto 4, 3), (0, 0, 0)) := by decide +kernel
theorem xr_95_27 : X_row 95 27 = some (27, (.iconst 0, 1), (0, 0, 0)) := by decide +kernel
theorem xr_95_28 : X_row 95 28 = some (28, (.ireturn, 1), (0, 0, 0)) := by decide +kernel
theorem xr_96_0 : X_row 96 0 = some (0, (.aload_n 0, 1), (0, 0, 0)) := by decide +kernel
theorem xr_96_1 : X_row 96 1 = some (1, (.iconst 0, 1), (0, 0, 0)) := by decide +kernel
theorem xr_96_2 : X_row 96 2 = some (2, (.invokevirtual 60, 3), (95, 0, 0)) := by decide +kernel
theorem xr_96_5 : X_row 96 5 = some (5, (.ifCond .eq 7, 3), (0, 0, 0)) := by decide +kernel
theorem xr_96_8 : X_row 96 8 = some (8, (.iconst 1, 1), (0, 0, 0)) := by decide +kernel
theorem xr_96_9 : X_row 96 9 = some (9, (.goto 4, 3), (0, 0, 0)) := by decide +kernel
theorem xr_96_12 : X_row 96 12 = some (12, (.iconst 0, 1), (0, 0, 0)) := by decide +kernel
theorem xr_96_13 : X_row 96 13 = some (13, (.aload_n 0, 1), (0, 0, 0)) := by decide +kernel
theorem xr_96_14 : X_row 96 14 = some (14, (.aload_n 0, 1), (0, 0, 0)) := by decide +kernel
theorem xr_96_15 : X_row 96 15 = some (15, (.getfield 44, 3), (8, 3, 6)) := by decide +kernel
theorem xr_96_18 : X_row 96 18 = some (18, (.iconst 1, 1), (0, 0, 0)) := by decide +kernel
theorem xr_96_19 : X_row 96 19 = some (19, (.isub, 1), (0, 0, 0)) := by decide +kernel
theorem xr_96_20 : X_row 96 20 = some (20, (.invokevirtual 60, 3), (95, 0, 0)) := by decide +kernel
theorem xr_96_23 : X_row 96 23 = some (23, (.ifCond .eq 7, 3), (0, 0, 0)) := by decide +kernel
theorem xr_96_26 : X_row 96 26 = some (26, (.iconst 2, 1), (0, 0, 0)) := by decide +kernel
theorem xr_96_27 : X_row 96 27 = some (27, (.goto 4, 3), (0, 0, 0)) := by decide +kernel
theorem xr_96_30 : X_row 96 30 = some (30, (.iconst 0, 1), (0, 0, 0)) := by decide +kernel
theorem xr_96_31 : X_row 96 31 = some (31, (.iadd, 1), (0, 0, 0)) := by decide +kernel
theorem xr_96_32 : X_row 96 32 = some (32, (.ireturn, 1), (0, 0, 0)) := by decide +kernel
theorem xr_97_0 : X_row 97 0 = some (0, (.aload_n 0, 1), (0, 0, 0)) := by decide +kernel
theorem xr_97_1 : X_row 97 1 = some (1, (.invokevirtual 64, 3), (96, 2, 0)) := by decide +kernel
theorem xr_97_4 : X_row 97 4 = some (4, (.ifCond .ne 7, 3), (0, 0, 0)) := by decide +kernel
theorem xr_97_7 : X_row 97 7 = some (7, (.iconst 1, 1), (0, 0, 0)) := by decide +kernel
theorem xr_97_8 : X_row 97 8 = some (8, (.goto 4, 3), (0, 0, 0)) := by decide +kernel
theorem xr_97_11 : X_row 97 11 = some (11, (.iconst 0, 1), (0, 0, 0)) := by decide +kernel
theorem xr_97_12 : X_row 97 12 = some (12, (.ireturn, 1), (0, 0, 0)) := by decide +kernel
theorem xr_112_0 : X_row 112 0 = some (0, (.iload_n 0, 1), (0, 0, 0)) := by decide +kernel
theorem xr_112_1 : X_row 112 1 = some (1, (.iload_n 1, 1), (0, 0, 0)) := by decide +kernel
theorem xr_112_2 : X_row 112 2 = some (2, (.ishr, 1), (0, 0, 0)) := by decide +kernel
theorem xr_112_3 : X_row 112 3 = some (3, (.iconst 1, 1), (0, 0, 0)) := by decide +kernel
theorem xr_112_4 : X_row 112 4 = some (4, (.iand, 1), (0, 0, 0)) := by decide +kernel
theorem xr_112_5 : X_row 112 5 = some (5, (.iconst 1, 1), (0, 0, 0)) := by decide +kernel
theorem xr_112_6 : X_row 112 6 = some (6, (.if_icmp .ne 7, 3), (0, 0, 0)) := by decide +kernel
theorem xr_112_9 : X_row 112 9 = some (9, (.iconst 1, 1), (0, 0, 0)) := by decide +kernel
theorem xr_112_10 : X_row 112 10 = some (10, (.goto 4, 3), (0, 0, 0)) := by decide +kernel
theorem xr_112_13 : X_row 112 13 = some (13, (.iconst 0, 1), (0, 0, 0)) := by decide +kernel
theorem xr_112_14 : X_row 112 14 = some (14, (.ireturn, 1), (0, 0, 0)) := by decide +kernel
theorem xn_90 : X_nL 90 = 2 := by decide +kernel
theorem xf_90 : X_na 90 = 1 ∧ X_ci 90 = 8 ∧ X_rt 90 = none := by decide +kernel
theorem xn_91 : X_nL 91 = 3 := by decide +kernel
theorem xf_91 : X_na 91 = 1 ∧ X_ci 91 = 8 ∧ X_rt 91 = none := by decide +kernel
theorem xn_92 : X_nL 92 = 1 := by decide +kernel
theorem xf_92 : X_na 92 = 0 ∧ X_ci 92 = 8 ∧ X_rt 92 = (some .boolean) := by decide +kernel
theorem xn_93 : X_nL 93 = 2 := by decide +kernel
theorem xf_93 : X_na 93 = 1 ∧ X_ci 93 = 8 ∧ X_rt 93 = none := by decide +kernel
theorem xn_94 : X_nL 94 = 3 := by decide +kernel
theorem xf_94 : X_na 94 = 2 ∧ X_ci 94 = 8 ∧ X_rt 94 = none := by decide +kernel
theorem xn_95 : X_nL 95 = 2 := by decide +kernel
theorem xf_95 : X_na 95 = 1 ∧ X_ci 95 = 8 ∧ X_rt 95 = (some .boolean) := by decide +kernel
theorem xn_96 : X_nL 96 = 1 := by decide +kernel
theorem xf_96 : X_na 96 = 0 ∧ X_ci 96 = 8 ∧ X_rt 96 = (some .int) := by decide +kernel
theorem xn_97 : X_nL 97 = 1 := by decide +kernel
theorem xf_97 : X_na 97 = 0 ∧ X_ci 97 = 8 ∧ X_rt 97 = (some .boolean) := by decide +kernel
theorem xn_112 : X_nL 112 = 2 := by decide +kernel
theorem xf_112 : X_na 112 = 2 ∧ X_ci 112 = 10 ∧ X_rt 112 = (some .boolean) := by decide +kernel
theorem X_en_r (d : Nat → Int → Int) (q : Int → Int64) : 0 ≤ X_en d q ∧ X_en d q ≤ 3 := by
  have h1 := bI_r (X_hl d q 0)
  have h2 := bI_r (X_hl d q (d 3 0 - 1))
  unfold X_en
  omega
theorem c_hasBit (sc : X_Sc) (S : X_S) (b n : Int)  : X_T sc 112 (0, [(0, .int (iI b)), (1, .int (iI n))], [], S) (fun v S' => v = some (.int (iI (bI (X_bt b n)))) ∧ S' = S) := by
  have hm : 0 ≤ (iI b >>> (iI n &&& 31)).toInt % 2 ∧ (iI b >>> (iI n &&& 31)).toInt % 2 < 2 := by omega
  refine X_QI (fun Q hQ => ?_)
  refine T_p xr_112_0 xn_112 (pc' := 1) (ls' := [(0, .int (iI b)), (1, .int (iI n))]) (st' := [.int (iI b)]) rfl ?_
  refine T_p xr_112_1 xn_112 (pc' := 2) (ls' := [(0, .int (iI b)), (1, .int (iI n))]) (st' := [.int (iI n), .int (iI b)]) rfl ?_
  refine T_zop xr_112_2 (pc' := 3) rfl (z := (iI b >>> (iI n &&& 31)).toInt) (iI_of _) ?_
  refine T_p xr_112_3 xn_112 (pc' := 4) (ls' := [(0, .int (iI b)), (1, .int (iI n))]) (st' := [.int (iI 1), .int (iI ((iI b >>> (iI n &&& 31)).toInt))]) rfl ?_
  refine T_zop xr_112_4 (pc' := 5) rfl (z := ((iI b >>> (iI n &&& 31)).toInt) % 2) (iI_m1 _) ?_
  refine T_p xr_112_5 xn_112 (pc' := 6) (ls' := [(0, .int (iI b)), (1, .int (iI n))]) (st' := [.int (iI 1), .int (iI (((iI b >>> (iI n &&& 31)).toInt) % 2))]) rfl ?_
  refine T_zicmp_ne xr_112_6 (t := 13) (pc' := 9) rfl rfl (fun c1 => ?_) (fun c1 => ?_)
  · skip
    have c1 : ¬ (((iI b >>> (iI n &&& 31)).toInt) % 2) = 1 := c1
    refine T_p xr_112_13 xn_112 (pc' := 14) (ls' := [(0, .int (iI b)), (1, .int (iI n))]) (st' := [.int (iI 0)]) rfl ?_
    refine T_iret xr_112_14 xf_112.2.2 (by decide) ?_
    refine hQ _ _ ?_
    exact ⟨by rw [bI_f (by unfold X_bt; first | assumption | omega)], rfl⟩
  · skip
    have c1 : ¬ (¬ (((iI b >>> (iI n &&& 31)).toInt) % 2) = 1) := c1
    refine T_p xr_112_9 xn_112 (pc' := 10) (ls' := [(0, .int (iI b)), (1, .int (iI n))]) (st' := [.int (iI 1)]) rfl ?_
    refine T_p xr_112_10 xn_112 (pc' := 14) (ls' := [(0, .int (iI b)), (1, .int (iI n))]) (st' := [.int (iI 1)]) rfl ?_
    refine T_iret xr_112_14 xf_112.2.2 (by decide) ?_
    refine hQ _ _ ?_
    exact ⟨by rw [bI_t (by unfold X_bt; first | assumption | omega)], rfl⟩
theorem c_isHole (sc : X_Sc) (S : X_S) (a : Nat) (d : Nat → Int → Int) (q : Int → Int64) (e : Int) (hw : C_wd S a d q) (hr : X_wr d) (he : -1 ≤ e ∧ e ≤ 8) : X_T sc 95 (0, [(0, .ref a), (1, .int (iI e))], [], S) (fun v S' => v = some (.int (iI (bI (X_hl d q e)))) ∧ S' = S) := by
  obtain ⟨⟨hr0, hr0b⟩, ⟨hr1, hr1b⟩, ⟨hr2, hr2b⟩, ⟨hr3, hr3b⟩, ⟨hr4, hr4b⟩, ⟨hr5, hr5b⟩, ⟨hr6, hr6b⟩, ⟨hr7, hr7b⟩⟩ := id hr
  refine X_QI (fun Q hQ => ?_)
  refine T_p xr_95_0 xn_95 (pc' := 1) (ls' := [(0, .ref a), (1, .int (iI e))]) (st' := [.int (iI e)]) rfl ?_
  refine T_zif_lt xr_95_1 (t := 27) (pc' := 4) rfl rfl (fun c2 => ?_) (fun c2 => ?_)
  · skip
    have c2 : e < 0 := c2
    refine T_p xr_95_27 xn_95 (pc' := 28) (ls' := [(0, .ref a), (1, .int (iI e))]) (st' := [.int (iI 0)]) rfl ?_
    refine T_iret xr_95_28 xf_95.2.2 (by decide) ?_
    refine hQ _ _ ?_
    exact ⟨by rw [bI_f (by intro h; first | omega | exact absurd h.1 (by omega) | exact absurd h.2.1 (by omega) | exact absurd h.2.2 (by assumption))], rfl⟩
  · skip
    have c2 : ¬ (e < 0) := c2
    refine T_p xr_95_4 xn_95 (pc' := 5) (ls' := [(0, .ref a), (1, .int (iI e))]) (st' := [.int (iI e)]) rfl ?_
    refine T_p xr_95_5 xn_95 (pc' := 6) (ls' := [(0, .ref a), (1, .int (iI e))]) (st' := [.ref a, .int (iI e)]) rfl ?_
    refine T_get xr_95_6 hw.1 rfl (v := .int (iI (d 3 0))) rfl (pc' := 9) rfl ?_
    refine T_zicmp_ge xr_95_9 (t := 27) (pc' := 12) rfl rfl (fun c3 => ?_) (fun c3 => ?_)
    · skip
      have c3 : (d 3 0) ≤ e := c3
      refine T_p xr_95_27 xn_95 (pc' := 28) (ls' := [(0, .ref a), (1, .int (iI e))]) (st' := [.int (iI 0)]) rfl ?_
      refine T_iret xr_95_28 xf_95.2.2 (by decide) ?_
      refine hQ _ _ ?_
      exact ⟨by rw [bI_f (by intro h; first | omega | exact absurd h.1 (by omega) | exact absurd h.2.1 (by omega) | exact absurd h.2.2 (by assumption))], rfl⟩
    · skip
      have c3 : ¬ ((d 3 0) ≤ e) := c3
      refine T_p xr_95_12 xn_95 (pc' := 13) (ls' := [(0, .ref a), (1, .int (iI e))]) (st' := [.ref a]) rfl ?_
      refine T_get xr_95_13 hw.1 rfl (v := .ref (a + 1)) rfl (pc' := 16) rfl ?_
      refine T_p xr_95_16 xn_95 (pc' := 17) (ls' := [(0, .ref a), (1, .int (iI e))]) (st' := [.int (iI e), .ref (a + 1)]) rfl ?_
      refine T_zlald xr_95_17 hw.2.1 (pc' := 18) rfl ?_
      refine T_p xr_95_18 xn_95 (pc' := 19) (ls' := [(0, .ref a), (1, .int (iI e))]) (st' := [.long (0 : Int64), .long (q e)]) rfl ?_
      refine T_lc_ne xr_95_19 xr_95_20 (t := 27) (pc' := 23) rfl rfl (fun c4 => ?_) (fun c4 => ?_)
      · skip
        have c4 : ¬ (q e) = (0 : Int64) := c4
        refine T_p xr_95_27 xn_95 (pc' := 28) (ls' := [(0, .ref a), (1, .int (iI e))]) (st' := [.int (iI 0)]) rfl ?_
        refine T_iret xr_95_28 xf_95.2.2 (by decide) ?_
        refine hQ _ _ ?_
        exact ⟨by rw [bI_f (by intro h; first | omega | exact absurd h.1 (by omega) | exact absurd h.2.1 (by omega) | exact absurd h.2.2 (by assumption))], rfl⟩
      · skip
        have c4 : ¬ (¬ (q e) = (0 : Int64)) := c4
        refine T_p xr_95_23 xn_95 (pc' := 24) (ls' := [(0, .ref a), (1, .int (iI e))]) (st' := [.int (iI 1)]) rfl ?_
        refine T_p xr_95_24 xn_95 (pc' := 28) (ls' := [(0, .ref a), (1, .int (iI e))]) (st' := [.int (iI 1)]) rfl ?_
        refine T_iret xr_95_28 xf_95.2.2 (by decide) ?_
        refine hQ _ _ ?_
        exact ⟨by rw [bI_t ⟨by omega, by omega, by first | assumption | exact Classical.not_not.mp (by assumption)⟩], rfl⟩
theorem c_ends (sc : X_Sc) (S : X_S) (a : Nat) (d : Nat → Int → Int) (q : Int → Int64) (hw : C_wd S a d q) (hr : X_wr d) : X_T sc 96 (0, [(0, .ref a)], [], S) (fun v S' => v = some (.int (iI (X_en d q))) ∧ S' = S) := by
  obtain ⟨⟨hr0, hr0b⟩, ⟨hr1, hr1b⟩, ⟨hr2, hr2b⟩, ⟨hr3, hr3b⟩, ⟨hr4, hr4b⟩, ⟨hr5, hr5b⟩, ⟨hr6, hr6b⟩, ⟨hr7, hr7b⟩⟩ := id hr
  refine X_QI (fun Q hQ => ?_)
  refine T_p xr_96_0 xn_96 (pc' := 1) (ls' := [(0, .ref a)]) (st' := [.ref a]) rfl ?_
  refine T_p xr_96_1 xn_96 (pc' := 2) (ls' := [(0, .ref a)]) (st' := [.int (iI 0), .ref a]) rfl ?_
  refine T_cv (S := S) (q := a) xr_96_2 xf_95.1 xf_95.2.1 xn_95 (as := [.int (iI 0)]) (r := []) rfl hw.1 (Nat.le_of_ble_eq_true rfl) (Nat.le_of_ble_eq_true rfl) (pc' := 5) rfl (ls' := [(0, .ref a), (1, .int (iI 0))]) rfl ?_
  refine T_mono (c_isHole sc S a d q 0 ⟨hw.1, hw.2.1, hw.2.2.1, hw.2.2.2.1, hw.2.2.2.2.1, hw.2.2.2.2.2.1, hw.2.2.2.2.2.2.1, hw.2.2.2.2.2.2.2⟩ hr (by omega)) (fun v6 S7 h5 => ?_)
  obtain ⟨h8, h9⟩ := h5
  rw [h8, h9]
  show X_T sc 96 (5, [(0, .ref a)], [.int (iI (bI (X_hl d q 0)))], S) _
  refine T_bif_eq xr_96_5 (t := 12) (pc' := 8) rfl rfl (fun c10 => ?_) (fun c10 => ?_)
  · skip
    have c10 : ¬ (X_hl d q 0) := c10
    refine T_p xr_96_12 xn_96 (pc' := 13) (ls' := [(0, .ref a)]) (st' := [.int (iI 0)]) rfl ?_
    refine T_p xr_96_13 xn_96 (pc' := 14) (ls' := [(0, .ref a)]) (st' := [.ref a, .int (iI 0)]) rfl ?_
    refine T_p xr_96_14 xn_96 (pc' := 15) (ls' := [(0, .ref a)]) (st' := [.ref a, .ref a, .int (iI 0)]) rfl ?_
    refine T_get xr_96_15 hw.1 rfl (v := .int (iI (d 3 0))) rfl (pc' := 18) rfl ?_
    refine T_p xr_96_18 xn_96 (pc' := 19) (ls' := [(0, .ref a)]) (st' := [.int (iI 1), .int (iI (d 3 0)), .ref a, .int (iI 0)]) rfl ?_
    refine T_zisub xr_96_19 (z := (d 3 0) - 1) rfl (pc' := 20) rfl ?_
    refine T_cv (S := S) (q := a) xr_96_20 xf_95.1 xf_95.2.1 xn_95 (as := [.int (iI ((d 3 0) - 1))]) (r := [.int (iI 0)]) rfl hw.1 (Nat.le_of_ble_eq_true rfl) (Nat.le_of_ble_eq_true rfl) (pc' := 23) rfl (ls' := [(0, .ref a), (1, .int (iI ((d 3 0) - 1)))]) rfl ?_
    refine T_mono (c_isHole sc S a d q ((d 3 0) - 1) ⟨hw.1, hw.2.1, hw.2.2.1, hw.2.2.2.1, hw.2.2.2.2.1, hw.2.2.2.2.2.1, hw.2.2.2.2.2.2.1, hw.2.2.2.2.2.2.2⟩ hr (by omega)) (fun v12 S13 h11 => ?_)
    obtain ⟨h14, h15⟩ := h11
    rw [h14, h15]
    show X_T sc 96 (23, [(0, .ref a)], [.int (iI (bI (X_hl d q ((d 3 0) - 1)))), .int (iI 0)], S) _
    refine T_bif_eq xr_96_23 (t := 30) (pc' := 26) rfl rfl (fun c16 => ?_) (fun c16 => ?_)
    · skip
      have c16 : ¬ (X_hl d q ((d 3 0) - 1)) := c16
      refine T_p xr_96_30 xn_96 (pc' := 31) (ls' := [(0, .ref a)]) (st' := [.int (iI 0), .int (iI 0)]) rfl ?_
      refine T_ziadd xr_96_31 (z := 0) (by decide) (pc' := 32) rfl ?_
      refine T_iret xr_96_32 xf_96.2.2 rfl ?_
      refine hQ _ _ ?_
      exact ⟨by unfold X_en; first | rw [bI_t (by assumption), bI_t (by assumption)]; rfl | rw [bI_t (by assumption), bI_f (by assumption)]; rfl | rw [bI_f (by assumption), bI_t (by assumption)]; rfl | rw [bI_f (by assumption), bI_f (by assumption)]; rfl, rfl⟩
    · skip
      have c16 : (X_hl d q ((d 3 0) - 1)) := c16
      refine T_p xr_96_26 xn_96 (pc' := 27) (ls' := [(0, .ref a)]) (st' := [.int (iI 2), .int (iI 0)]) rfl ?_
      refine T_p xr_96_27 xn_96 (pc' := 31) (ls' := [(0, .ref a)]) (st' := [.int (iI 2), .int (iI 0)]) rfl ?_
      refine T_ziadd xr_96_31 (z := 2) (by decide) (pc' := 32) rfl ?_
      refine T_iret xr_96_32 xf_96.2.2 rfl ?_
      refine hQ _ _ ?_
      exact ⟨by unfold X_en; first | rw [bI_t (by assumption), bI_t (by assumption)]; rfl | rw [bI_t (by assumption), bI_f (by assumption)]; rfl | rw [bI_f (by assumption), bI_t (by assumption)]; rfl | rw [bI_f (by assumption), bI_f (by assumption)]; rfl, rfl⟩
  · skip
    have c10 : (X_hl d q 0) := c10
    refine T_p xr_96_8 xn_96 (pc' := 9) (ls' := [(0, .ref a)]) (st' := [.int (iI 1)]) rfl ?_
    refine T_p xr_96_9 xn_96 (pc' := 13) (ls' := [(0, .ref a)]) (st' := [.int (iI 1)]) rfl ?_
    refine T_p xr_96_13 xn_96 (pc' := 14) (ls' := [(0, .ref a)]) (st' := [.ref a, .int (iI 1)]) rfl ?_
    refine T_p xr_96_14 xn_96 (pc' := 15) (ls' := [(0, .ref a)]) (st' := [.ref a, .ref a, .int (iI 1)]) rfl ?_
    refine T_get xr_96_15 hw.1 rfl (v := .int (iI (d 3 0))) rfl (pc' := 18) rfl ?_
    refine T_p xr_96_18 xn_96 (pc' := 19) (ls' := [(0, .ref a)]) (st' := [.int (iI 1), .int (iI (d 3 0)), .ref a, .int (iI 1)]) rfl ?_
    refine T_zisub xr_96_19 (z := (d 3 0) - 1) rfl (pc' := 20) rfl ?_
    refine T_cv (S := S) (q := a) xr_96_20 xf_95.1 xf_95.2.1 xn_95 (as := [.int (iI ((d 3 0) - 1))]) (r := [.int (iI 1)]) rfl hw.1 (Nat.le_of_ble_eq_true rfl) (Nat.le_of_ble_eq_true rfl) (pc' := 23) rfl (ls' := [(0, .ref a), (1, .int (iI ((d 3 0) - 1)))]) rfl ?_
    refine T_mono (c_isHole sc S a d q ((d 3 0) - 1) ⟨hw.1, hw.2.1, hw.2.2.1, hw.2.2.2.1, hw.2.2.2.2.1, hw.2.2.2.2.2.1, hw.2.2.2.2.2.2.1, hw.2.2.2.2.2.2.2⟩ hr (by omega)) (fun v18 S19 h17 => ?_)
    obtain ⟨h20, h21⟩ := h17
    rw [h20, h21]
    show X_T sc 96 (23, [(0, .ref a)], [.int (iI (bI (X_hl d q ((d 3 0) - 1)))), .int (iI 1)], S) _
    refine T_bif_eq xr_96_23 (t := 30) (pc' := 26) rfl rfl (fun c22 => ?_) (fun c22 => ?_)
    · skip
      have c22 : ¬ (X_hl d q ((d 3 0) - 1)) := c22
      refine T_p xr_96_30 xn_96 (pc' := 31) (ls' := [(0, .ref a)]) (st' := [.int (iI 0), .int (iI 1)]) rfl ?_
      refine T_ziadd xr_96_31 (z := 1) (by decide) (pc' := 32) rfl ?_
      refine T_iret xr_96_32 xf_96.2.2 rfl ?_
      refine hQ _ _ ?_
      exact ⟨by unfold X_en; first | rw [bI_t (by assumption), bI_t (by assumption)]; rfl | rw [bI_t (by assumption), bI_f (by assumption)]; rfl | rw [bI_f (by assumption), bI_t (by assumption)]; rfl | rw [bI_f (by assumption), bI_f (by assumption)]; rfl, rfl⟩
    · skip
      have c22 : (X_hl d q ((d 3 0) - 1)) := c22
      refine T_p xr_96_26 xn_96 (pc' := 27) (ls' := [(0, .ref a)]) (st' := [.int (iI 2), .int (iI 1)]) rfl ?_
      refine T_p xr_96_27 xn_96 (pc' := 31) (ls' := [(0, .ref a)]) (st' := [.int (iI 2), .int (iI 1)]) rfl ?_
      refine T_ziadd xr_96_31 (z := 3) (by decide) (pc' := 32) rfl ?_
      refine T_iret xr_96_32 xf_96.2.2 rfl ?_
      refine hQ _ _ ?_
      exact ⟨by unfold X_en; first | rw [bI_t (by assumption), bI_t (by assumption)]; rfl | rw [bI_t (by assumption), bI_f (by assumption)]; rfl | rw [bI_f (by assumption), bI_t (by assumption)]; rfl | rw [bI_f (by assumption), bI_f (by assumption)]; rfl, rfl⟩
theorem c_isClosed (sc : X_Sc) (S : X_S) (a : Nat) (d : Nat → Int → Int) (q : Int → Int64) (hw : C_wd S a d q) (hr : X_wr d) : X_T sc 97 (0, [(0, .ref a)], [], S) (fun v S' => v = some (.int (iI (bI (X_en d q = 0)))) ∧ S' = S) := by
  obtain ⟨⟨hr0, hr0b⟩, ⟨hr1, hr1b⟩, ⟨hr2, hr2b⟩, ⟨hr3, hr3b⟩, ⟨hr4, hr4b⟩, ⟨hr5, hr5b⟩, ⟨hr6, hr6b⟩, ⟨hr7, hr7b⟩⟩ := id hr
  have hen := X_en_r d q
  refine X_QI (fun Q hQ => ?_)
  refine T_p xr_97_0 xn_97 (pc' := 1) (ls' := [(0, .ref a)]) (st' := [.ref a]) rfl ?_
  refine T_cv (S := S) (q := a) xr_97_1 xf_96.1 xf_96.2.1 xn_96 (as := []) (r := []) rfl hw.1 (Nat.le_of_ble_eq_true rfl) (Nat.le_of_ble_eq_true rfl) (pc' := 4) rfl (ls' := [(0, .ref a)]) rfl ?_
  refine T_mono (c_ends sc S a d q ⟨hw.1, hw.2.1, hw.2.2.1, hw.2.2.2.1, hw.2.2.2.2.1, hw.2.2.2.2.2.1, hw.2.2.2.2.2.2.1, hw.2.2.2.2.2.2.2⟩ hr) (fun v24 S25 h23 => ?_)
  obtain ⟨h26, h27⟩ := h23
  rw [h26, h27]
  show X_T sc 97 (4, [(0, .ref a)], [.int (iI (X_en d q))], S) _
  refine T_zif_ne xr_97_4 (t := 11) (pc' := 7) rfl rfl (fun c28 => ?_) (fun c28 => ?_)
  · skip
    have c28 : ¬ (X_en d q) = 0 := c28
    refine T_p xr_97_11 xn_97 (pc' := 12) (ls' := [(0, .ref a)]) (st' := [.int (iI 0)]) rfl ?_
    refine T_iret xr_97_12 xf_97.2.2 (by decide) ?_
    refine hQ _ _ ?_
    exact ⟨by rw [bI_f (by first | assumption | omega)], rfl⟩
  · skip
    have c28 : ¬ (¬ (X_en d q) = 0) := c28
    refine T_p xr_97_7 xn_97 (pc' := 8) (ls' := [(0, .ref a)]) (st' := [.int (iI 1)]) rfl ?_
    refine T_p xr_97_8 xn_97 (pc' := 12) (ls' := [(0, .ref a)]) (st' := [.int (iI 1)]) rfl ?_
    refine T_iret xr_97_12 xf_97.2.2 (by decide) ?_
    refine hQ _ _ ?_
    exact ⟨by rw [bI_t (by first | assumption | omega)], rfl⟩
theorem c_clearw (sc : X_Sc) (S : X_S) (a : Nat) (d : Nat → Int → Int) (q : Int → Int64) (rk : Int) (hw : C_wd S a d q) (hr : X_wr d) : X_T sc 90 (0, [(0, .ref a), (1, .int (iI rk))], [], S) (fun v S' => v = none ∧ C_wd S' a (X_wu (X_wu (X_wu (X_wu (X_wu (X_wu (X_wu (X_wu d 0 (fun _ => rk)) 1 (fun _ => 0)) 2 (fun _ => 0)) 3 (fun _ => 0)) 4 (fun _ => 0)) 5 (fun _ => -1)) 6 (fun _ => 0)) 7 (fun _ => 0)) q ∧ X_Fr (fun r => a ≤ r ∧ r ≤ a + 7) S S') := by
  obtain ⟨⟨hr0, hr0b⟩, ⟨hr1, hr1b⟩, ⟨hr2, hr2b⟩, ⟨hr3, hr3b⟩, ⟨hr4, hr4b⟩, ⟨hr5, hr5b⟩, ⟨hr6, hr6b⟩, ⟨hr7, hr7b⟩⟩ := id hr
  refine X_QI (fun Q hQ => ?_)
  refine T_p xr_90_0 xn_90 (pc' := 1) (ls' := [(0, .ref a), (1, .int (iI rk))]) (st' := [.ref a]) rfl ?_
  refine T_p xr_90_1 xn_90 (pc' := 2) (ls' := [(0, .ref a), (1, .int (iI rk))]) (st' := [.int (iI rk), .ref a]) rfl ?_
  refine T_put xr_90_2 hw.1 rfl (Nat.le_of_ble_eq_true rfl) rfl (fs' := [.int (iI rk), .int (iI (d 1 0)), .int (iI (d 2 0)), .int (iI (d 3 0)), .int (iI (d 4 0)), .int (iI (d 5 0)), .int (iI (d 6 0)), .int (iI (d 7 0)), .ref (a + 1), .ref (a + 2), .ref (a + 3), .ref (a + 4), .ref (a + 5), .ref (a + 6), .ref (a + 7)]) rfl (pc' := 5) rfl (fun S29 h30 n31 e32 => ?_)
  refine T_p xr_90_5 xn_90 (pc' := 6) (ls' := [(0, .ref a), (1, .int (iI rk))]) (st' := [.ref a]) rfl ?_
  refine T_p xr_90_6 xn_90 (pc' := 7) (ls' := [(0, .ref a), (1, .int (iI rk))]) (st' := [.int (iI 0), .ref a]) rfl ?_
  refine T_put xr_90_7 h30 rfl (Nat.le_of_ble_eq_true rfl) rfl (fs' := [.int (iI rk), .int (iI 0), .int (iI (d 2 0)), .int (iI (d 3 0)), .int (iI (d 4 0)), .int (iI (d 5 0)), .int (iI (d 6 0)), .int (iI (d 7 0)), .ref (a + 1), .ref (a + 2), .ref (a + 3), .ref (a + 4), .ref (a + 5), .ref (a + 6), .ref (a + 7)]) rfl (pc' := 10) rfl (fun S33 h34 n35 e36 => ?_)
  refine T_p xr_90_10 xn_90 (pc' := 11) (ls' := [(0, .ref a), (1, .int (iI rk))]) (st' := [.ref a]) rfl ?_
  refine T_p xr_90_11 xn_90 (pc' := 12) (ls' := [(0, .ref a), (1, .int (iI rk))]) (st' := [.int (iI 0), .ref a]) rfl ?_
  refine T_put xr_90_12 h34 rfl (Nat.le_of_ble_eq_true rfl) rfl (fs' := [.int (iI rk), .int (iI 0), .int (iI 0), .int (iI (d 3 0)), .int (iI (d 4 0)), .int (iI (d 5 0)), .int (iI (d 6 0)), .int (iI (d 7 0)), .ref (a + 1), .ref (a + 2), .ref (a + 3), .ref (a + 4), .ref (a + 5), .ref (a + 6), .ref (a + 7)]) rfl (pc' := 15) rfl (fun S37 h38 n39 e40 => ?_)
  refine T_p xr_90_15 xn_90 (pc' := 16) (ls' := [(0, .ref a), (1, .int (iI rk))]) (st' := [.ref a]) rfl ?_
  refine T_p xr_90_16 xn_90 (pc' := 17) (ls' := [(0, .ref a), (1, .int (iI rk))]) (st' := [.int (iI 0), .ref a]) rfl ?_
  refine T_put xr_90_17 h38 rfl (Nat.le_of_ble_eq_true rfl) rfl (fs' := [.int (iI rk), .int (iI 0), .int (iI 0), .int (iI 0), .int (iI (d 4 0)), .int (iI (d 5 0)), .int (iI (d 6 0)), .int (iI (d 7 0)), .ref (a + 1), .ref (a + 2), .ref (a + 3), .ref (a + 4), .ref (a + 5), .ref (a + 6), .ref (a + 7)]) rfl (pc' := 20) rfl (fun S41 h42 n43 e44 => ?_)
  refine T_p xr_90_20 xn_90 (pc' := 21) (ls' := [(0, .ref a), (1, .int (iI rk))]) (st' := [.ref a]) rfl ?_
  refine T_p xr_90_21 xn_90 (pc' := 22) (ls' := [(0, .ref a), (1, .int (iI rk))]) (st' := [.int (iI 0), .ref a]) rfl ?_
  refine T_put xr_90_22 h42 rfl (Nat.le_of_ble_eq_true rfl) rfl (fs' := [.int (iI rk), .int (iI 0), .int (iI 0), .int (iI 0), .int (iI 0), .int (iI (d 5 0)), .int (iI (d 6 0)), .int (iI (d 7 0)), .ref (a + 1), .ref (a + 2), .ref (a + 3), .ref (a + 4), .ref (a + 5), .ref (a + 6), .ref (a + 7)]) rfl (pc' := 25) rfl (fun S45 h46 n47 e48 => ?_)
  refine T_p xr_90_25 xn_90 (pc' := 26) (ls' := [(0, .ref a), (1, .int (iI rk))]) (st' := [.ref a]) rfl ?_
  refine T_p xr_90_26 xn_90 (pc' := 27) (ls' := [(0, .ref a), (1, .int (iI rk))]) (st' := [.int (iI (-1)), .ref a]) rfl ?_
  refine T_put xr_90_27 h46 rfl (Nat.le_of_ble_eq_true rfl) rfl (fs' := [.int (iI rk), .int (iI 0), .int (iI 0), .int (iI 0), .int (iI 0), .int (iI (-1)), .int (iI (d 6 0)), .int (iI (d 7 0)), .ref (a + 1), .ref (a + 2), .ref (a + 3), .ref (a + 4), .ref (a + 5), .ref (a + 6), .ref (a + 7)]) rfl (pc' := 30) rfl (fun S49 h50 n51 e52 => ?_)
  refine T_p xr_90_30 xn_90 (pc' := 31) (ls' := [(0, .ref a), (1, .int (iI rk))]) (st' := [.ref a]) rfl ?_
  refine T_p xr_90_31 xn_90 (pc' := 32) (ls' := [(0, .ref a), (1, .int (iI rk))]) (st' := [.int (iI 0), .ref a]) rfl ?_
  refine T_put xr_90_32 h50 rfl (Nat.le_of_ble_eq_true rfl) rfl (fs' := [.int (iI rk), .int (iI 0), .int (iI 0), .int (iI 0), .int (iI 0), .int (iI (-1)), .int (iI 0), .int (iI (d 7 0)), .ref (a + 1), .ref (a + 2), .ref (a + 3), .ref (a + 4), .ref (a + 5), .ref (a + 6), .ref (a + 7)]) rfl (pc' := 35) rfl (fun S53 h54 n55 e56 => ?_)
  refine T_p xr_90_35 xn_90 (pc' := 36) (ls' := [(0, .ref a), (1, .int (iI rk))]) (st' := [.ref a]) rfl ?_
  refine T_p xr_90_36 xn_90 (pc' := 37) (ls' := [(0, .ref a), (1, .int (iI rk))]) (st' := [.int (iI 0), .ref a]) rfl ?_
  refine T_put xr_90_37 h54 rfl (Nat.le_of_ble_eq_true rfl) rfl (fs' := [.int (iI rk), .int (iI 0), .int (iI 0), .int (iI 0), .int (iI 0), .int (iI (-1)), .int (iI 0), .int (iI 0), .ref (a + 1), .ref (a + 2), .ref (a + 3), .ref (a + 4), .ref (a + 5), .ref (a + 6), .ref (a + 7)]) rfl (pc' := 40) rfl (fun S57 h58 n59 e60 => ?_)
  refine T_vret xr_90_40 xf_90.2.2 ?_
  refine hQ _ _ ?_
  have h61 := (n59 (a + 1) (by omega)).trans ((n55 (a + 1) (by omega)).trans ((n51 (a + 1) (by omega)).trans ((n47 (a + 1) (by omega)).trans ((n43 (a + 1) (by omega)).trans ((n39 (a + 1) (by omega)).trans ((n35 (a + 1) (by omega)).trans ((n31 (a + 1) (by omega)).trans (hw.2.1))))))))
  have h62 := (n59 (a + 2) (by omega)).trans ((n55 (a + 2) (by omega)).trans ((n51 (a + 2) (by omega)).trans ((n47 (a + 2) (by omega)).trans ((n43 (a + 2) (by omega)).trans ((n39 (a + 2) (by omega)).trans ((n35 (a + 2) (by omega)).trans ((n31 (a + 2) (by omega)).trans (hw.2.2.1))))))))
  have h63 := (n59 (a + 3) (by omega)).trans ((n55 (a + 3) (by omega)).trans ((n51 (a + 3) (by omega)).trans ((n47 (a + 3) (by omega)).trans ((n43 (a + 3) (by omega)).trans ((n39 (a + 3) (by omega)).trans ((n35 (a + 3) (by omega)).trans ((n31 (a + 3) (by omega)).trans (hw.2.2.2.1))))))))
  have h64 := (n59 (a + 4) (by omega)).trans ((n55 (a + 4) (by omega)).trans ((n51 (a + 4) (by omega)).trans ((n47 (a + 4) (by omega)).trans ((n43 (a + 4) (by omega)).trans ((n39 (a + 4) (by omega)).trans ((n35 (a + 4) (by omega)).trans ((n31 (a + 4) (by omega)).trans (hw.2.2.2.2.1))))))))
  have h65 := (n59 (a + 5) (by omega)).trans ((n55 (a + 5) (by omega)).trans ((n51 (a + 5) (by omega)).trans ((n47 (a + 5) (by omega)).trans ((n43 (a + 5) (by omega)).trans ((n39 (a + 5) (by omega)).trans ((n35 (a + 5) (by omega)).trans ((n31 (a + 5) (by omega)).trans (hw.2.2.2.2.2.1))))))))
  have h66 := (n59 (a + 6) (by omega)).trans ((n55 (a + 6) (by omega)).trans ((n51 (a + 6) (by omega)).trans ((n47 (a + 6) (by omega)).trans ((n43 (a + 6) (by omega)).trans ((n39 (a + 6) (by omega)).trans ((n35 (a + 6) (by omega)).trans ((n31 (a + 6) (by omega)).trans (hw.2.2.2.2.2.2.1))))))))
  have h67 := (n59 (a + 7) (by omega)).trans ((n55 (a + 7) (by omega)).trans ((n51 (a + 7) (by omega)).trans ((n47 (a + 7) (by omega)).trans ((n43 (a + 7) (by omega)).trans ((n39 (a + 7) (by omega)).trans ((n35 (a + 7) (by omega)).trans ((n31 (a + 7) (by omega)).trans (hw.2.2.2.2.2.2.2))))))))
  exact ⟨rfl, ⟨h58, h61, h62, h63, h64, h65, h66, h67⟩, ((((((((X_Fr.rf).tr (X_Fr.of n31 e32 (by omega))).tr (X_Fr.of n35 e36 (by omega))).tr (X_Fr.of n39 e40 (by omega))).tr (X_Fr.of n43 e44 (by omega))).tr (X_Fr.of n47 e48 (by omega))).tr (X_Fr.of n51 e52 (by omega))).tr (X_Fr.of n55 e56 (by omega))).tr (X_Fr.of n59 e60 (by omega))⟩
theorem c_addPart (sc : X_Sc) (S : X_S) (a : Nat) (d : Nat → Int → Int) (q : Int → Int64) (t : Int64) (hw : C_wd S a d q) (hr : X_wr d) (hs : d 3 0 < 8) : X_T sc 91 (0, [(0, .ref a), (1, .long t)], [], S) (fun v S' => v = none ∧ C_wd S' a (X_wu d 3 (fun _ => d 3 0 + 1)) (X_ug q (d 3 0) t) ∧ X_Fr (fun r => a ≤ r ∧ r ≤ a + 7) S S') := by
  obtain ⟨⟨hr0, hr0b⟩, ⟨hr1, hr1b⟩, ⟨hr2, hr2b⟩, ⟨hr3, hr3b⟩, ⟨hr4, hr4b⟩, ⟨hr5, hr5b⟩, ⟨hr6, hr6b⟩, ⟨hr7, hr7b⟩⟩ := id hr
  refine X_QI (fun Q hQ => ?_)
  refine T_p xr_91_0 xn_91 (pc' := 1) (ls' := [(0, .ref a), (1, .long t)]) (st' := [.ref a]) rfl ?_
  refine T_get xr_91_1 hw.1 rfl (v := .int (iI (d 3 0))) rfl (pc' := 4) rfl ?_
  refine T_p xr_91_4 xn_91 (pc' := 6) (ls' := [(0, .ref a), (1, .long t)]) (st' := [.int (iI 8), .int (iI (d 3 0))]) rfl ?_
  refine T_zicmp_ge xr_91_6 (t := 29) (pc' := 9) rfl rfl (fun c68 => ?_) (fun c68 => ?_)
  · skip
    have c68 : 8 ≤ (d 3 0) := c68
    exact (show False by omega).elim
  · skip
    have c68 : ¬ (8 ≤ (d 3 0)) := c68
    refine T_p xr_91_9 xn_91 (pc' := 10) (ls' := [(0, .ref a), (1, .long t)]) (st' := [.ref a]) rfl ?_
    refine T_get xr_91_10 hw.1 rfl (v := .ref (a + 1)) rfl (pc' := 13) rfl ?_
    refine T_p xr_91_13 xn_91 (pc' := 14) (ls' := [(0, .ref a), (1, .long t)]) (st' := [.ref a, .ref (a + 1)]) rfl ?_
    refine T_get xr_91_14 hw.1 rfl (v := .int (iI (d 3 0))) rfl (pc' := 17) rfl ?_
    refine T_p xr_91_17 xn_91 (pc' := 18) (ls' := [(0, .ref a), (1, .long t)]) (st' := [.long t, .int (iI (d 3 0)), .ref (a + 1)]) rfl ?_
    refine T_zlast xr_91_18 hw.2.1 (pc' := 19) rfl (fun S69 h70 n71 e72 => ?_)
    refine T_p xr_91_19 xn_91 (pc' := 20) (ls' := [(0, .ref a), (1, .long t)]) (st' := [.ref a]) rfl ?_
    refine T_p xr_91_20 xn_91 (pc' := 21) (ls' := [(0, .ref a), (1, .long t)]) (st' := [.ref a, .ref a]) rfl ?_
    have h73 := (n71 a (by omega)).trans (hw.1)
    refine T_get xr_91_21 h73 rfl (v := .int (iI (d 3 0))) rfl (pc' := 24) rfl ?_
    refine T_p xr_91_24 xn_91 (pc' := 25) (ls' := [(0, .ref a), (1, .long t)]) (st' := [.int (iI 1), .int (iI (d 3 0)), .ref a]) rfl ?_
    refine T_ziadd xr_91_25 (z := (d 3 0) + 1) rfl (pc' := 26) rfl ?_
    refine T_put xr_91_26 h73 rfl (Nat.le_of_ble_eq_true rfl) rfl (fs' := [.int (iI (d 0 0)), .int (iI (d 1 0)), .int (iI (d 2 0)), .int (iI ((d 3 0) + 1)), .int (iI (d 4 0)), .int (iI (d 5 0)), .int (iI (d 6 0)), .int (iI (d 7 0)), .ref (a + 1), .ref (a + 2), .ref (a + 3), .ref (a + 4), .ref (a + 5), .ref (a + 6), .ref (a + 7)]) rfl (pc' := 29) rfl (fun S74 h75 n76 e77 => ?_)
    refine T_vret xr_91_29 xf_91.2.2 ?_
    refine hQ _ _ ?_
    have h78 := (n76 (a + 1) (by omega)).trans (h70)
    have h79 := (n76 (a + 2) (by omega)).trans ((n71 (a + 2) (by omega)).trans (hw.2.2.1))
    have h80 := (n76 (a + 3) (by omega)).trans ((n71 (a + 3) (by omega)).trans (hw.2.2.2.1))
    have h81 := (n76 (a + 4) (by omega)).trans ((n71 (a + 4) (by omega)).trans (hw.2.2.2.2.1))
    have h82 := (n76 (a + 5) (by omega)).trans ((n71 (a + 5) (by omega)).trans (hw.2.2.2.2.2.1))
    have h83 := (n76 (a + 6) (by omega)).trans ((n71 (a + 6) (by omega)).trans (hw.2.2.2.2.2.2.1))
    have h84 := (n76 (a + 7) (by omega)).trans ((n71 (a + 7) (by omega)).trans (hw.2.2.2.2.2.2.2))
    exact ⟨rfl, ⟨h75, h78, h79, h80, h81, h82, h83, h84⟩, ((X_Fr.rf).tr (X_Fr.of n71 e72 (by omega))).tr (X_Fr.of n76 e77 (by omega))⟩
theorem c_mayTakeHole (sc : X_Sc) (S : X_S) (a : Nat) (d : Nat → Int → Int) (q : Int → Int64) (hw : C_wd S a d q) (hr : X_wr d) : X_T sc 92 (0, [(0, .ref a)], [], S) (fun v S' => v = some (.int (iI (bI (d 3 0 < 8 ∧ d 4 0 < 4 ∧ ¬ X_hl d q (d 3 0 - 1))))) ∧ S' = S) := by
  obtain ⟨⟨hr0, hr0b⟩, ⟨hr1, hr1b⟩, ⟨hr2, hr2b⟩, ⟨hr3, hr3b⟩, ⟨hr4, hr4b⟩, ⟨hr5, hr5b⟩, ⟨hr6, hr6b⟩, ⟨hr7, hr7b⟩⟩ := id hr
  refine X_QI (fun Q hQ => ?_)
  refine T_p xr_92_0 xn_92 (pc' := 1) (ls' := [(0, .ref a)]) (st' := [.ref a]) rfl ?_
  refine T_get xr_92_1 hw.1 rfl (v := .int (iI (d 3 0))) rfl (pc' := 4) rfl ?_
  refine T_p xr_92_4 xn_92 (pc' := 6) (ls' := [(0, .ref a)]) (st' := [.int (iI 8), .int (iI (d 3 0))]) rfl ?_
  refine T_zicmp_ge xr_92_6 (t := 34) (pc' := 9) rfl rfl (fun c85 => ?_) (fun c85 => ?_)
  · skip
    have c85 : 8 ≤ (d 3 0) := c85
    refine T_p xr_92_34 xn_92 (pc' := 35) (ls' := [(0, .ref a)]) (st' := [.int (iI 0)]) rfl ?_
    refine T_iret xr_92_35 xf_92.2.2 (by decide) ?_
    refine hQ _ _ ?_
    exact ⟨by rw [bI_f (by intro h; first | exact absurd h.1 (by omega) | exact absurd h.2.1 (by omega) | exact absurd (by assumption) h.2.2)], rfl⟩
  · skip
    have c85 : ¬ (8 ≤ (d 3 0)) := c85
    refine T_p xr_92_9 xn_92 (pc' := 10) (ls' := [(0, .ref a)]) (st' := [.ref a]) rfl ?_
    refine T_get xr_92_10 hw.1 rfl (v := .int (iI (d 4 0))) rfl (pc' := 13) rfl ?_
    refine T_p xr_92_13 xn_92 (pc' := 14) (ls' := [(0, .ref a)]) (st' := [.int (iI 4), .int (iI (d 4 0))]) rfl ?_
    refine T_zicmp_ge xr_92_14 (t := 34) (pc' := 17) rfl rfl (fun c86 => ?_) (fun c86 => ?_)
    · skip
      have c86 : 4 ≤ (d 4 0) := c86
      refine T_p xr_92_34 xn_92 (pc' := 35) (ls' := [(0, .ref a)]) (st' := [.int (iI 0)]) rfl ?_
      refine T_iret xr_92_35 xf_92.2.2 (by decide) ?_
      refine hQ _ _ ?_
      exact ⟨by rw [bI_f (by intro h; first | exact absurd h.1 (by omega) | exact absurd h.2.1 (by omega) | exact absurd (by assumption) h.2.2)], rfl⟩
    · skip
      have c86 : ¬ (4 ≤ (d 4 0)) := c86
      refine T_p xr_92_17 xn_92 (pc' := 18) (ls' := [(0, .ref a)]) (st' := [.ref a]) rfl ?_
      refine T_p xr_92_18 xn_92 (pc' := 19) (ls' := [(0, .ref a)]) (st' := [.ref a, .ref a]) rfl ?_
      refine T_get xr_92_19 hw.1 rfl (v := .int (iI (d 3 0))) rfl (pc' := 22) rfl ?_
      refine T_p xr_92_22 xn_92 (pc' := 23) (ls' := [(0, .ref a)]) (st' := [.int (iI 1), .int (iI (d 3 0)), .ref a]) rfl ?_
      refine T_zisub xr_92_23 (z := (d 3 0) - 1) rfl (pc' := 24) rfl ?_
      refine T_cv (S := S) (q := a) xr_92_24 xf_95.1 xf_95.2.1 xn_95 (as := [.int (iI ((d 3 0) - 1))]) (r := []) rfl hw.1 (Nat.le_of_ble_eq_true rfl) (Nat.le_of_ble_eq_true rfl) (pc' := 27) rfl (ls' := [(0, .ref a), (1, .int (iI ((d 3 0) - 1)))]) rfl ?_
      refine T_mono (c_isHole sc S a d q ((d 3 0) - 1) ⟨hw.1, hw.2.1, hw.2.2.1, hw.2.2.2.1, hw.2.2.2.2.1, hw.2.2.2.2.2.1, hw.2.2.2.2.2.2.1, hw.2.2.2.2.2.2.2⟩ hr (by omega)) (fun v88 S89 h87 => ?_)
      obtain ⟨h90, h91⟩ := h87
      rw [h90, h91]
      show X_T sc 92 (27, [(0, .ref a)], [.int (iI (bI (X_hl d q ((d 3 0) - 1))))], S) _
      refine T_bif_ne xr_92_27 (t := 34) (pc' := 30) rfl rfl (fun c92 => ?_) (fun c92 => ?_)
      · skip
        have c92 : (X_hl d q ((d 3 0) - 1)) := c92
        refine T_p xr_92_34 xn_92 (pc' := 35) (ls' := [(0, .ref a)]) (st' := [.int (iI 0)]) rfl ?_
        refine T_iret xr_92_35 xf_92.2.2 (by decide) ?_
        refine hQ _ _ ?_
        exact ⟨by rw [bI_f (by intro h; first | exact absurd h.1 (by omega) | exact absurd h.2.1 (by omega) | exact absurd (by assumption) h.2.2)], rfl⟩
      · skip
        have c92 : ¬ (X_hl d q ((d 3 0) - 1)) := c92
        refine T_p xr_92_30 xn_92 (pc' := 31) (ls' := [(0, .ref a)]) (st' := [.int (iI 1)]) rfl ?_
        refine T_p xr_92_31 xn_92 (pc' := 35) (ls' := [(0, .ref a)]) (st' := [.int (iI 1)]) rfl ?_
        refine T_iret xr_92_35 xf_92.2.2 (by decide) ?_
        refine hQ _ _ ?_
        exact ⟨by rw [bI_t ⟨by omega, by omega, by assumption⟩], rfl⟩
theorem c_addHole (sc : X_Sc) (S : X_S) (a : Nat) (d : Nat → Int → Int) (q : Int → Int64) (k : Int) (hw : C_wd S a d q) (hr : X_wr d) (hs : d 3 0 < 8) (hh : d 4 0 < 4) : X_T sc 93 (0, [(0, .ref a), (1, .int (iI k))], [], S) (fun v S' => v = none ∧ C_wd S' a (X_wu (X_wu (X_wu (X_wu d 8 (X_ug (d 8) (d 3 0) (d 4 0))) 9 (X_ug (d 9) (d 4 0) k)) 3 (fun _ => d 3 0 + 1)) 4 (fun _ => d 4 0 + 1)) (X_ug q (d 3 0) 0) ∧ X_Fr (fun r => a ≤ r ∧ r ≤ a + 7) S S') := by
  obtain ⟨⟨hr0, hr0b⟩, ⟨hr1, hr1b⟩, ⟨hr2, hr2b⟩, ⟨hr3, hr3b⟩, ⟨hr4, hr4b⟩, ⟨hr5, hr5b⟩, ⟨hr6, hr6b⟩, ⟨hr7, hr7b⟩⟩ := id hr
  refine X_QI (fun Q hQ => ?_)
  refine T_p xr_93_0 xn_93 (pc' := 1) (ls' := [(0, .ref a), (1, .int (iI k))]) (st' := [.ref a]) rfl ?_
  refine T_get xr_93_1 hw.1 rfl (v := .int (iI (d 3 0))) rfl (pc' := 4) rfl ?_
  refine T_p xr_93_4 xn_93 (pc' := 6) (ls' := [(0, .ref a), (1, .int (iI k))]) (st' := [.int (iI 8), .int (iI (d 3 0))]) rfl ?_
  refine T_zicmp_ge xr_93_6 (t := 70) (pc' := 9) rfl rfl (fun c93 => ?_) (fun c93 => ?_)
  · skip
    have c93 : 8 ≤ (d 3 0) := c93
    exact (show False by omega).elim
  · skip
    have c93 : ¬ (8 ≤ (d 3 0)) := c93
    refine T_p xr_93_9 xn_93 (pc' := 10) (ls' := [(0, .ref a), (1, .int (iI k))]) (st' := [.ref a]) rfl ?_
    refine T_get xr_93_10 hw.1 rfl (v := .int (iI (d 4 0))) rfl (pc' := 13) rfl ?_
    refine T_p xr_93_13 xn_93 (pc' := 14) (ls' := [(0, .ref a), (1, .int (iI k))]) (st' := [.int (iI 4), .int (iI (d 4 0))]) rfl ?_
    refine T_zicmp_ge xr_93_14 (t := 70) (pc' := 17) rfl rfl (fun c94 => ?_) (fun c94 => ?_)
    · skip
      have c94 : 4 ≤ (d 4 0) := c94
      exact (show False by omega).elim
    · skip
      have c94 : ¬ (4 ≤ (d 4 0)) := c94
      refine T_p xr_93_17 xn_93 (pc' := 18) (ls' := [(0, .ref a), (1, .int (iI k))]) (st' := [.ref a]) rfl ?_
      refine T_get xr_93_18 hw.1 rfl (v := .ref (a + 1)) rfl (pc' := 21) rfl ?_
      refine T_p xr_93_21 xn_93 (pc' := 22) (ls' := [(0, .ref a), (1, .int (iI k))]) (st' := [.ref a, .ref (a + 1)]) rfl ?_
      refine T_get xr_93_22 hw.1 rfl (v := .int (iI (d 3 0))) rfl (pc' := 25) rfl ?_
      refine T_p xr_93_25 xn_93 (pc' := 26) (ls' := [(0, .ref a), (1, .int (iI k))]) (st' := [.long (0 : Int64), .int (iI (d 3 0)), .ref (a + 1)]) rfl ?_
      refine T_zlast xr_93_26 hw.2.1 (pc' := 27) rfl (fun S95 h96 n97 e98 => ?_)
      refine T_p xr_93_27 xn_93 (pc' := 28) (ls' := [(0, .ref a), (1, .int (iI k))]) (st' := [.ref a]) rfl ?_
      have h99 := (n97 a (by omega)).trans (hw.1)
      refine T_get xr_93_28 h99 rfl (v := .ref (a + 2)) rfl (pc' := 31) rfl ?_
      refine T_p xr_93_31 xn_93 (pc' := 32) (ls' := [(0, .ref a), (1, .int (iI k))]) (st' := [.ref a, .ref (a + 2)]) rfl ?_
      refine T_get xr_93_32 h99 rfl (v := .int (iI (d 3 0))) rfl (pc' := 35) rfl ?_
      refine T_p xr_93_35 xn_93 (pc' := 36) (ls' := [(0, .ref a), (1, .int (iI k))]) (st' := [.ref a, .int (iI (d 3 0)), .ref (a + 2)]) rfl ?_
      refine T_get xr_93_36 h99 rfl (v := .int (iI (d 4 0))) rfl (pc' := 39) rfl ?_
      have h100 := (n97 (a + 2) (by omega)).trans (hw.2.2.1)
      refine T_ziast xr_93_39 h100 (pc' := 40) rfl (fun S101 h102 n103 e104 => ?_)
      refine T_p xr_93_40 xn_93 (pc' := 41) (ls' := [(0, .ref a), (1, .int (iI k))]) (st' := [.ref a]) rfl ?_
      have h105 := (n103 a (by omega)).trans (h99)
      refine T_get xr_93_41 h105 rfl (v := .ref (a + 3)) rfl (pc' := 44) rfl ?_
      refine T_p xr_93_44 xn_93 (pc' := 45) (ls' := [(0, .ref a), (1, .int (iI k))]) (st' := [.ref a, .ref (a + 3)]) rfl ?_
      refine T_get xr_93_45 h105 rfl (v := .int (iI (d 4 0))) rfl (pc' := 48) rfl ?_
      refine T_p xr_93_48 xn_93 (pc' := 49) (ls' := [(0, .ref a), (1, .int (iI k))]) (st' := [.int (iI k), .int (iI (d 4 0)), .ref (a + 3)]) rfl ?_
      have h106 := (n103 (a + 3) (by omega)).trans ((n97 (a + 3) (by omega)).trans (hw.2.2.2.1))
      refine T_ziast xr_93_49 h106 (pc' := 50) rfl (fun S107 h108 n109 e110 => ?_)
      refine T_p xr_93_50 xn_93 (pc' := 51) (ls' := [(0, .ref a), (1, .int (iI k))]) (st' := [.ref a]) rfl ?_
      refine T_p xr_93_51 xn_93 (pc' := 52) (ls' := [(0, .ref a), (1, .int (iI k))]) (st' := [.ref a, .ref a]) rfl ?_
      have h111 := (n109 a (by omega)).trans (h105)
      refine T_get xr_93_52 h111 rfl (v := .int (iI (d 3 0))) rfl (pc' := 55) rfl ?_
      refine T_p xr_93_55 xn_93 (pc' := 56) (ls' := [(0, .ref a), (1, .int (iI k))]) (st' := [.int (iI 1), .int (iI (d 3 0)), .ref a]) rfl ?_
      refine T_ziadd xr_93_56 (z := (d 3 0) + 1) rfl (pc' := 57) rfl ?_
      refine T_put xr_93_57 h111 rfl (Nat.le_of_ble_eq_true rfl) rfl (fs' := [.int (iI (d 0 0)), .int (iI (d 1 0)), .int (iI (d 2 0)), .int (iI ((d 3 0) + 1)), .int (iI (d 4 0)), .int (iI (d 5 0)), .int (iI (d 6 0)), .int (iI (d 7 0)), .ref (a + 1), .ref (a + 2), .ref (a + 3), .ref (a + 4), .ref (a + 5), .ref (a + 6), .ref (a + 7)]) rfl (pc' := 60) rfl (fun S112 h113 n114 e115 => ?_)
      refine T_p xr_93_60 xn_93 (pc' := 61) (ls' := [(0, .ref a), (1, .int (iI k))]) (st' := [.ref a]) rfl ?_
      refine T_p xr_93_61 xn_93 (pc' := 62) (ls' := [(0, .ref a), (1, .int (iI k))]) (st' := [.ref a, .ref a]) rfl ?_
      refine T_get xr_93_62 h113 rfl (v := .int (iI (d 4 0))) rfl (pc' := 65) rfl ?_
      refine T_p xr_93_65 xn_93 (pc' := 66) (ls' := [(0, .ref a), (1, .int (iI k))]) (st' := [.int (iI 1), .int (iI (d 4 0)), .ref a]) rfl ?_
      refine T_ziadd xr_93_66 (z := (d 4 0) + 1) rfl (pc' := 67) rfl ?_
      refine T_put xr_93_67 h113 rfl (Nat.le_of_ble_eq_true rfl) rfl (fs' := [.int (iI (d 0 0)), .int (iI (d 1 0)), .int (iI (d 2 0)), .int (iI ((d 3 0) + 1)), .int (iI ((d 4 0) + 1)), .int (iI (d 5 0)), .int (iI (d 6 0)), .int (iI (d 7 0)), .ref (a + 1), .ref (a + 2), .ref (a + 3), .ref (a + 4), .ref (a + 5), .ref (a + 6), .ref (a + 7)]) rfl (pc' := 70) rfl (fun S116 h117 n118 e119 => ?_)
      refine T_vret xr_93_70 xf_93.2.2 ?_
      refine hQ _ _ ?_
      have h120 := (n118 (a + 1) (by omega)).trans ((n114 (a + 1) (by omega)).trans ((n109 (a + 1) (by omega)).trans ((n103 (a + 1) (by omega)).trans (h96))))
      have h121 := (n118 (a + 2) (by omega)).trans ((n114 (a + 2) (by omega)).trans ((n109 (a + 2) (by omega)).trans (h102)))
      have h122 := (n118 (a + 3) (by omega)).trans ((n114 (a + 3) (by omega)).trans (h108))
      have h123 := (n118 (a + 4) (by omega)).trans ((n114 (a + 4) (by omega)).trans ((n109 (a + 4) (by omega)).trans ((n103 (a + 4) (by omega)).trans ((n97 (a + 4) (by omega)).trans (hw.2.2.2.2.1)))))
      have h124 := (n118 (a + 5) (by omega)).trans ((n114 (a + 5) (by omega)).trans ((n109 (a + 5) (by omega)).trans ((n103 (a + 5) (by omega)).trans ((n97 (a + 5) (by omega)).trans (hw.2.2.2.2.2.1)))))
      have h125 := (n118 (a + 6) (by omega)).trans ((n114 (a + 6) (by omega)).trans ((n109 (a + 6) (by omega)).trans ((n103 (a + 6) (by omega)).trans ((n97 (a + 6) (by omega)).trans (hw.2.2.2.2.2.2.1)))))
      have h126 := (n118 (a + 7) (by omega)).trans ((n114 (a + 7) (by omega)).trans ((n109 (a + 7) (by omega)).trans ((n103 (a + 7) (by omega)).trans ((n97 (a + 7) (by omega)).trans (hw.2.2.2.2.2.2.2)))))
      exact ⟨rfl, ⟨h117, h120, h121, h122, h123, h124, h125, h126⟩, (((((X_Fr.rf).tr (X_Fr.of n97 e98 (by omega))).tr (X_Fr.of n103 e104 (by omega))).tr (X_Fr.of n109 e110 (by omega))).tr (X_Fr.of n114 e115 (by omega))).tr (X_Fr.of n118 e119 (by omega))⟩
theorem c_addStep (sc : X_Sc) (S : X_S) (a : Nat) (d : Nat → Int → Int) (q : Int → Int64) (s y : Int) (hw : C_wd S a d q) (hr : X_wr d) (hs : 0 ≤ d 5 0 ∧ d 5 0 < 30) : X_T sc 94 (0, [(0, .ref a), (1, .int (iI s)), (2, .int (iI y))], [], S) (fun v S' => v = none ∧ C_wd S' a (X_wu (X_wu (X_wu d 12 (X_ug (d 12) (d 5 0) s)) 13 (X_ug (d 13) (d 5 0) y)) 5 (fun _ => d 5 0 + 1)) q ∧ X_Fr (fun r => a ≤ r ∧ r ≤ a + 7) S S') := by
  obtain ⟨⟨hr0, hr0b⟩, ⟨hr1, hr1b⟩, ⟨hr2, hr2b⟩, ⟨hr3, hr3b⟩, ⟨hr4, hr4b⟩, ⟨hr5, hr5b⟩, ⟨hr6, hr6b⟩, ⟨hr7, hr7b⟩⟩ := id hr
  refine X_QI (fun Q hQ => ?_)
  refine T_p xr_94_0 xn_94 (pc' := 1) (ls' := [(0, .ref a), (1, .int (iI s)), (2, .int (iI y))]) (st' := [.ref a]) rfl ?_
  refine T_get xr_94_1 hw.1 rfl (v := .int (iI (d 5 0))) rfl (pc' := 4) rfl ?_
  refine T_zif_lt xr_94_4 (t := 46) (pc' := 7) rfl rfl (fun c127 => ?_) (fun c127 => ?_)
  · skip
    have c127 : (d 5 0) < 0 := c127
    exact (show False by omega).elim
  · skip
    have c127 : ¬ ((d 5 0) < 0) := c127
    refine T_p xr_94_7 xn_94 (pc' := 8) (ls' := [(0, .ref a), (1, .int (iI s)), (2, .int (iI y))]) (st' := [.ref a]) rfl ?_
    refine T_get xr_94_8 hw.1 rfl (v := .int (iI (d 5 0))) rfl (pc' := 11) rfl ?_
    refine T_p xr_94_11 xn_94 (pc' := 13) (ls' := [(0, .ref a), (1, .int (iI s)), (2, .int (iI y))]) (st' := [.int (iI 30), .int (iI (d 5 0))]) rfl ?_
    refine T_zicmp_ge xr_94_13 (t := 46) (pc' := 16) rfl rfl (fun c128 => ?_) (fun c128 => ?_)
    · skip
      have c128 : 30 ≤ (d 5 0) := c128
      exact (show False by omega).elim
    · skip
      have c128 : ¬ (30 ≤ (d 5 0)) := c128
      refine T_p xr_94_16 xn_94 (pc' := 17) (ls' := [(0, .ref a), (1, .int (iI s)), (2, .int (iI y))]) (st' := [.ref a]) rfl ?_
      refine T_get xr_94_17 hw.1 rfl (v := .ref (a + 6)) rfl (pc' := 20) rfl ?_
      refine T_p xr_94_20 xn_94 (pc' := 21) (ls' := [(0, .ref a), (1, .int (iI s)), (2, .int (iI y))]) (st' := [.ref a, .ref (a + 6)]) rfl ?_
      refine T_get xr_94_21 hw.1 rfl (v := .int (iI (d 5 0))) rfl (pc' := 24) rfl ?_
      refine T_p xr_94_24 xn_94 (pc' := 25) (ls' := [(0, .ref a), (1, .int (iI s)), (2, .int (iI y))]) (st' := [.int (iI s), .int (iI (d 5 0)), .ref (a + 6)]) rfl ?_
      refine T_ziast xr_94_25 hw.2.2.2.2.2.2.1 (pc' := 26) rfl (fun S129 h130 n131 e132 => ?_)
      refine T_p xr_94_26 xn_94 (pc' := 27) (ls' := [(0, .ref a), (1, .int (iI s)), (2, .int (iI y))]) (st' := [.ref a]) rfl ?_
      have h133 := (n131 a (by omega)).trans (hw.1)
      refine T_get xr_94_27 h133 rfl (v := .ref (a + 7)) rfl (pc' := 30) rfl ?_
      refine T_p xr_94_30 xn_94 (pc' := 31) (ls' := [(0, .ref a), (1, .int (iI s)), (2, .int (iI y))]) (st' := [.ref a, .ref (a + 7)]) rfl ?_
      refine T_get xr_94_31 h133 rfl (v := .int (iI (d 5 0))) rfl (pc' := 34) rfl ?_
      refine T_p xr_94_34 xn_94 (pc' := 35) (ls' := [(0, .ref a), (1, .int (iI s)), (2, .int (iI y))]) (st' := [.int (iI y), .int (iI (d 5 0)), .ref (a + 7)]) rfl ?_
      have h134 := (n131 (a + 7) (by omega)).trans (hw.2.2.2.2.2.2.2)
      refine T_ziast xr_94_35 h134 (pc' := 36) rfl (fun S135 h136 n137 e138 => ?_)
      refine T_p xr_94_36 xn_94 (pc' := 37) (ls' := [(0, .ref a), (1, .int (iI s)), (2, .int (iI y))]) (st' := [.ref a]) rfl ?_
      refine T_p xr_94_37 xn_94 (pc' := 38) (ls' := [(0, .ref a), (1, .int (iI s)), (2, .int (iI y))]) (st' := [.ref a, .ref a]) rfl ?_
      have h139 := (n137 a (by omega)).trans (h133)
      refine T_get xr_94_38 h139 rfl (v := .int (iI (d 5 0))) rfl (pc' := 41) rfl ?_
      refine T_p xr_94_41 xn_94 (pc' := 42) (ls' := [(0, .ref a), (1, .int (iI s)), (2, .int (iI y))]) (st' := [.int (iI 1), .int (iI (d 5 0)), .ref a]) rfl ?_
      refine T_ziadd xr_94_42 (z := (d 5 0) + 1) rfl (pc' := 43) rfl ?_
      refine T_put xr_94_43 h139 rfl (Nat.le_of_ble_eq_true rfl) rfl (fs' := [.int (iI (d 0 0)), .int (iI (d 1 0)), .int (iI (d 2 0)), .int (iI (d 3 0)), .int (iI (d 4 0)), .int (iI ((d 5 0) + 1)), .int (iI (d 6 0)), .int (iI (d 7 0)), .ref (a + 1), .ref (a + 2), .ref (a + 3), .ref (a + 4), .ref (a + 5), .ref (a + 6), .ref (a + 7)]) rfl (pc' := 46) rfl (fun S140 h141 n142 e143 => ?_)
      refine T_vret xr_94_46 xf_94.2.2 ?_
      refine hQ _ _ ?_
      have h144 := (n142 (a + 1) (by omega)).trans ((n137 (a + 1) (by omega)).trans ((n131 (a + 1) (by omega)).trans (hw.2.1)))
      have h145 := (n142 (a + 2) (by omega)).trans ((n137 (a + 2) (by omega)).trans ((n131 (a + 2) (by omega)).trans (hw.2.2.1)))
      have h146 := (n142 (a + 3) (by omega)).trans ((n137 (a + 3) (by omega)).trans ((n131 (a + 3) (by omega)).trans (hw.2.2.2.1)))
      have h147 := (n142 (a + 4) (by omega)).trans ((n137 (a + 4) (by omega)).trans ((n131 (a + 4) (by omega)).trans (hw.2.2.2.2.1)))
      have h148 := (n142 (a + 5) (by omega)).trans ((n137 (a + 5) (by omega)).trans ((n131 (a + 5) (by omega)).trans (hw.2.2.2.2.2.1)))
      have h149 := (n142 (a + 6) (by omega)).trans ((n137 (a + 6) (by omega)).trans (h130))
      have h150 := (n142 (a + 7) (by omega)).trans (h136)
      exact ⟨rfl, ⟨h141, h144, h145, h146, h147, h148, h149, h150⟩, (((X_Fr.rf).tr (X_Fr.of n131 e132 (by omega))).tr (X_Fr.of n137 e138 (by omega))).tr (X_Fr.of n142 e143 (by omega))⟩
