theorem xr_149_0 : X_row 149 0 = some (0, (.iconst 0, 1), (0, 0, 0)) := by decide +kernel
theorem xr_149_1 : X_row 149 1 = some (1, (.istore_n 3, 1), (0, 0, 0)) := by decide +kernel
theorem xr_149_2 : X_row 149 2 = some (2, (.iload_n 3, 1), (0, 0, 0)) := by decide +kernel
theorem xr_149_3 : X_row 149 3 = some (3, (.aload_n 0, 1), (0, 0, 0)) := by decide +kernel
theorem xr_149_4 : X_row 149 4 = some (4, (.getfield 84, 3), (11, 28, 56)) := by decide +kernel
theorem xr_149_7 : X_row 149 7 = some (7, (.if_icmp .ge 30, 3), (0, 0, 0)) := by decide +kernel
theorem xr_149_10 : X_row 149 10 = some (10, (.aload_n 0, 1), (0, 0, 0)) := by decide +kernel
theorem xr_149_11 : X_row 149 11 = some (11, (.getfield 87, 3), (11, 13, 26)) := by decide +kernel
theorem xr_149_14 : X_row 149 14 = some (14, (.bipush 12, 2), (0, 0, 0)) := by decide +kernel
theorem xr_149_16 : X_row 149 16 = some (16, (.aload_n 0, 1), (0, 0, 0)) := by decide +kernel
theorem xr_149_17 : X_row 149 17 = some (17, (.getfield 91, 3), (11, 4, 8)) := by decide +kernel
theorem xr_149_20 : X_row 149 20 = some (20, (.imul, 1), (0, 0, 0)) := by decide +kernel
theorem xr_149_21 : X_row 149 21 = some (21, (.iload_n 3, 1), (0, 0, 0)) := by decide +kernel
theorem xr_149_22 : X_row 149 22 = some (22, (.iadd, 1), (0, 0, 0)) := by decide +kernel
theorem xr_149_23 : X_row 149 23 = some (23, (.laload, 1), (0, 0, 0)) := by decide +kernel
theorem xr_149_24 : X_row 149 24 = some (24, (.lload_n 1, 1), (0, 0, 0)) := by decide +kernel
theorem xr_149_25 : X_row 149 25 = some (25, (.lcmp, 1), (0, 0, 0)) := by decide +kernel
theorem xr_149_26 : X_row 149 26 = some (26, (.ifCond .ne 5, 3), (0, 0, 0)) := by decide +kernel
theorem xr_149_29 : X_row 149 29 = some (29, (.iload_n 3, 1), (0, 0, 0)) := by decide +kernel
theorem xr_149_30 : X_row 149 30 = some (30, (.ireturn, 1), (0, 0, 0)) := by decide +kernel
theorem xr_149_31 : X_row 149 31 = some (31, (.iinc 3 1, 3), (0, 0, 0)) := by decide +kernel
theorem xr_149_34 : X_row 149 34 = some (34, (.goto (-32), 3), (0, 0, 0)) := by decide +kernel
theorem xr_149_37 : X_row 149 37 = some (37, (.iconst (-1), 1), (0, 0, 0)) := by decide +kernel
theorem xr_149_38 : X_row 149 38 = some (38, (.ireturn, 1), (0, 0, 0)) := by decide +kernel
theorem xr_150_0 : X_row 150 0 = some (0, (.iconst 0, 1), (0, 0, 0)) := by decide +kernel
theorem xr_150_1 : X_row 150 1 = some (1, (.istore_n 3, 1), (0, 0, 0)) := by decide +kernel
theorem xr_150_2 : X_row 150 2 = some (2, (.iload_n 3, 1), (0, 0, 0)) := by decide +kernel
theorem xr_150_3 : X_row 150 3 = some (3, (.aload_n 0, 1), (0, 0, 0)) := by decide +kernel
theorem xr_150_4 : X_row 150 4 = some (4, (.getfield 94, 3), (11, 29, 58)) := by decide +kernel
theorem xr_150_7 : X_row 150 7 = some (7, (.if_icmp .ge 30, 3), (0, 0, 0)) := by decide +kernel
theorem xr_150_10 : X_row 150 10 = some (10, (.aload_n 0, 1), (0, 0, 0)) := by decide +kernel
theorem xr_150_11 : X_row 150 11 = some (11, (.getfield 97, 3), (11, 14, 28)) := by decide +kernel
theorem xr_150_14 : X_row 150 14 = some (14, (.bipush 11, 2), (0, 0, 0)) := by decide +kernel
theorem xr_150_16 : X_row 150 16 = some (16, (.aload_n 0, 1), (0, 0, 0)) := by decide +kernel
theorem xr_150_17 : X_row 150 17 = some (17, (.getfield 91, 3), (11, 4, 8)) := by decide +kernel
theorem xr_150_20 : X_row 150 20 = some (20, (.imul, 1), (0, 0, 0)) := by decide +kernel
theorem xr_150_21 : X_row 150 21 = some (21, (.iload_n 3, 1), (0, 0, 0)) := by decide +kernel
theorem xr_150_22 : X_row 150 22 = some (22, (.iadd, 1), (0, 0, 0)) := by decide +kernel
theorem xr_150_23 : X_row 150 23 = some (23, (.laload, 1), (0, 0, 0)) := by decide +kernel
theorem xr_150_24 : X_row 150 24 = some (24, (.lload_n 1, 1), (0, 0, 0)) := by decide +kernel
theorem xr_150_25 : X_row 150 25 = some (25, (.lcmp, 1), (0, 0, 0)) := by decide +kernel
theorem xr_150_26 : X_row 150 26 = some (26, (.ifCond .ne 5, 3), (0, 0, 0)) := by decide +kernel
theorem xr_150_29 : X_row 150 29 = some (29, (.iload_n 3, 1), (0, 0, 0)) := by decide +kernel
theorem xr_150_30 : X_row 150 30 = some (30, (.ireturn, 1), (0, 0, 0)) := by decide +kernel
theorem xr_150_31 : X_row 150 31 = some (31, (.iinc 3 1, 3), (0, 0, 0)) := by decide +kernel
theorem xr_150_34 : X_row 150 34 = some (34, (.goto (-32), 3), (0, 0, 0)) := by decide +kernel
theorem xr_150_37 : X_row 150 37 = some (37, (.iconst (-1), 1), (0, 0, 0)) := by decide +kernel
theorem xr_150_38 : X_row 150 38 = some (38, (.ireturn, 1), (0, 0, 0)) := by decide +kernel
theorem xr_151_0 : X_row 151 0 = some (0, (.aload_n 0, 1), (0, 0, 0)) := by decide +kernel
theorem xr_151_1 : X_row 151 1 = some (1, (.getfield 27, 3), (11, 9, 18)) := by decide +kernel
theorem xr_151_4 : X_row 151 4 = some (4, (.iconst 2, 1), (0, 0, 0)) := by decide +kernel
theorem xr_151_5 : X_row 151 5 = some (5, (.if_icmp .eq 7, 3), (0, 0, 0)) := by decide +kernel
theorem xr_151_8 : X_row 151 8 = some (8, (.aload_n 0, 1), (0, 0, 0)) := by decide +kernel
theorem xr_151_9 : X_row 151 9 = some (9, (.invokevirtual 81, 3), (147, 16, 0)) := by decide +kernel
theorem xr_151_12 : X_row 151 12 = some (12, (.aload_n 0, 1), (0, 0, 0)) := by decide +kernel
theorem xr_151_13 : X_row 151 13 = some (13, (.invokevirtual 100, 3), (140, 14, 0)) := by decide +kernel
theorem xr_151_16 : X_row 151 16 = some (16, (.ifCond .eq 14, 3), (0, 0, 0)) := by decide +kernel
theorem xr_151_19 : X_row 151 19 = some (19, (.aload_n 0, 1), (0, 0, 0)) := by decide +kernel
theorem xr_151_20 : X_row 151 20 = some (20, (.aload_n 0, 1), (0, 0, 0)) := by decide +kernel
theorem xr_151_21 : X_row 151 21 = some (21, (.getfield 41, 3), (11, 12, 24)) := by decide +kernel
theorem xr_151_24 : X_row 151 24 = some (24, (.invokevirtual 104, 3), (149, 22, 0)) := by decide +kernel
theorem xr_151_27 : X_row 151 27 = some (27, (.goto 4, 3), (0, 0, 0)) := by decide +kernel
theorem xr_151_30 : X_row 151 30 = some (30, (.iconst 0, 1), (0, 0, 0)) := by decide +kernel
theorem xr_151_31 : X_row 151 31 = some (31, (.istore_n 1, 1), (0, 0, 0)) := by decide +kernel
theorem xr_151_32 : X_row 151 32 = some (32, (.aload_n 0, 1), (0, 0, 0)) := by decide +kernel
theorem xr_151_33 : X_row 151 33 = some (33, (.invokevirtual 100, 3), (140, 14, 0)) := by decide +kernel
theorem xr_151_36 : X_row 151 36 = some (36, (.ifCond .eq 16, 3), (0, 0, 0)) := by decide +kernel
theorem xr_151_39 : X_row 151 39 = some (39, (.iload_n 1, 1), (0, 0, 0)) := by decide +kernel
theorem xr_151_40 : X_row 151 40 = some (40, (.ifCond .ge 12, 3), (0, 0, 0)) := by decide +kernel
theorem xr_151_43 : X_row 151 43 = some (43, (.aload_n 0, 1), (0, 0, 0)) := by decide +kernel
theorem xr_151_44 : X_row 151 44 = some (44, (.iconst 3, 1), (0, 0, 0)) := by decide +kernel
theorem xr_151_45 : X_row 151 45 = some (45, (.aload_n 0, 1), (0, 0, 0)) := by decide +kernel
theorem xr_151_46 : X_row 151 46 = some (46, (.getfield 20, 3), (11, 7, 14)) := by decide +kernel
theorem xr_151_49 : X_row 151 49 = some (49, (.invokevirtual 72, 3), (139, 18, 0)) := by decide +kernel
theorem xr_151_52 : X_row 151 52 = some (52, (.aload_n 0, 1), (0, 0, 0)) := by decide +kernel
theorem xr_151_53 : X_row 151 53 = some (53, (.invokevirtual 100, 3), (140, 14, 0)) := by decide +kernel
theorem xr_151_56 : X_row 151 56 = some (56, (.ifCond .eq 7, 3), (0, 0, 0)) := by decide +kernel
theorem xr_151_59 : X_row 151 59 = some (59, (.aload_n 0, 1), (0, 0, 0)) := by decide +kernel
theorem xr_151_60 : X_row 151 60 = some (60, (.invokevirtual 78, 3), (141, 0, 0)) := by decide +kernel
theorem xr_151_63 : X_row 151 63 = some (63, (.iload_n 1, 1), (0, 0, 0)) := by decide +kernel
theorem xr_151_64 : X_row 151 64 = some (64, (.ireturn, 1), (0, 0, 0)) := by decide +kernel
theorem xr_152_0 : X_row 152 0 = some (0, (.aload_n 0, 1), (0, 0, 0)) := by decide +kernel
theorem xr_152_1 : X_row 152 1 = some (1, (.getfield 27, 3), (11, 9, 18)) := by decide +kernel
theorem xr_152_4 : X_row 152 4 = some (4, (.iconst 2, 1), (0, 0, 0)) := by decide +kernel
theorem xr_152_5 : X_row 152 5 = some (5, (.if_icmp .eq 7, 3), (0, 0, 0)) := by decide +kernel
theorem xr_152_8 : X_row 152 8 = some (8, (.aload_n 0, 1), (0, 0, 0)) := by decide +kernel
theorem xr_152_9 : X_row 152 9 = some (9, (.invokevirtual 81, 3), (147, 16, 0)) := by decide +kernel
theorem xr_152_12 : X_row 152 12 = some (12, (.aload_n 0, 1), (0, 0, 0)) := by decide +kernel
theorem xr_152_13 : X_row 152 13 = some (13, (.invokevirtual 100, 3), (140, 14, 0)) := by decide +kernel
theorem xr_152_16 : X_row 152 16 = some (16, (.ifCond .eq 14, 3), (0, 0, 0)) := by decide +kernel
theorem xr_152_19 : X_row 152 19 = some (19, (.aload_n 0, 1), (0, 0, 0)) := by decide +kernel
theorem xr_152_20 : X_row 152 20 = some (20, (.aload_n 0, 1), (0, 0, 0)) := by decide +kernel
theorem xr_152_21 : X_row 152 21 = some (21, (.getfield 41, 3), (11, 12, 24)) := by decide +kernel
theorem xr_152_24 : X_row 152 24 = some (24, (.invokevirtual 108, 3), (150, 36, 0)) := by decide +kernel
theorem xr_152_27 : X_row 152 27 = some (27, (.goto 4, 3), (0, 0, 0)) := by decide +kernel
theorem xr_152_30 : X_row 152 30 = some (30, (.iconst 0, 1), (0, 0, 0)) := by decide +kernel
theorem xr_152_31 : X_row 152 31 = some (31, (.istore_n 1, 1), (0, 0, 0)) := by decide +kernel
theorem xr_152_32 : X_row 152 32 = some (32, (.aload_n 0, 1), (0, 0, 0)) := by decide +kernel
theorem xr_152_33 : X_row 152 33 = some (33, (.invokevirtual 100, 3), (140, 14, 0)) := by decide +kernel
theorem xr_152_36 : X_row 152 36 = some (36, (.ifCond .eq 16, 3), (0, 0, 0)) := by decide +kernel
theorem xr_152_39 : X_row 152 39 = some (39, (.iload_n 1, 1), (0, 0, 0)) := by decide +kernel
theorem xr_152_40 : X_row 152 40 = some (40, (.ifCond .ge 12, 3), (0, 0, 0)) := by decide +kernel
theorem xr_152_43 : X_row 152 43 = some (43, (.aload_n 0, 1), (0, 0, 0)) := by decide +kernel
theorem xr_152_44 : X_row 152 44 = some (44, (.iconst 3, 1), (0, 0, 0)) := by decide +kernel
theorem xr_152_45 : X_row 152 45 = some (45, (.aload_n 0, 1), (0, 0, 0)) := by decide +kernel
theorem xr_152_46 : X_row 152 46 = some (46, (.getfield 20, 3), (11, 7, 14)) := by decide +kernel
theorem xr_152_49 : X_row 152 49 = some (49, (.invokevirtual 72, 3), (139, 18, 0)) := by decide +kernel
theorem xr_152_52 : X_row 152 52 = some (52, (.aload_n 0, 1), (0, 0, 0)) := by decide +kernel
theorem xr_152_53 : X_row 152 53 = some (53, (.invokevirtual 100, 3), (140, 14, 0)) := by decide +kernel
theorem xr_152_56 : X_row 152 56 = some (56, (.ifCond .eq 7, 3), (0, 0, 0)) := by decide +kernel
theorem xr_152_59 : X_row 152 59 = some (59, (.aload_n 0, 1), (0, 0, 0)) := by decide +kernel
theorem xr_152_60 : X_row 152 60 = some (60, (.invokevirtual 78, 3), (141, 0, 0)) := by decide +kernel
theorem xr_152_63 : X_row 152 63 = some (63, (.iload_n 1, 1), (0, 0, 0)) := by decide +kernel
theorem xr_152_64 : X_row 152 64 = some (64, (.ireturn, 1), (0, 0, 0)) := by decide +kernel
theorem xr_153_0 : X_row 153 0 = some (0, (.aload_n 0, 1), (0, 0, 0)) := by decide +kernel
theorem xr_153_1 : X_row 153 1 = some (1, (.getfield 27, 3), (11, 9, 18)) := by decide +kernel
theorem xr_153_4 : X_row 153 4 = some (4, (.iconst 2, 1), (0, 0, 0)) := by decide +kernel
theorem xr_153_5 : X_row 153 5 = some (5, (.if_icmp .eq 7, 3), (0, 0, 0)) := by decide +kernel
theorem xr_153_8 : X_row 153 8 = some (8, (.aload_n 0, 1), (0, 0, 0)) := by decide +kernel
theorem xr_153_9 : X_row 153 9 = some (9, (.invokevirtual 81, 3), (147, 16, 0)) := by decide +kernel
theorem xr_153_12 : X_row 153 12 = some (12, (.aload_n 0, 1), (0, 0, 0)) := by decide +kernel
theorem xr_153_13 : X_row 153 13 = some (13, (.invokevirtual 100, 3), (140, 14, 0)) := by decide +kernel
theorem xr_153_16 : X_row 153 16 = some (16, (.ifCond .eq 23, 3), (0, 0, 0)) := by decide +kernel
theorem xr_153_19 : X_row 153 19 = some (19, (.aload_n 0, 1), (0, 0, 0)) := by decide +kernel
theorem xr_153_20 : X_row 153 20 = some (20, (.aload_n 0, 1), (0, 0, 0)) := by decide +kernel
theorem xr_153_21 : X_row 153 21 = some (21, (.getfield 41, 3), (11, 12, 24)) := by decide +kernel
theorem xr_153_24 : X_row 153 24 = some (24, (.invokevirtual 104, 3), (149, 22, 0)) := by decide +kernel
theorem xr_153_27 : X_row 153 27 = some (27, (.ifCond .lt 12, 3), (0, 0, 0)) := by decide +kernel
theorem xr_153_30 : X_row 153 30 = some (30, (.aload_n 0, 1), (0, 0, 0)) := by decide +kernel
theorem xr_153_31 : X_row 153 31 = some (31, (.iconst 3, 1), (0, 0, 0)) := by decide +kernel
theorem xr_153_32 : X_row 153 32 = some (32, (.aload_n 0, 1), (0, 0, 0)) := by decide +kernel
theorem xr_153_33 : X_row 153 33 = some (33, (.getfield 20, 3), (11, 7, 14)) := by decide +kernel
theorem xr_153_36 : X_row 153 36 = some (36, (.invokevirtual 72, 3), (139, 18, 0)) := by decide +kernel
theorem xr_153_39 : X_row 153 39 = some (39, (.aload_n 0, 1), (0, 0, 0)) := by decide +kernel
theorem xr_153_40 : X_row 153 40 = some (40, (.invokevirtual 100, 3), (140, 14, 0)) := by decide +kernel
theorem xr_153_43 : X_row 153 43 = some (43, (.ifCond .ne 4, 3), (0, 0, 0)) := by decide +kernel
theorem xr_153_46 : X_row 153 46 = some (46, (.return_, 1), (0, 0, 0)) := by decide +kernel
theorem xr_153_47 : X_row 153 47 = some (47, (.aload_n 0, 1), (0, 0, 0)) := by decide +kernel
theorem xr_153_48 : X_row 153 48 = some (48, (.getfield 87, 3), (11, 13, 26)) := by decide +kernel
theorem xr_153_51 : X_row 153 51 = some (51, (.bipush 12, 2), (0, 0, 0)) := by decide +kernel
theorem xr_153_53 : X_row 153 53 = some (53, (.aload_n 0, 1), (0, 0, 0)) := by decide +kernel
theorem xr_153_54 : X_row 153 54 = some (54, (.getfield 91, 3), (11, 4, 8)) := by decide +kernel
theorem xr_153_57 : X_row 153 57 = some (57, (.imul, 1), (0, 0, 0)) := by decide +kernel
theorem xr_153_58 : X_row 153 58 = some (58, (.aload_n 0, 1), (0, 0, 0)) := by decide +kernel
theorem xr_153_59 : X_row 153 59 = some (59, (.getfield 84, 3), (11, 28, 56)) := by decide +kernel
theorem xr_153_62 : X_row 153 62 = some (62, (.iadd, 1), (0, 0, 0)) := by decide +kernel
theorem xr_153_63 : X_row 153 63 = some (63, (.aload_n 0, 1), (0, 0, 0)) := by decide +kernel
theorem xr_153_64 : X_row 153 64 = some (64, (.getfield 41, 3), (11, 12, 24)) := by decide +kernel
theorem xr_153_67 : X_row 153 67 = some (67, (.lastore, 1), (0, 0, 0)) := by decide +kernel
theorem xr_153_68 : X_row 153 68 = some (68, (.iconst 0, 1), (0, 0, 0)) := by decide +kernel
theorem xr_153_69 : X_row 153 69 = some (69, (.istore_n 1, 1), (0, 0, 0)) := by decide +kernel
theorem xr_153_70 : X_row 153 70 = some (70, (.iload_n 1, 1), (0, 0, 0)) := by decide +kernel
theorem xr_153_71 : X_row 153 71 = some (71, (.bipush 12, 2), (0, 0, 0)) := by decide +kernel
theorem xr_153_73 : X_row 153 73 = some (73, (.if_icmp .ge 57, 3), (0, 0, 0)) := by decide +kernel
theorem xr_153_76 : X_row 153 76 = some (76, (.aload_n 0, 1), (0, 0, 0)) := by decide +kernel
theorem xr_153_77 : X_row 153 77 = some (77, (.getfield 111, 3), (11, 15, 30)) := by decide +kernel
theorem xr_153_80 : X_row 153 80 = some (80, (.sipush 144, 3), (0, 0, 0)) := by decide +kernel
theorem xr_153_83 : X_row 153 83 = some (83, (.aload_n 0, 1), (0, 0, 0)) := by decide +kernel
theorem xr_153_84 : X_row 153 84 = some (84, (.getfield 91, 3), (11, 4, 8)) := by decide +kernel
theorem xr_153_87 : X_row 153 87 = some (87, (.imul, 1), (0, 0, 0)) := by decide +kernel
theorem xr_153_88 : X_row 153 88 = some (88, (.bipush 12, 2), (0, 0, 0)) := by decide +kernel
theorem xr_153_90 : X_row 153 90 = some (90, (.aload_n 0, 1), (0, 0, 0)) := by decide +kernel
theorem xr_153_91 : X_row 153 91 = some (91, (.getfield 84, 3), (11, 28, 56)) := by decide +kernel
theorem xr_153_94 : X_row 153 94 = some (94, (.imul, 1), (0, 0, 0)) := by decide +kernel
theorem xr_153_95 : X_row 153 95 = some (95, (.iadd, 1), (0, 0, 0)) := by decide +kernel
theorem xr_153_96 : X_row 153 96 = some (96, (.iload_n 1, 1), (0, 0, 0)) := by decide +kernel
theorem xr_153_97 : X_row 153 97 = some (97, (.iadd, 1), (0, 0, 0)) := by decide +kernel
theorem xr_153_98 : X_row 153 98 = some (98, (.iconst 0, 1), (0, 0, 0)) := by decide +kernel
theorem xr_153_99 : X_row 153 99 = some (99, (.bastore, 1), (0, 0, 0)) := by decide +kernel
theorem xr_153_100 : X_row 153 100 = some (100, (.aload_n 0, 1), (0, 0, 0)) := by decide +kernel
theorem xr_153_101 : X_row 153 101 = some (101, (.getfield 111, 3), (11, 15, 30)) := by decide +kernel
theorem xr_153_104 : X_row 153 104 = some (104, (.sipush 144, 3), (0, 0, 0)) := by decide +kernel
theorem xr_153_107 : X_row 153 107 = some (107, (.aload_n 0, 1), (0, 0, 0)) := by decide +kernel
theorem xr_153_108 : X_row 153 108 = some (108, (.getfield 91, 3), (11, 4, 8)) := by decide +kernel
theorem xr_153_111 : X_row 153 111 = some (111, (.imul, 1), (0, 0, 0)) := by decide +kernel
theorem xr_153_112 : X_row 153 112 = some (112, (.bipush 12, 2), (0, 0, 0)) := by decide +kernel
theorem xr_153_114 : X_row 153 114 = some (114, (.iload_n 1, 1), (0, 0, 0)) := by decide +kernel
theorem xr_153_115 : X_row 153 115 = some (115, (.imul, 1), (0, 0, 0)) := by decide +kernel
theorem xr_153_116 : X_row 153 116 = some (116, (.iadd, 1), (0, 0, 0)) := by decide +kernel
theorem xr_153_117 : X_row 153 117 = some (117, (.aload_n 0, 1), (0, 0, 0)) := by decide +kernel
theorem xr_153_118 : X_row 153 118 = some (118, (.getfield 84, 3), (11, 28, 56)) := by decide +kernel
theorem xr_153_121 : X_row 153 121 = some (121, (.iadd, 1), (0, 0, 0)) := by decide +kernel
theorem xr_153_122 : X_row 153 122 = some (122, (.iconst 0, 1), (0, 0, 0)) := by decide +kernel
theorem xr_153_123 : X_row 153 123 = some (123, (.bastore, 1), (0, 0, 0)) := by decide +kernel
theorem xr_153_124 : X_row 153 124 = some (124, (.iinc 1 1, 3), (0, 0, 0)) := by decide +kernel
theorem xr_153_127 : X_row 153 127 = some (127, (.goto (-57), 3), (0, 0, 0)) := by decide +kernel
theorem xr_153_130 : X_row 153 130 = some (130, (.aload_n 0, 1), (0, 0, 0)) := by decide +kernel
theorem xr_153_131 : X_row 153 131 = some (131, (.dup, 1), (0, 0, 0)) := by decide +kernel
theorem xr_153_132 : X_row 153 132 = some (132, (.getfield 84, 3), (11, 28, 56)) := by decide +kernel
theorem xr_153_135 : X_row 153 135 = some (135, (.iconst 1, 1), (0, 0, 0)) := by decide +kernel
theorem xr_153_136 : X_row 153 136 = some (136, (.iadd, 1), (0, 0, 0)) := by decide +kernel
theorem xr_153_137 : X_row 153 137 = some (137, (.putfield 84, 3), (11, 28, 56)) := by decide +kernel
theorem xr_153_140 : X_row 153 140 = some (140, (.aload_n 0, 1), (0, 0, 0)) := by decide +kernel
theorem xr_153_141 : X_row 153 141 = some (141, (.invokevirtual 78, 3), (141, 0, 0)) := by decide +kernel
theorem xr_153_144 : X_row 153 144 = some (144, (.aload_n 0, 1), (0, 0, 0)) := by decide +kernel
theorem xr_153_145 : X_row 153 145 = some (145, (.bipush 59, 2), (0, 0, 0)) := by decide +kernel
theorem xr_153_147 : X_row 153 147 = some (147, (.invokevirtual 115, 3), (148, 24, 0)) := by decide +kernel
theorem xr_153_150 : X_row 153 150 = some (150, (.return_, 1), (0, 0, 0)) := by decide +kernel
theorem xr_154_0 : X_row 154 0 = some (0, (.aload_n 0, 1), (0, 0, 0)) := by decide +kernel
theorem xr_154_1 : X_row 154 1 = some (1, (.getfield 111, 3), (11, 15, 30)) := by decide +kernel
theorem xr_154_4 : X_row 154 4 = some (4, (.sipush 144, 3), (0, 0, 0)) := by decide +kernel
theorem xr_154_7 : X_row 154 7 = some (7, (.aload_n 0, 1), (0, 0, 0)) := by decide +kernel
theorem xr_154_8 : X_row 154 8 = some (8, (.getfield 91, 3), (11, 4, 8)) := by decide +kernel
theorem xr_154_11 : X_row 154 11 = some (11, (.imul, 1), (0, 0, 0)) := by decide +kernel
theorem xr_154_12 : X_row 154 12 = some (12, (.bipush 12, 2), (0, 0, 0)) := by decide +kernel
theorem xr_154_14 : X_row 154 14 = some (14, (.iload_n 1, 1), (0, 0, 0)) := by decide +kernel
theorem xr_154_15 : X_row 154 15 = some (15, (.imul, 1), (0, 0, 0)) := by decide +kernel
theorem xr_154_16 : X_row 154 16 = some (16, (.iadd, 1), (0, 0, 0)) := by decide +kernel
theorem xr_154_17 : X_row 154 17 = some (17, (.iload_n 2, 1), (0, 0, 0)) := by decide +kernel
theorem xr_154_18 : X_row 154 18 = some (18, (.iadd, 1), (0, 0, 0)) := by decide +kernel
theorem xr_154_19 : X_row 154 19 = some (19, (.baload, 1), (0, 0, 0)) := by decide +kernel
theorem xr_154_20 : X_row 154 20 = some (20, (.ireturn, 1), (0, 0, 0)) := by decide +kernel
theorem xn_149 : X_nL 149 = 4 := by decide +kernel
theorem xf_149 : X_na 149 = 1 ∧ X_ci 149 = 11 ∧ X_rt 149 = (some .int) := by decide +kernel
theorem xn_150 : X_nL 150 = 4 := by decide +kernel
theorem xf_150 : X_na 150 = 1 ∧ X_ci 150 = 11 ∧ X_rt 150 = (some .int) := by decide +kernel
theorem xn_151 : X_nL 151 = 2 := by decide +kernel
theorem xf_151 : X_na 151 = 0 ∧ X_ci 151 = 11 ∧ X_rt 151 = (some .int) := by decide +kernel
theorem xn_152 : X_nL 152 = 2 := by decide +kernel
theorem xf_152 : X_na 152 = 0 ∧ X_ci 152 = 11 ∧ X_rt 152 = (some .int) := by decide +kernel
theorem xn_153 : X_nL 153 = 2 := by decide +kernel
theorem xf_153 : X_na 153 = 0 ∧ X_ci 153 = 11 ∧ X_rt 153 = none := by decide +kernel
theorem xn_154 : X_nL 154 = 3 := by decide +kernel
theorem xf_154 : X_na 154 = 2 ∧ X_ci 154 = 11 ∧ X_rt 154 = (some .boolean) := by decide +kernel
/-- the reference's ranks, kinds: bank b holds what K tells -/
def R_rk (b rc : Int) (rn : Int → Int64) (lo : Int → Int) (rN : Int → Int64) (tg : Int → Int) : Prop := (∀ i, 0 ≤ i → i < rc → rN (12 * b + i) = rn i) ∧ (∀ i j, 0 ≤ i → i < rc → 0 ≤ j → j < rc → tg (144 * b + 12 * i + j) = bI (X_bt (lo i) j)) ∧ (∀ i j, 0 ≤ i → i < rc → rc ≤ j → j < 32 → ¬ X_bt (lo i) j)
def R_kd (b kc : Int) (kn : Int → Int64) (ab : Int → Int) (kN : Int → Int64) (kU : Int → Int) : Prop := (∀ i, 0 ≤ i → i < kc → kN (11 * b + i) = kn i) ∧ (∀ u, 0 ≤ u → u < 32 → (X_bt (ab 0) u ↔ u = 0)) ∧ kU (11 * b) = -1 ∧ (∀ k, 1 ≤ k → k < kc → (0 ≤ kU (11 * b + k) ∧ kU (11 * b + k) < k) ∧ ∀ u, 0 ≤ u → u < 32 → (X_bt (ab k) u ↔ u = k ∨ X_bt (ab (kU (11 * b + k))) u))
/-- what a bank's part of an array leaves alone -/
def R_ob {α : Type} (m b : Int) (g g' : Int → α) : Prop := ∀ i, ¬ (m * b ≤ i ∧ i < m * b + m) → g' i = g i
theorem R_ob.rf {α : Type} {m b : Int} {g : Int → α} : R_ob m b g g := fun _ _ => rfl
theorem R_ob.up {α : Type} {m b : Int} {g g' : Int → α} {i : Int} {v : α} (h : R_ob m b g g') (hi : m * b ≤ i ∧ i < m * b + m) : R_ob m b g (X_ug g' i v) := fun k hk => by
  rw [X_ug_n _ _ (fun e : k = i => hk (by rw [e]; exact hi))]
  exact h k hk
theorem X_bo_z : X_bo 0 = 0 := by decide
theorem X_bo_1 : X_bo 1 = bI True := by rw [bI_t trivial]; decide
theorem X_bo_0 : X_bo 0 = bI False := by rw [bI_f (fun h => h)]; decide
theorem R_rk_add {b rc : Int} {rn : Int → Int64} {lo : Int → Int} {rN rN' : Int → Int64} {tg tg' : Int → Int} {t : Int64} (hb : 0 ≤ b ∧ b ≤ 1) (hr : 0 ≤ rc ∧ rc < 12) (h : R_rk b rc rn lo rN tg) (h1 : rN' = X_ug rN (12 * b + rc) t)
    (h2 : ∀ k, 0 ≤ k → k < 12 → tg' (144 * b + 12 * rc + k) = 0 ∧ tg' (144 * b + 12 * k + rc) = 0) (h3 : ∀ i, (∀ k, 0 ≤ k → k < 12 → i ≠ 144 * b + 12 * rc + k ∧ i ≠ 144 * b + 12 * k + rc) → tg' i = tg i) : R_rk b (rc + 1) (X_ug rn rc t) (X_ug lo rc 0) rN' tg' := by
  obtain ⟨a1, a2, a3⟩ := h
  subst h1
  refine ⟨fun i g1 g2 => ?_, fun i j g1 g2 g3 g4 => ?_, fun i j g1 g2 g3 g4 => ?_⟩
  · by_cases hi : i = rc
    · subst hi; rw [X_ug_s, X_ug_s]
    · rw [X_ug_n _ _ hi, X_ug_n _ _ (by omega)]; exact a1 i g1 (by omega)
  · by_cases hi : i = rc
    · subst hi
      rw [(h2 j g3 (by omega)).1, X_ug_s, bI_f (X_bt_0 j (by omega))]
    · rw [X_ug_n _ _ hi]
      by_cases hj : j = rc
      · subst hj
        rw [(h2 i g1 (by omega)).2, bI_f (a3 i j g1 (by omega) (by omega) (by omega))]
      · rw [h3 _ (fun k k1 k2 => ⟨by omega, by omega⟩)]
        exact a2 i j g1 (by omega) g3 (by omega)
  · by_cases hi : i = rc
    · subst hi; rw [X_ug_s]; exact X_bt_0 j (by omega)
    · rw [X_ug_n _ _ hi]; exact a3 i j g1 (by omega) (by omega) g4
theorem r_rankOf (sc : X_Sc) (S : X_S) (o : Nat → Int) (nm : Int64) (rN : Int → Int64) (rn : Int → Int64) (rc : Int) (t : Int64) (hM : M_o S o nm) (hA533 : S.1 533 = .inl (.long, 24, .inr (.inl fun k : Nat => rN (k : Int)))) (hcnt : o 28 = rc) (hcr : 0 ≤ rc ∧ rc ≤ 12) (hb : 0 ≤ o 4 ∧ o 4 ≤ 1) (hN : ∀ i, 0 ≤ i → i < rc → rN (12 * o 4 + i) = rn i) : X_T sc 149 (0, [(0, .ref 530), (1, .long t)], [], S) (fun v S' => v = some (.int (iI (X_ix rn rc t))) ∧ S' = S) := by
  refine X_QI (fun Q hQ => ?_)
  refine T_p xr_149_0 xn_149 (pc' := 1) (ls' := [(0, .ref 530), (1, .long t)]) (st' := [.int (iI 0)]) rfl ?_
  refine T_p xr_149_1 xn_149 (pc' := 2) (ls' := [(3, .int (iI 0)), (0, .ref 530), (1, .long t)]) (st' := []) rfl ?_
  have L988 : ∀ (m990 : Nat) (k : Int) (hk : 0 ≤ k ∧ k ≤ rc) (hno : ∀ i, 0 ≤ i → i < k → ¬ rn i = t) (hm991 : rc - k < m990), X_T sc 149 (2, [(3, .int (iI k)), (0, .ref 530), (1, .long t)], [], S) Q := by
    intro m990
    induction m990 with
    | zero =>
      intro k hk hno hm991
      exact (show False by omega).elim
    | succ m990 ih989 =>
      intro k hk hno hm991
      refine T_p xr_149_2 xn_149 (pc' := 3) (ls' := [(3, .int (iI k)), (0, .ref 530), (1, .long t)]) (st' := [.int (iI k)]) rfl ?_
      refine T_p xr_149_3 xn_149 (pc' := 4) (ls' := [(3, .int (iI k)), (0, .ref 530), (1, .long t)]) (st' := [.ref 530, .int (iI k)]) rfl ?_
      refine T_get xr_149_4 hM rfl (v := .int (iI (o 28))) rfl (pc' := 7) rfl ?_
      refine T_zicmp_ge xr_149_7 (t := 37) (pc' := 10) rfl rfl (fun c993 => ?_) (fun c993 => ?_)
      · skip
        have c993 : (o 28) ≤ k := c993
        refine T_p xr_149_37 xn_149 (pc' := 38) (ls' := [(3, .int (iI k)), (0, .ref 530), (1, .long t)]) (st' := [.int (iI (-1))]) rfl ?_
        refine T_iret xr_149_38 xf_149.2.2 rfl ?_
        refine hQ _ _ ?_
        exact ⟨by rw [← X_ix_e (r := -1) (Or.inr ⟨rfl, fun k1 h1 h2 => hno k1 h1 (by omega)⟩)], rfl⟩
      · skip
        have c993 : ¬ ((o 28) ≤ k) := c993
        refine T_p xr_149_10 xn_149 (pc' := 11) (ls' := [(3, .int (iI k)), (0, .ref 530), (1, .long t)]) (st' := [.ref 530]) rfl ?_
        refine T_get xr_149_11 hM rfl (v := .ref 533) rfl (pc' := 14) rfl ?_
        refine T_p xr_149_14 xn_149 (pc' := 16) (ls' := [(3, .int (iI k)), (0, .ref 530), (1, .long t)]) (st' := [.int (iI 12), .ref 533]) rfl ?_
        refine T_p xr_149_16 xn_149 (pc' := 17) (ls' := [(3, .int (iI k)), (0, .ref 530), (1, .long t)]) (st' := [.ref 530, .int (iI 12), .ref 533]) rfl ?_
        refine T_get xr_149_17 hM rfl (v := .int (iI (o 4))) rfl (pc' := 20) rfl ?_
        refine T_zimul xr_149_20 (z := 12 * (o 4)) rfl (pc' := 21) rfl ?_
        refine T_p xr_149_21 xn_149 (pc' := 22) (ls' := [(3, .int (iI k)), (0, .ref 530), (1, .long t)]) (st' := [.int (iI k), .int (iI (12 * (o 4))), .ref 533]) rfl ?_
        refine T_ziadd xr_149_22 (z := (12 * (o 4)) + k) rfl (pc' := 23) rfl ?_
        refine T_zlald xr_149_23 hA533 (pc' := 24) rfl ?_
        refine T_p xr_149_24 xn_149 (pc' := 25) (ls' := [(3, .int (iI k)), (0, .ref 530), (1, .long t)]) (st' := [.long t, .long (rN ((12 * (o 4)) + k))]) rfl ?_
        refine T_lc_ne xr_149_25 xr_149_26 (t := 31) (pc' := 29) rfl rfl (fun c994 => ?_) (fun c994 => ?_)
        · skip
          have c994 : ¬ (rN ((12 * (o 4)) + k)) = t := c994
          refine T_ziinc xr_149_31 xn_149 (a := k) (z := k + 1) rfl (Nat.le_of_ble_eq_true rfl) (by omega) (ls' := [(3, .int (iI (k + 1))), (0, .ref 530), (1, .long t)]) rfl (pc' := 34) rfl ?_
          refine T_p xr_149_34 xn_149 (pc' := 2) (ls' := [(3, .int (iI (k + 1))), (0, .ref 530), (1, .long t)]) (st' := []) rfl ?_
          exact ih989 (k + 1)  (by omega) (fun i h1 h2 => by
                by_cases hi : i = k
                · subst hi; rw [← hN i (by omega) (by omega)]; assumption
                · exact hno i h1 (by omega)) (by omega)
        · skip
          have c994 : ¬ (¬ (rN ((12 * (o 4)) + k)) = t) := c994
          refine T_p xr_149_29 xn_149 (pc' := 30) (ls' := [(3, .int (iI k)), (0, .ref 530), (1, .long t)]) (st' := [.int (iI k)]) rfl ?_
          refine T_iret xr_149_30 xf_149.2.2 rfl ?_
          refine hQ _ _ ?_
          exact ⟨by rw [← X_ix_e (r := k) (Or.inl ⟨by omega, by omega, by rw [← hN k (by omega) (by omega)]; first | assumption | exact Classical.not_not.mp (by assumption), hno⟩)], rfl⟩
  exact L988 (rc + 1).toNat 0  (by omega) (fun i h1 h2 => absurd h2 (by omega)) (by omega)
theorem r_kindOf (sc : X_Sc) (S : X_S) (o : Nat → Int) (nm : Int64) (kN : Int → Int64) (kn : Int → Int64) (kc : Int) (t : Int64) (hM : M_o S o nm) (hA534 : S.1 534 = .inl (.long, 22, .inr (.inl fun k : Nat => kN (k : Int)))) (hcnt : o 29 = kc) (hcr : 0 ≤ kc ∧ kc ≤ 11) (hb : 0 ≤ o 4 ∧ o 4 ≤ 1) (hN : ∀ i, 0 ≤ i → i < kc → kN (11 * o 4 + i) = kn i) : X_T sc 150 (0, [(0, .ref 530), (1, .long t)], [], S) (fun v S' => v = some (.int (iI (X_ix kn kc t))) ∧ S' = S) := by
  refine X_QI (fun Q hQ => ?_)
  refine T_p xr_150_0 xn_150 (pc' := 1) (ls' := [(0, .ref 530), (1, .long t)]) (st' := [.int (iI 0)]) rfl ?_
  refine T_p xr_150_1 xn_150 (pc' := 2) (ls' := [(3, .int (iI 0)), (0, .ref 530), (1, .long t)]) (st' := []) rfl ?_
  have L995 : ∀ (m997 : Nat) (k : Int) (hk : 0 ≤ k ∧ k ≤ kc) (hno : ∀ i, 0 ≤ i → i < k → ¬ kn i = t) (hm998 : kc - k < m997), X_T sc 150 (2, [(3, .int (iI k)), (0, .ref 530), (1, .long t)], [], S) Q := by
    intro m997
    induction m997 with
    | zero =>
      intro k hk hno hm998
      exact (show False by omega).elim
    | succ m997 ih996 =>
      intro k hk hno hm998
      refine T_p xr_150_2 xn_150 (pc' := 3) (ls' := [(3, .int (iI k)), (0, .ref 530), (1, .long t)]) (st' := [.int (iI k)]) rfl ?_
      refine T_p xr_150_3 xn_150 (pc' := 4) (ls' := [(3, .int (iI k)), (0, .ref 530), (1, .long t)]) (st' := [.ref 530, .int (iI k)]) rfl ?_
      refine T_get xr_150_4 hM rfl (v := .int (iI (o 29))) rfl (pc' := 7) rfl ?_
      refine T_zicmp_ge xr_150_7 (t := 37) (pc' := 10) rfl rfl (fun c1000 => ?_) (fun c1000 => ?_)
      · skip
        have c1000 : (o 29) ≤ k := c1000
        refine T_p xr_150_37 xn_150 (pc' := 38) (ls' := [(3, .int (iI k)), (0, .ref 530), (1, .long t)]) (st' := [.int (iI (-1))]) rfl ?_
        refine T_iret xr_150_38 xf_150.2.2 rfl ?_
        refine hQ _ _ ?_
        exact ⟨by rw [← X_ix_e (r := -1) (Or.inr ⟨rfl, fun k1 h1 h2 => hno k1 h1 (by omega)⟩)], rfl⟩
      · skip
        have c1000 : ¬ ((o 29) ≤ k) := c1000
        refine T_p xr_150_10 xn_150 (pc' := 11) (ls' := [(3, .int (iI k)), (0, .ref 530), (1, .long t)]) (st' := [.ref 530]) rfl ?_
        refine T_get xr_150_11 hM rfl (v := .ref 534) rfl (pc' := 14) rfl ?_
        refine T_p xr_150_14 xn_150 (pc' := 16) (ls' := [(3, .int (iI k)), (0, .ref 530), (1, .long t)]) (st' := [.int (iI 11), .ref 534]) rfl ?_
        refine T_p xr_150_16 xn_150 (pc' := 17) (ls' := [(3, .int (iI k)), (0, .ref 530), (1, .long t)]) (st' := [.ref 530, .int (iI 11), .ref 534]) rfl ?_
        refine T_get xr_150_17 hM rfl (v := .int (iI (o 4))) rfl (pc' := 20) rfl ?_
        refine T_zimul xr_150_20 (z := 11 * (o 4)) rfl (pc' := 21) rfl ?_
        refine T_p xr_150_21 xn_150 (pc' := 22) (ls' := [(3, .int (iI k)), (0, .ref 530), (1, .long t)]) (st' := [.int (iI k), .int (iI (11 * (o 4))), .ref 534]) rfl ?_
        refine T_ziadd xr_150_22 (z := (11 * (o 4)) + k) rfl (pc' := 23) rfl ?_
        refine T_zlald xr_150_23 hA534 (pc' := 24) rfl ?_
        refine T_p xr_150_24 xn_150 (pc' := 25) (ls' := [(3, .int (iI k)), (0, .ref 530), (1, .long t)]) (st' := [.long t, .long (kN ((11 * (o 4)) + k))]) rfl ?_
        refine T_lc_ne xr_150_25 xr_150_26 (t := 31) (pc' := 29) rfl rfl (fun c1001 => ?_) (fun c1001 => ?_)
        · skip
          have c1001 : ¬ (kN ((11 * (o 4)) + k)) = t := c1001
          refine T_ziinc xr_150_31 xn_150 (a := k) (z := k + 1) rfl (Nat.le_of_ble_eq_true rfl) (by omega) (ls' := [(3, .int (iI (k + 1))), (0, .ref 530), (1, .long t)]) rfl (pc' := 34) rfl ?_
          refine T_p xr_150_34 xn_150 (pc' := 2) (ls' := [(3, .int (iI (k + 1))), (0, .ref 530), (1, .long t)]) (st' := []) rfl ?_
          exact ih996 (k + 1)  (by omega) (fun i h1 h2 => by
                by_cases hi : i = k
                · subst hi; rw [← hN i (by omega) (by omega)]; assumption
                · exact hno i h1 (by omega)) (by omega)
        · skip
          have c1001 : ¬ (¬ (kN ((11 * (o 4)) + k)) = t) := c1001
          refine T_p xr_150_29 xn_150 (pc' := 30) (ls' := [(3, .int (iI k)), (0, .ref 530), (1, .long t)]) (st' := [.int (iI k)]) rfl ?_
          refine T_iret xr_150_30 xf_150.2.2 rfl ?_
          refine hQ _ _ ?_
          exact ⟨by rw [← X_ix_e (r := k) (Or.inl ⟨by omega, by omega, by rw [← hN k (by omega) (by omega)]; first | assumption | exact Classical.not_not.mp (by assumption), hno⟩)], rfl⟩
  exact L995 (kc + 1).toNat 0  (by omega) (fun i h1 h2 => absurd h2 (by omega)) (by omega)
theorem r_aRank (sc : X_Sc) (S : X_S) (o : Nat → Int) (nm : Int64) (tx : Int → Int) (rN : Int → Int64) (tb : Int → Int) (len : Int) (n : Int) (so : Int → Int) (pl : Int → Int) (ct : Int → Int64) (E : Int → Int) (c : Int) (rn : Int → Int64) (rc : Int) (hM : M_o S o nm) (hA532 : S.1 532 = .inl (.byte, 2000, .inl fun k : Nat => iI (tx (k : Int)))) (hA533 : S.1 533 = .inl (.long, 24, .inr (.inl fun k : Nat => rN (k : Int)))) (hlen : o 3 = len) (hl : 0 ≤ len ∧ len ≤ 2000) (htx : ∀ k, 0 ≤ k → k < len → tx k = tb k) (hX : X_TxE tb len n so pl ct E) (hT : R_tk n so pl ct E c (o 7) (o 8) (o 9) (o 10) (o 11) nm) (h5 : o 5 = 0) (hcnt : o 28 = rc) (hcr : 0 ≤ rc ∧ rc ≤ 12) (hb : 0 ≤ o 4 ∧ o 4 ≤ 1) (hN : ∀ i, 0 ≤ i → i < rc → rN (12 * o 4 + i) = rn i) : X_T sc 151 (0, [(0, .ref 530)], [], S) (fun v S' => (∃ (at1 : Int) (en1 : Int) (tk1 : Int) (nu1 : Int) (dg1 : Int) (nm1 : Int64), v = some (.int (iI (X_ix rn rc (ct c)))) ∧ R_tk n so pl ct E (X_av n c) at1 en1 tk1 nu1 dg1 nm1 ∧ so c = 2 ∧ (0 ≤ X_ix rn rc (ct c) ∧ X_ix rn rc (ct c) < rc) ∧ M_o S' (X_ou (X_ou (X_ou (X_ou (X_ou o 7 at1) 8 en1) 9 tk1) 10 nu1) 11 dg1) nm1 ∧ X_Fr (fun q => q = 530) S S') ∨ (∃ (r0 : Int) (f1 : Int) (g1 : Int), v = some (.int (iI r0)) ∧ (1 ≤ f1 ∧ f1 ≤ 5) ∧ (¬ so c = 2 ∨ X_ix rn rc (ct c) = -1) ∧ (-1 ≤ r0 ∧ r0 ≤ 11) ∧ M_o S' (X_ou (X_ou o 5 f1) 6 g1) nm ∧ X_Fr (fun q => q = 530) S S')) := by
  obtain ⟨⟨hc0, hcn⟩, ⟨hs0, hs1⟩, hk0, ⟨ha0, ha1⟩, hk0e, ⟨_, _⟩, ⟨_, _⟩⟩ := R_tk_f hX hT
  have hn2 := hX.2.1
  refine X_QI (fun Q hQ => ?_)
  refine T_p xr_151_0 xn_151 (pc' := 1) (ls' := [(0, .ref 530)]) (st' := [.ref 530]) rfl ?_
  refine T_get xr_151_1 hM rfl (v := .int (iI (o 9))) rfl (pc' := 4) rfl ?_
  refine T_p xr_151_4 xn_151 (pc' := 5) (ls' := [(0, .ref 530)]) (st' := [.int (iI 2), .int (iI (o 9))]) rfl ?_
  refine T_zicmp_eq xr_151_5 (t := 12) (pc' := 8) rfl rfl (fun c1002 => ?_) (fun c1002 => ?_)
  · skip
    have c1002 : (o 9) = 2 := c1002
    refine T_p xr_151_12 xn_151 (pc' := 13) (ls' := [(0, .ref 530)]) (st' := [.ref 530]) rfl ?_
    refine T_cv (S := S) (q := 530) xr_151_13 xf_140.1 xf_140.2.1 xn_140 (as := []) (r := []) rfl hM (Nat.le_of_ble_eq_true rfl) (Nat.le_of_ble_eq_true rfl) (pc' := 16) rfl (ls' := [(0, .ref 530)]) rfl ?_
    refine T_mono (r_isGood sc S o nm hM (show 0 ≤ (o 5) ∧ (o 5) ≤ 5 from by omega)) (fun v1003 S1004 h1005 => ?_)
    rcases h1005 with ⟨hv1006, hf1007⟩
    rw [hv1006]
    rw [hf1007]
    show X_T sc 151 (16, [(0, .ref 530)], [.int (iI (bI ((o 5) = 0)))], S) _
    refine T_bif_eq xr_151_16 (t := 30) (pc' := 19) rfl rfl (fun c1008 => ?_) (fun c1008 => ?_)
    · skip
      have c1008 : ¬ ((o 5) = 0) := c1008
      exact (show False by first | contradiction | omega).elim
    · skip
      have c1008 : ((o 5) = 0) := c1008
      refine T_p xr_151_19 xn_151 (pc' := 20) (ls' := [(0, .ref 530)]) (st' := [.ref 530]) rfl ?_
      refine T_p xr_151_20 xn_151 (pc' := 21) (ls' := [(0, .ref 530)]) (st' := [.ref 530, .ref 530]) rfl ?_
      refine T_get xr_151_21 hM rfl (v := .long nm) rfl (pc' := 24) rfl ?_
      refine T_cv (S := S) (q := 530) xr_151_24 xf_149.1 xf_149.2.1 xn_149 (as := [.long nm]) (r := []) rfl hM (Nat.le_of_ble_eq_true rfl) (Nat.le_of_ble_eq_true rfl) (pc' := 27) rfl (ls' := [(0, .ref 530), (1, .long nm)]) rfl ?_
      refine T_mono (r_rankOf sc S o nm rN rn rc nm hM hA533 (show (o 28) = rc from by omega) (by omega) (show 0 ≤ (o 4) ∧ (o 4) ≤ 1 from by omega) hN) (fun v1009 S1010 h1011 => ?_)
      rcases h1011 with ⟨hv1012, hf1013⟩
      rw [hv1012]
      rw [hf1013]
      have hx1014 := X_ix_r (g := rn) (n := rc) (x := nm) (by omega)
      show X_T sc 151 (27, [(0, .ref 530)], [.int (iI (X_ix rn rc nm))], S) _
      refine T_p xr_151_27 xn_151 (pc' := 31) (ls' := [(0, .ref 530)]) (st' := [.int (iI (X_ix rn rc nm))]) rfl ?_
      refine T_p xr_151_31 xn_151 (pc' := 32) (ls' := [(1, .int (iI (X_ix rn rc nm))), (0, .ref 530)]) (st' := []) rfl ?_
      refine T_p xr_151_32 xn_151 (pc' := 33) (ls' := [(1, .int (iI (X_ix rn rc nm))), (0, .ref 530)]) (st' := [.ref 530]) rfl ?_
      refine T_cv (S := S) (q := 530) xr_151_33 xf_140.1 xf_140.2.1 xn_140 (as := []) (r := []) rfl hM (Nat.le_of_ble_eq_true rfl) (Nat.le_of_ble_eq_true rfl) (pc' := 36) rfl (ls' := [(0, .ref 530)]) rfl ?_
      refine T_mono (r_isGood sc S o nm hM (show 0 ≤ (o 5) ∧ (o 5) ≤ 5 from by omega)) (fun v1015 S1016 h1017 => ?_)
      rcases h1017 with ⟨hv1018, hf1019⟩
      rw [hv1018]
      rw [hf1019]
      show X_T sc 151 (36, [(1, .int (iI (X_ix rn rc nm))), (0, .ref 530)], [.int (iI (bI ((o 5) = 0)))], S) _
      refine T_bif_eq xr_151_36 (t := 52) (pc' := 39) rfl rfl (fun c1020 => ?_) (fun c1020 => ?_)
      · skip
        have c1020 : ¬ ((o 5) = 0) := c1020
        exact (show False by first | contradiction | omega).elim
      · skip
        have c1020 : ((o 5) = 0) := c1020
        refine T_p xr_151_39 xn_151 (pc' := 40) (ls' := [(1, .int (iI (X_ix rn rc nm))), (0, .ref 530)]) (st' := [.int (iI (X_ix rn rc nm))]) rfl ?_
        refine T_zif_ge xr_151_40 (t := 52) (pc' := 43) rfl rfl (fun c1021 => ?_) (fun c1021 => ?_)
        · skip
          have c1021 : 0 ≤ (X_ix rn rc nm) := c1021
          refine T_p xr_151_52 xn_151 (pc' := 53) (ls' := [(1, .int (iI (X_ix rn rc nm))), (0, .ref 530)]) (st' := [.ref 530]) rfl ?_
          refine T_cv (S := S) (q := 530) xr_151_53 xf_140.1 xf_140.2.1 xn_140 (as := []) (r := []) rfl hM (Nat.le_of_ble_eq_true rfl) (Nat.le_of_ble_eq_true rfl) (pc' := 56) rfl (ls' := [(0, .ref 530)]) rfl ?_
          refine T_mono (r_isGood sc S o nm hM (show 0 ≤ (o 5) ∧ (o 5) ≤ 5 from by omega)) (fun v1022 S1023 h1024 => ?_)
          rcases h1024 with ⟨hv1025, hf1026⟩
          rw [hv1025]
          rw [hf1026]
          show X_T sc 151 (56, [(1, .int (iI (X_ix rn rc nm))), (0, .ref 530)], [.int (iI (bI ((o 5) = 0)))], S) _
          refine T_bif_eq xr_151_56 (t := 63) (pc' := 59) rfl rfl (fun c1027 => ?_) (fun c1027 => ?_)
          · skip
            have c1027 : ¬ ((o 5) = 0) := c1027
            exact (show False by first | contradiction | omega).elim
          · skip
            have c1027 : ((o 5) = 0) := c1027
            refine T_p xr_151_59 xn_151 (pc' := 60) (ls' := [(1, .int (iI (X_ix rn rc nm))), (0, .ref 530)]) (st' := [.ref 530]) rfl ?_
            refine T_cv (S := S) (q := 530) xr_151_60 xf_141.1 xf_141.2.1 xn_141 (as := []) (r := []) rfl hM (Nat.le_of_ble_eq_true rfl) (Nat.le_of_ble_eq_true rfl) (pc' := 63) rfl (ls' := [(0, .ref 530)]) rfl ?_
            refine T_mono (r_nx sc S o nm tx tb len n so pl ct E c hM hA532 (show (o 3) = len from by first | assumption | omega) hl htx hX hT (by omega)) (fun v1028 S1029 h1030 => ?_)
            rcases h1030 with ⟨at1031, en1032, tk1033, nu1034, dg1035, nm1036, hv1037, hp1038, hM1039, hf1040⟩
            rw [hv1037]
            have h1041 : S1029.1 530 = .inr (11, [.ref 531, .int (iI (o 1)), .ref 532, .int (iI (o 3)), .int (iI (o 4)), .int (iI (o 5)), .int (iI (o 6)), .int (iI at1031), .int (iI en1032), .int (iI tk1033), .int (iI nu1034), .int (iI dg1035), .long nm1036, .ref 533, .ref 534, .ref 535, .ref 536, .ref 537, .ref 538, .ref 539, .ref 540, .ref 541, .ref 542, .ref 543, .ref 544, .ref 545, .ref 546, .ref 547, .int (iI (o 28)), .int (iI (o 29)), .int (iI (o 30)), .int (iI (o 31)), .int (iI (o 32)), .int (iI (o 33)), .ref 548, .ref 549, .ref 550, .ref 551, .int (iI (o 38)), .ref 552, .ref 553, .ref 554, .ref 555, .ref 556, .ref 557, .ref 558, .ref 559, .ref 560, .ref 561, .int (iI (o 49)), .ref 562, .ref 563, .ref 564, .ref 565, .ref 566, .ref 567, .ref 568, .ref 569, .int (iI (o 58)), .ref 570, .ref 571, .ref 572, .ref 573, .ref 574, .ref 575, .ref 576, .ref 577, .ref 578, .int (iI (o 68)), .int (iI (o 69)), .int (iI (o 70)), .ref 579]) := hM1039
            obtain ⟨⟨_, _⟩, ⟨_, _⟩, hk1042, ⟨_, _⟩, hk1042e, ⟨_, _⟩, ⟨_, _⟩⟩ := R_tk_f hX hp1038
            show X_T sc 151 (63, [(1, .int (iI (X_ix rn rc nm))), (0, .ref 530)], [], S1029) _
            refine T_p xr_151_63 xn_151 (pc' := 64) (ls' := [(1, .int (iI (X_ix rn rc nm))), (0, .ref 530)]) (st' := [.int (iI (X_ix rn rc nm))]) rfl ?_
            refine T_iret xr_151_64 xf_151.2.2 rfl ?_
            refine hQ _ _ ?_
            exact Or.inl ⟨at1031, en1032, tk1033, nu1034, dg1035, nm1036, (by rw [hT.2.2.2.2.1 (by omega)]), hp1038, by omega, by rw [← hT.2.2.2.2.1 (by omega)]; omega, h1041, (X_Fr.rf).tr (X_Fr.mono ⟨hf1040.1, hf1040.2⟩ (fun q hq => (by omega)))⟩
        · skip
          have c1021 : ¬ (0 ≤ (X_ix rn rc nm)) := c1021
          refine T_p xr_151_43 xn_151 (pc' := 44) (ls' := [(1, .int (iI (X_ix rn rc nm))), (0, .ref 530)]) (st' := [.ref 530]) rfl ?_
          refine T_p xr_151_44 xn_151 (pc' := 45) (ls' := [(1, .int (iI (X_ix rn rc nm))), (0, .ref 530)]) (st' := [.int (iI 3), .ref 530]) rfl ?_
          refine T_p xr_151_45 xn_151 (pc' := 46) (ls' := [(1, .int (iI (X_ix rn rc nm))), (0, .ref 530)]) (st' := [.ref 530, .int (iI 3), .ref 530]) rfl ?_
          refine T_get xr_151_46 hM rfl (v := .int (iI (o 7))) rfl (pc' := 49) rfl ?_
          refine T_cv (S := S) (q := 530) xr_151_49 xf_139.1 xf_139.2.1 xn_139 (as := [.int (iI 3), .int (iI (o 7))]) (r := []) rfl hM (Nat.le_of_ble_eq_true rfl) (Nat.le_of_ble_eq_true rfl) (pc' := 52) rfl (ls' := [(0, .ref 530), (1, .int (iI 3)), (2, .int (iI (o 7)))]) rfl ?_
          refine T_mono (r_fails sc S o nm 3 (o 7) hM (show 0 ≤ (o 5) ∧ (o 5) ≤ 5 from by omega) (by omega)) (fun v1043 S1044 h1045 => ?_)
          rcases h1045 with ⟨f1046, g1047, hv1048, hp1049, hM1050, hf1051⟩
          rw [hv1048]
          have h1052 : S1044.1 530 = .inr (11, [.ref 531, .int (iI (o 1)), .ref 532, .int (iI (o 3)), .int (iI (o 4)), .int (iI f1046), .int (iI g1047), .int (iI (o 7)), .int (iI (o 8)), .int (iI (o 9)), .int (iI (o 10)), .int (iI (o 11)), .long nm, .ref 533, .ref 534, .ref 535, .ref 536, .ref 537, .ref 538, .ref 539, .ref 540, .ref 541, .ref 542, .ref 543, .ref 544, .ref 545, .ref 546, .ref 547, .int (iI (o 28)), .int (iI (o 29)), .int (iI (o 30)), .int (iI (o 31)), .int (iI (o 32)), .int (iI (o 33)), .ref 548, .ref 549, .ref 550, .ref 551, .int (iI (o 38)), .ref 552, .ref 553, .ref 554, .ref 555, .ref 556, .ref 557, .ref 558, .ref 559, .ref 560, .ref 561, .int (iI (o 49)), .ref 562, .ref 563, .ref 564, .ref 565, .ref 566, .ref 567, .ref 568, .ref 569, .int (iI (o 58)), .ref 570, .ref 571, .ref 572, .ref 573, .ref 574, .ref 575, .ref 576, .ref 577, .ref 578, .int (iI (o 68)), .int (iI (o 69)), .int (iI (o 70)), .ref 579]) := hM1050
          have hp1049 : ((o 5) = 0 → f1046 = 3) ∧ (¬ (o 5) = 0 → f1046 = (o 5)) := hp1049
          have hf1053 : f1046 = 3 := hp1049.1 h5
          show X_T sc 151 (52, [(1, .int (iI (X_ix rn rc nm))), (0, .ref 530)], [], S1044) _
          refine T_p xr_151_52 xn_151 (pc' := 53) (ls' := [(1, .int (iI (X_ix rn rc nm))), (0, .ref 530)]) (st' := [.ref 530]) rfl ?_
          refine T_cv (S := S1044) (q := 530) xr_151_53 xf_140.1 xf_140.2.1 xn_140 (as := []) (r := []) rfl h1052 (Nat.le_of_ble_eq_true rfl) (Nat.le_of_ble_eq_true rfl) (pc' := 56) rfl (ls' := [(0, .ref 530)]) rfl ?_
          refine T_mono (r_isGood sc S1044 (X_ou (X_ou o 5 f1046) 6 g1047) nm h1052 (show 0 ≤ f1046 ∧ f1046 ≤ 5 from by omega)) (fun v1054 S1055 h1056 => ?_)
          rcases h1056 with ⟨hv1057, hf1058⟩
          rw [hv1057]
          rw [hf1058]
          show X_T sc 151 (56, [(1, .int (iI (X_ix rn rc nm))), (0, .ref 530)], [.int (iI (bI (f1046 = 0)))], S1044) _
          refine T_bif_eq xr_151_56 (t := 63) (pc' := 59) rfl rfl (fun c1059 => ?_) (fun c1059 => ?_)
          · skip
            have c1059 : ¬ (f1046 = 0) := c1059
            refine T_p xr_151_63 xn_151 (pc' := 64) (ls' := [(1, .int (iI (X_ix rn rc nm))), (0, .ref 530)]) (st' := [.int (iI (X_ix rn rc nm))]) rfl ?_
            refine T_iret xr_151_64 xf_151.2.2 rfl ?_
            refine hQ _ _ ?_
            exact Or.inr ⟨X_ix rn rc nm, f1046, g1047, rfl, by omega, by first | exact Or.inl (by omega) | (right; rw [← hT.2.2.2.2.1 (by omega)]; omega), by omega, h1052, (X_Fr.rf).tr (X_Fr.mono ⟨hf1051.1, hf1051.2⟩ (fun q hq => (by omega)))⟩
          · skip
            have c1059 : (f1046 = 0) := c1059
            exact (show False by first | contradiction | omega).elim
  · skip
    have c1002 : ¬ ((o 9) = 2) := c1002
    refine T_p xr_151_8 xn_151 (pc' := 9) (ls' := [(0, .ref 530)]) (st' := [.ref 530]) rfl ?_
    refine T_cv (S := S) (q := 530) xr_151_9 xf_147.1 xf_147.2.1 xn_147 (as := []) (r := []) rfl hM (Nat.le_of_ble_eq_true rfl) (Nat.le_of_ble_eq_true rfl) (pc' := 12) rfl (ls' := [(0, .ref 530)]) rfl ?_
    refine T_mono (r_wrong sc S o nm tx tb len n so pl ct E c hM hA532 (show (o 3) = len from by first | assumption | omega) hl htx hX hT (show 0 ≤ (o 5) ∧ (o 5) ≤ 5 from by omega)) (fun v1060 S1061 h1062 => ?_)
    rcases h1062 with ⟨f1063, g1064, hv1065, hp1066, hM1067, hf1068⟩
    rw [hv1065]
    have h1069 : S1061.1 530 = .inr (11, [.ref 531, .int (iI (o 1)), .ref 532, .int (iI (o 3)), .int (iI (o 4)), .int (iI f1063), .int (iI g1064), .int (iI (o 7)), .int (iI (o 8)), .int (iI (o 9)), .int (iI (o 10)), .int (iI (o 11)), .long nm, .ref 533, .ref 534, .ref 535, .ref 536, .ref 537, .ref 538, .ref 539, .ref 540, .ref 541, .ref 542, .ref 543, .ref 544, .ref 545, .ref 546, .ref 547, .int (iI (o 28)), .int (iI (o 29)), .int (iI (o 30)), .int (iI (o 31)), .int (iI (o 32)), .int (iI (o 33)), .ref 548, .ref 549, .ref 550, .ref 551, .int (iI (o 38)), .ref 552, .ref 553, .ref 554, .ref 555, .ref 556, .ref 557, .ref 558, .ref 559, .ref 560, .ref 561, .int (iI (o 49)), .ref 562, .ref 563, .ref 564, .ref 565, .ref 566, .ref 567, .ref 568, .ref 569, .int (iI (o 58)), .ref 570, .ref 571, .ref 572, .ref 573, .ref 574, .ref 575, .ref 576, .ref 577, .ref 578, .int (iI (o 68)), .int (iI (o 69)), .int (iI (o 70)), .ref 579]) := hM1067
    show X_T sc 151 (12, [(0, .ref 530)], [], S1061) _
    refine T_p xr_151_12 xn_151 (pc' := 13) (ls' := [(0, .ref 530)]) (st' := [.ref 530]) rfl ?_
    refine T_cv (S := S1061) (q := 530) xr_151_13 xf_140.1 xf_140.2.1 xn_140 (as := []) (r := []) rfl h1069 (Nat.le_of_ble_eq_true rfl) (Nat.le_of_ble_eq_true rfl) (pc' := 16) rfl (ls' := [(0, .ref 530)]) rfl ?_
    refine T_mono (r_isGood sc S1061 (X_ou (X_ou o 5 f1063) 6 g1064) nm h1069 (show 0 ≤ f1063 ∧ f1063 ≤ 5 from by omega)) (fun v1070 S1071 h1072 => ?_)
    rcases h1072 with ⟨hv1073, hf1074⟩
    rw [hv1073]
    rw [hf1074]
    show X_T sc 151 (16, [(0, .ref 530)], [.int (iI (bI (f1063 = 0)))], S1061) _
    refine T_bif_eq xr_151_16 (t := 30) (pc' := 19) rfl rfl (fun c1075 => ?_) (fun c1075 => ?_)
    · skip
      have c1075 : ¬ (f1063 = 0) := c1075
      refine T_p xr_151_30 xn_151 (pc' := 31) (ls' := [(0, .ref 530)]) (st' := [.int (iI 0)]) rfl ?_
      refine T_p xr_151_31 xn_151 (pc' := 32) (ls' := [(1, .int (iI 0)), (0, .ref 530)]) (st' := []) rfl ?_
      refine T_p xr_151_32 xn_151 (pc' := 33) (ls' := [(1, .int (iI 0)), (0, .ref 530)]) (st' := [.ref 530]) rfl ?_
      refine T_cv (S := S1061) (q := 530) xr_151_33 xf_140.1 xf_140.2.1 xn_140 (as := []) (r := []) rfl h1069 (Nat.le_of_ble_eq_true rfl) (Nat.le_of_ble_eq_true rfl) (pc' := 36) rfl (ls' := [(0, .ref 530)]) rfl ?_
      refine T_mono (r_isGood sc S1061 (X_ou (X_ou o 5 f1063) 6 g1064) nm h1069 (show 0 ≤ f1063 ∧ f1063 ≤ 5 from by omega)) (fun v1076 S1077 h1078 => ?_)
      rcases h1078 with ⟨hv1079, hf1080⟩
      rw [hv1079]
      rw [hf1080]
      show X_T sc 151 (36, [(1, .int (iI 0)), (0, .ref 530)], [.int (iI (bI (f1063 = 0)))], S1061) _
      refine T_bif_eq xr_151_36 (t := 52) (pc' := 39) rfl rfl (fun c1081 => ?_) (fun c1081 => ?_)
      · skip
        have c1081 : ¬ (f1063 = 0) := c1081
        refine T_p xr_151_52 xn_151 (pc' := 53) (ls' := [(1, .int (iI 0)), (0, .ref 530)]) (st' := [.ref 530]) rfl ?_
        refine T_cv (S := S1061) (q := 530) xr_151_53 xf_140.1 xf_140.2.1 xn_140 (as := []) (r := []) rfl h1069 (Nat.le_of_ble_eq_true rfl) (Nat.le_of_ble_eq_true rfl) (pc' := 56) rfl (ls' := [(0, .ref 530)]) rfl ?_
        refine T_mono (r_isGood sc S1061 (X_ou (X_ou o 5 f1063) 6 g1064) nm h1069 (show 0 ≤ f1063 ∧ f1063 ≤ 5 from by omega)) (fun v1082 S1083 h1084 => ?_)
        rcases h1084 with ⟨hv1085, hf1086⟩
        rw [hv1085]
        rw [hf1086]
        show X_T sc 151 (56, [(1, .int (iI 0)), (0, .ref 530)], [.int (iI (bI (f1063 = 0)))], S1061) _
        refine T_bif_eq xr_151_56 (t := 63) (pc' := 59) rfl rfl (fun c1087 => ?_) (fun c1087 => ?_)
        · skip
          have c1087 : ¬ (f1063 = 0) := c1087
          refine T_p xr_151_63 xn_151 (pc' := 64) (ls' := [(1, .int (iI 0)), (0, .ref 530)]) (st' := [.int (iI 0)]) rfl ?_
          refine T_iret xr_151_64 xf_151.2.2 rfl ?_
          refine hQ _ _ ?_
          exact Or.inr ⟨0, f1063, g1064, rfl, by omega, by first | exact Or.inl (by omega) | (right; rw [← hT.2.2.2.2.1 (by omega)]; omega), by omega, h1069, (X_Fr.rf).tr (X_Fr.mono ⟨hf1068.1, hf1068.2⟩ (fun q hq => (by omega)))⟩
        · skip
          have c1087 : (f1063 = 0) := c1087
          exact (show False by first | contradiction | omega).elim
      · skip
        have c1081 : (f1063 = 0) := c1081
        exact (show False by first | contradiction | omega).elim
    · skip
      have c1075 : (f1063 = 0) := c1075
      exact (show False by first | contradiction | omega).elim
theorem r_aKind (sc : X_Sc) (S : X_S) (o : Nat → Int) (nm : Int64) (tx : Int → Int) (kN : Int → Int64) (tb : Int → Int) (len : Int) (n : Int) (so : Int → Int) (pl : Int → Int) (ct : Int → Int64) (E : Int → Int) (c : Int) (kn : Int → Int64) (kc : Int) (hM : M_o S o nm) (hA532 : S.1 532 = .inl (.byte, 2000, .inl fun k : Nat => iI (tx (k : Int)))) (hA534 : S.1 534 = .inl (.long, 22, .inr (.inl fun k : Nat => kN (k : Int)))) (hlen : o 3 = len) (hl : 0 ≤ len ∧ len ≤ 2000) (htx : ∀ k, 0 ≤ k → k < len → tx k = tb k) (hX : X_TxE tb len n so pl ct E) (hT : R_tk n so pl ct E c (o 7) (o 8) (o 9) (o 10) (o 11) nm) (h5 : o 5 = 0) (hcnt : o 29 = kc) (hcr : 0 ≤ kc ∧ kc ≤ 11) (hb : 0 ≤ o 4 ∧ o 4 ≤ 1) (hN : ∀ i, 0 ≤ i → i < kc → kN (11 * o 4 + i) = kn i) : X_T sc 152 (0, [(0, .ref 530)], [], S) (fun v S' => (∃ (at1 : Int) (en1 : Int) (tk1 : Int) (nu1 : Int) (dg1 : Int) (nm1 : Int64), v = some (.int (iI (X_ix kn kc (ct c)))) ∧ R_tk n so pl ct E (X_av n c) at1 en1 tk1 nu1 dg1 nm1 ∧ so c = 2 ∧ (0 ≤ X_ix kn kc (ct c) ∧ X_ix kn kc (ct c) < kc) ∧ M_o S' (X_ou (X_ou (X_ou (X_ou (X_ou o 7 at1) 8 en1) 9 tk1) 10 nu1) 11 dg1) nm1 ∧ X_Fr (fun q => q = 530) S S') ∨ (∃ (r0 : Int) (f1 : Int) (g1 : Int), v = some (.int (iI r0)) ∧ (1 ≤ f1 ∧ f1 ≤ 5) ∧ (¬ so c = 2 ∨ X_ix kn kc (ct c) = -1) ∧ (-1 ≤ r0 ∧ r0 ≤ 11) ∧ M_o S' (X_ou (X_ou o 5 f1) 6 g1) nm ∧ X_Fr (fun q => q = 530) S S')) := by
  obtain ⟨⟨hc0, hcn⟩, ⟨hs0, hs1⟩, hk0, ⟨ha0, ha1⟩, hk0e, ⟨_, _⟩, ⟨_, _⟩⟩ := R_tk_f hX hT
  have hn2 := hX.2.1
  refine X_QI (fun Q hQ => ?_)
  refine T_p xr_152_0 xn_152 (pc' := 1) (ls' := [(0, .ref 530)]) (st' := [.ref 530]) rfl ?_
  refine T_get xr_152_1 hM rfl (v := .int (iI (o 9))) rfl (pc' := 4) rfl ?_
  refine T_p xr_152_4 xn_152 (pc' := 5) (ls' := [(0, .ref 530)]) (st' := [.int (iI 2), .int (iI (o 9))]) rfl ?_
  refine T_zicmp_eq xr_152_5 (t := 12) (pc' := 8) rfl rfl (fun c1088 => ?_) (fun c1088 => ?_)
  · skip
    have c1088 : (o 9) = 2 := c1088
    refine T_p xr_152_12 xn_152 (pc' := 13) (ls' := [(0, .ref 530)]) (st' := [.ref 530]) rfl ?_
    refine T_cv (S := S) (q := 530) xr_152_13 xf_140.1 xf_140.2.1 xn_140 (as := []) (r := []) rfl hM (Nat.le_of_ble_eq_true rfl) (Nat.le_of_ble_eq_true rfl) (pc' := 16) rfl (ls' := [(0, .ref 530)]) rfl ?_
    refine T_mono (r_isGood sc S o nm hM (show 0 ≤ (o 5) ∧ (o 5) ≤ 5 from by omega)) (fun v1089 S1090 h1091 => ?_)
    rcases h1091 with ⟨hv1092, hf1093⟩
    rw [hv1092]
    rw [hf1093]
    show X_T sc 152 (16, [(0, .ref 530)], [.int (iI (bI ((o 5) = 0)))], S) _
    refine T_bif_eq xr_152_16 (t := 30) (pc' := 19) rfl rfl (fun c1094 => ?_) (fun c1094 => ?_)
    · skip
      have c1094 : ¬ ((o 5) = 0) := c1094
      exact (show False by first | contradiction | omega).elim
    · skip
      have c1094 : ((o 5) = 0) := c1094
      refine T_p xr_152_19 xn_152 (pc' := 20) (ls' := [(0, .ref 530)]) (st' := [.ref 530]) rfl ?_
      refine T_p xr_152_20 xn_152 (pc' := 21) (ls' := [(0, .ref 530)]) (st' := [.ref 530, .ref 530]) rfl ?_
      refine T_get xr_152_21 hM rfl (v := .long nm) rfl (pc' := 24) rfl ?_
      refine T_cv (S := S) (q := 530) xr_152_24 xf_150.1 xf_150.2.1 xn_150 (as := [.long nm]) (r := []) rfl hM (Nat.le_of_ble_eq_true rfl) (Nat.le_of_ble_eq_true rfl) (pc' := 27) rfl (ls' := [(0, .ref 530), (1, .long nm)]) rfl ?_
      refine T_mono (r_kindOf sc S o nm kN kn kc nm hM hA534 (show (o 29) = kc from by omega) (by omega) (show 0 ≤ (o 4) ∧ (o 4) ≤ 1 from by omega) hN) (fun v1095 S1096 h1097 => ?_)
      rcases h1097 with ⟨hv1098, hf1099⟩
      rw [hv1098]
      rw [hf1099]
      have hx1100 := X_ix_r (g := kn) (n := kc) (x := nm) (by omega)
      show X_T sc 152 (27, [(0, .ref 530)], [.int (iI (X_ix kn kc nm))], S) _
      refine T_p xr_152_27 xn_152 (pc' := 31) (ls' := [(0, .ref 530)]) (st' := [.int (iI (X_ix kn kc nm))]) rfl ?_
      refine T_p xr_152_31 xn_152 (pc' := 32) (ls' := [(1, .int (iI (X_ix kn kc nm))), (0, .ref 530)]) (st' := []) rfl ?_
      refine T_p xr_152_32 xn_152 (pc' := 33) (ls' := [(1, .int (iI (X_ix kn kc nm))), (0, .ref 530)]) (st' := [.ref 530]) rfl ?_
      refine T_cv (S := S) (q := 530) xr_152_33 xf_140.1 xf_140.2.1 xn_140 (as := []) (r := []) rfl hM (Nat.le_of_ble_eq_true rfl) (Nat.le_of_ble_eq_true rfl) (pc' := 36) rfl (ls' := [(0, .ref 530)]) rfl ?_
      refine T_mono (r_isGood sc S o nm hM (show 0 ≤ (o 5) ∧ (o 5) ≤ 5 from by omega)) (fun v1101 S1102 h1103 => ?_)
      rcases h1103 with ⟨hv1104, hf1105⟩
      rw [hv1104]
      rw [hf1105]
      show X_T sc 152 (36, [(1, .int (iI (X_ix kn kc nm))), (0, .ref 530)], [.int (iI (bI ((o 5) = 0)))], S) _
      refine T_bif_eq xr_152_36 (t := 52) (pc' := 39) rfl rfl (fun c1106 => ?_) (fun c1106 => ?_)
      · skip
        have c1106 : ¬ ((o 5) = 0) := c1106
        exact (show False by first | contradiction | omega).elim
      · skip
        have c1106 : ((o 5) = 0) := c1106
        refine T_p xr_152_39 xn_152 (pc' := 40) (ls' := [(1, .int (iI (X_ix kn kc nm))), (0, .ref 530)]) (st' := [.int (iI (X_ix kn kc nm))]) rfl ?_
        refine T_zif_ge xr_152_40 (t := 52) (pc' := 43) rfl rfl (fun c1107 => ?_) (fun c1107 => ?_)
        · skip
          have c1107 : 0 ≤ (X_ix kn kc nm) := c1107
          refine T_p xr_152_52 xn_152 (pc' := 53) (ls' := [(1, .int (iI (X_ix kn kc nm))), (0, .ref 530)]) (st' := [.ref 530]) rfl ?_
          refine T_cv (S := S) (q := 530) xr_152_53 xf_140.1 xf_140.2.1 xn_140 (as := []) (r := []) rfl hM (Nat.le_of_ble_eq_true rfl) (Nat.le_of_ble_eq_true rfl) (pc' := 56) rfl (ls' := [(0, .ref 530)]) rfl ?_
          refine T_mono (r_isGood sc S o nm hM (show 0 ≤ (o 5) ∧ (o 5) ≤ 5 from by omega)) (fun v1108 S1109 h1110 => ?_)
          rcases h1110 with ⟨hv1111, hf1112⟩
          rw [hv1111]
          rw [hf1112]
          show X_T sc 152 (56, [(1, .int (iI (X_ix kn kc nm))), (0, .ref 530)], [.int (iI (bI ((o 5) = 0)))], S) _
          refine T_bif_eq xr_152_56 (t := 63) (pc' := 59) rfl rfl (fun c1113 => ?_) (fun c1113 => ?_)
          · skip
            have c1113 : ¬ ((o 5) = 0) := c1113
            exact (show False by first | contradiction | omega).elim
          · skip
            have c1113 : ((o 5) = 0) := c1113
            refine T_p xr_152_59 xn_152 (pc' := 60) (ls' := [(1, .int (iI (X_ix kn kc nm))), (0, .ref 530)]) (st' := [.ref 530]) rfl ?_
            refine T_cv (S := S) (q := 530) xr_152_60 xf_141.1 xf_141.2.1 xn_141 (as := []) (r := []) rfl hM (Nat.le_of_ble_eq_true rfl) (Nat.le_of_ble_eq_true rfl) (pc' := 63) rfl (ls' := [(0, .ref 530)]) rfl ?_
            refine T_mono (r_nx sc S o nm tx tb len n so pl ct E c hM hA532 (show (o 3) = len from by first | assumption | omega) hl htx hX hT (by omega)) (fun v1114 S1115 h1116 => ?_)
            rcases h1116 with ⟨at1117, en1118, tk1119, nu1120, dg1121, nm1122, hv1123, hp1124, hM1125, hf1126⟩
            rw [hv1123]
            have h1127 : S1115.1 530 = .inr (11, [.ref 531, .int (iI (o 1)), .ref 532, .int (iI (o 3)), .int (iI (o 4)), .int (iI (o 5)), .int (iI (o 6)), .int (iI at1117), .int (iI en1118), .int (iI tk1119), .int (iI nu1120), .int (iI dg1121), .long nm1122, .ref 533, .ref 534, .ref 535, .ref 536, .ref 537, .ref 538, .ref 539, .ref 540, .ref 541, .ref 542, .ref 543, .ref 544, .ref 545, .ref 546, .ref 547, .int (iI (o 28)), .int (iI (o 29)), .int (iI (o 30)), .int (iI (o 31)), .int (iI (o 32)), .int (iI (o 33)), .ref 548, .ref 549, .ref 550, .ref 551, .int (iI (o 38)), .ref 552, .ref 553, .ref 554, .ref 555, .ref 556, .ref 557, .ref 558, .ref 559, .ref 560, .ref 561, .int (iI (o 49)), .ref 562, .ref 563, .ref 564, .ref 565, .ref 566, .ref 567, .ref 568, .ref 569, .int (iI (o 58)), .ref 570, .ref 571, .ref 572, .ref 573, .ref 574, .ref 575, .ref 576, .ref 577, .ref 578, .int (iI (o 68)), .int (iI (o 69)), .int (iI (o 70)), .ref 579]) := hM1125
            obtain ⟨⟨_, _⟩, ⟨_, _⟩, hk1128, ⟨_, _⟩, hk1128e, ⟨_, _⟩, ⟨_, _⟩⟩ := R_tk_f hX hp1124
            show X_T sc 152 (63, [(1, .int (iI (X_ix kn kc nm))), (0, .ref 530)], [], S1115) _
            refine T_p xr_152_63 xn_152 (pc' := 64) (ls' := [(1, .int (iI (X_ix kn kc nm))), (0, .ref 530)]) (st' := [.int (iI (X_ix kn kc nm))]) rfl ?_
            refine T_iret xr_152_64 xf_152.2.2 rfl ?_
            refine hQ _ _ ?_
            exact Or.inl ⟨at1117, en1118, tk1119, nu1120, dg1121, nm1122, (by rw [hT.2.2.2.2.1 (by omega)]), hp1124, by omega, by rw [← hT.2.2.2.2.1 (by omega)]; omega, h1127, (X_Fr.rf).tr (X_Fr.mono ⟨hf1126.1, hf1126.2⟩ (fun q hq => (by omega)))⟩
        · skip
          have c1107 : ¬ (0 ≤ (X_ix kn kc nm)) := c1107
          refine T_p xr_152_43 xn_152 (pc' := 44) (ls' := [(1, .int (iI (X_ix kn kc nm))), (0, .ref 530)]) (st' := [.ref 530]) rfl ?_
          refine T_p xr_152_44 xn_152 (pc' := 45) (ls' := [(1, .int (iI (X_ix kn kc nm))), (0, .ref 530)]) (st' := [.int (iI 3), .ref 530]) rfl ?_
          refine T_p xr_152_45 xn_152 (pc' := 46) (ls' := [(1, .int (iI (X_ix kn kc nm))), (0, .ref 530)]) (st' := [.ref 530, .int (iI 3), .ref 530]) rfl ?_
          refine T_get xr_152_46 hM rfl (v := .int (iI (o 7))) rfl (pc' := 49) rfl ?_
          refine T_cv (S := S) (q := 530) xr_152_49 xf_139.1 xf_139.2.1 xn_139 (as := [.int (iI 3), .int (iI (o 7))]) (r := []) rfl hM (Nat.le_of_ble_eq_true rfl) (Nat.le_of_ble_eq_true rfl) (pc' := 52) rfl (ls' := [(0, .ref 530), (1, .int (iI 3)), (2, .int (iI (o 7)))]) rfl ?_
          refine T_mono (r_fails sc S o nm 3 (o 7) hM (show 0 ≤ (o 5) ∧ (o 5) ≤ 5 from by omega) (by omega)) (fun v1129 S1130 h1131 => ?_)
          rcases h1131 with ⟨f1132, g1133, hv1134, hp1135, hM1136, hf1137⟩
          rw [hv1134]
          have h1138 : S1130.1 530 = .inr (11, [.ref 531, .int (iI (o 1)), .ref 532, .int (iI (o 3)), .int (iI (o 4)), .int (iI f1132), .int (iI g1133), .int (iI (o 7)), .int (iI (o 8)), .int (iI (o 9)), .int (iI (o 10)), .int (iI (o 11)), .long nm, .ref 533, .ref 534, .ref 535, .ref 536, .ref 537, .ref 538, .ref 539, .ref 540, .ref 541, .ref 542, .ref 543, .ref 544, .ref 545, .ref 546, .ref 547, .int (iI (o 28)), .int (iI (o 29)), .int (iI (o 30)), .int (iI (o 31)), .int (iI (o 32)), .int (iI (o 33)), .ref 548, .ref 549, .ref 550, .ref 551, .int (iI (o 38)), .ref 552, .ref 553, .ref 554, .ref 555, .ref 556, .ref 557, .ref 558, .ref 559, .ref 560, .ref 561, .int (iI (o 49)), .ref 562, .ref 563, .ref 564, .ref 565, .ref 566, .ref 567, .ref 568, .ref 569, .int (iI (o 58)), .ref 570, .ref 571, .ref 572, .ref 573, .ref 574, .ref 575, .ref 576, .ref 577, .ref 578, .int (iI (o 68)), .int (iI (o 69)), .int (iI (o 70)), .ref 579]) := hM1136
          have hp1135 : ((o 5) = 0 → f1132 = 3) ∧ (¬ (o 5) = 0 → f1132 = (o 5)) := hp1135
          have hf1139 : f1132 = 3 := hp1135.1 h5
          show X_T sc 152 (52, [(1, .int (iI (X_ix kn kc nm))), (0, .ref 530)], [], S1130) _
          refine T_p xr_152_52 xn_152 (pc' := 53) (ls' := [(1, .int (iI (X_ix kn kc nm))), (0, .ref 530)]) (st' := [.ref 530]) rfl ?_
          refine T_cv (S := S1130) (q := 530) xr_152_53 xf_140.1 xf_140.2.1 xn_140 (as := []) (r := []) rfl h1138 (Nat.le_of_ble_eq_true rfl) (Nat.le_of_ble_eq_true rfl) (pc' := 56) rfl (ls' := [(0, .ref 530)]) rfl ?_
          refine T_mono (r_isGood sc S1130 (X_ou (X_ou o 5 f1132) 6 g1133) nm h1138 (show 0 ≤ f1132 ∧ f1132 ≤ 5 from by omega)) (fun v1140 S1141 h1142 => ?_)
          rcases h1142 with ⟨hv1143, hf1144⟩
          rw [hv1143]
          rw [hf1144]
          show X_T sc 152 (56, [(1, .int (iI (X_ix kn kc nm))), (0, .ref 530)], [.int (iI (bI (f1132 = 0)))], S1130) _
          refine T_bif_eq xr_152_56 (t := 63) (pc' := 59) rfl rfl (fun c1145 => ?_) (fun c1145 => ?_)
          · skip
            have c1145 : ¬ (f1132 = 0) := c1145
            refine T_p xr_152_63 xn_152 (pc' := 64) (ls' := [(1, .int (iI (X_ix kn kc nm))), (0, .ref 530)]) (st' := [.int (iI (X_ix kn kc nm))]) rfl ?_
            refine T_iret xr_152_64 xf_152.2.2 rfl ?_
            refine hQ _ _ ?_
            exact Or.inr ⟨X_ix kn kc nm, f1132, g1133, rfl, by omega, by first | exact Or.inl (by omega) | (right; rw [← hT.2.2.2.2.1 (by omega)]; omega), by omega, h1138, (X_Fr.rf).tr (X_Fr.mono ⟨hf1137.1, hf1137.2⟩ (fun q hq => (by omega)))⟩
          · skip
            have c1145 : (f1132 = 0) := c1145
            exact (show False by first | contradiction | omega).elim
  · skip
    have c1088 : ¬ ((o 9) = 2) := c1088
    refine T_p xr_152_8 xn_152 (pc' := 9) (ls' := [(0, .ref 530)]) (st' := [.ref 530]) rfl ?_
    refine T_cv (S := S) (q := 530) xr_152_9 xf_147.1 xf_147.2.1 xn_147 (as := []) (r := []) rfl hM (Nat.le_of_ble_eq_true rfl) (Nat.le_of_ble_eq_true rfl) (pc' := 12) rfl (ls' := [(0, .ref 530)]) rfl ?_
    refine T_mono (r_wrong sc S o nm tx tb len n so pl ct E c hM hA532 (show (o 3) = len from by first | assumption | omega) hl htx hX hT (show 0 ≤ (o 5) ∧ (o 5) ≤ 5 from by omega)) (fun v1146 S1147 h1148 => ?_)
    rcases h1148 with ⟨f1149, g1150, hv1151, hp1152, hM1153, hf1154⟩
    rw [hv1151]
    have h1155 : S1147.1 530 = .inr (11, [.ref 531, .int (iI (o 1)), .ref 532, .int (iI (o 3)), .int (iI (o 4)), .int (iI f1149), .int (iI g1150), .int (iI (o 7)), .int (iI (o 8)), .int (iI (o 9)), .int (iI (o 10)), .int (iI (o 11)), .long nm, .ref 533, .ref 534, .ref 535, .ref 536, .ref 537, .ref 538, .ref 539, .ref 540, .ref 541, .ref 542, .ref 543, .ref 544, .ref 545, .ref 546, .ref 547, .int (iI (o 28)), .int (iI (o 29)), .int (iI (o 30)), .int (iI (o 31)), .int (iI (o 32)), .int (iI (o 33)), .ref 548, .ref 549, .ref 550, .ref 551, .int (iI (o 38)), .ref 552, .ref 553, .ref 554, .ref 555, .ref 556, .ref 557, .ref 558, .ref 559, .ref 560, .ref 561, .int (iI (o 49)), .ref 562, .ref 563, .ref 564, .ref 565, .ref 566, .ref 567, .ref 568, .ref 569, .int (iI (o 58)), .ref 570, .ref 571, .ref 572, .ref 573, .ref 574, .ref 575, .ref 576, .ref 577, .ref 578, .int (iI (o 68)), .int (iI (o 69)), .int (iI (o 70)), .ref 579]) := hM1153
    show X_T sc 152 (12, [(0, .ref 530)], [], S1147) _
    refine T_p xr_152_12 xn_152 (pc' := 13) (ls' := [(0, .ref 530)]) (st' := [.ref 530]) rfl ?_
    refine T_cv (S := S1147) (q := 530) xr_152_13 xf_140.1 xf_140.2.1 xn_140 (as := []) (r := []) rfl h1155 (Nat.le_of_ble_eq_true rfl) (Nat.le_of_ble_eq_true rfl) (pc' := 16) rfl (ls' := [(0, .ref 530)]) rfl ?_
    refine T_mono (r_isGood sc S1147 (X_ou (X_ou o 5 f1149) 6 g1150) nm h1155 (show 0 ≤ f1149 ∧ f1149 ≤ 5 from by omega)) (fun v1156 S1157 h1158 => ?_)
    rcases h1158 with ⟨hv1159, hf1160⟩
    rw [hv1159]
    rw [hf1160]
    show X_T sc 152 (16, [(0, .ref 530)], [.int (iI (bI (f1149 = 0)))], S1147) _
    refine T_bif_eq xr_152_16 (t := 30) (pc' := 19) rfl rfl (fun c1161 => ?_) (fun c1161 => ?_)
    · skip
      have c1161 : ¬ (f1149 = 0) := c1161
      refine T_p xr_152_30 xn_152 (pc' := 31) (ls' := [(0, .ref 530)]) (st' := [.int (iI 0)]) rfl ?_
      refine T_p xr_152_31 xn_152 (pc' := 32) (ls' := [(1, .int (iI 0)), (0, .ref 530)]) (st' := []) rfl ?_
      refine T_p xr_152_32 xn_152 (pc' := 33) (ls' := [(1, .int (iI 0)), (0, .ref 530)]) (st' := [.ref 530]) rfl ?_
      refine T_cv (S := S1147) (q := 530) xr_152_33 xf_140.1 xf_140.2.1 xn_140 (as := []) (r := []) rfl h1155 (Nat.le_of_ble_eq_true rfl) (Nat.le_of_ble_eq_true rfl) (pc' := 36) rfl (ls' := [(0, .ref 530)]) rfl ?_
      refine T_mono (r_isGood sc S1147 (X_ou (X_ou o 5 f1149) 6 g1150) nm h1155 (show 0 ≤ f1149 ∧ f1149 ≤ 5 from by omega)) (fun v1162 S1163 h1164 => ?_)
      rcases h1164 with ⟨hv1165, hf1166⟩
      rw [hv1165]
      rw [hf1166]
      show X_T sc 152 (36, [(1, .int (iI 0)), (0, .ref 530)], [.int (iI (bI (f1149 = 0)))], S1147) _
      refine T_bif_eq xr_152_36 (t := 52) (pc' := 39) rfl rfl (fun c1167 => ?_) (fun c1167 => ?_)
      · skip
        have c1167 : ¬ (f1149 = 0) := c1167
        refine T_p xr_152_52 xn_152 (pc' := 53) (ls' := [(1, .int (iI 0)), (0, .ref 530)]) (st' := [.ref 530]) rfl ?_
        refine T_cv (S := S1147) (q := 530) xr_152_53 xf_140.1 xf_140.2.1 xn_140 (as := []) (r := []) rfl h1155 (Nat.le_of_ble_eq_true rfl) (Nat.le_of_ble_eq_true rfl) (pc' := 56) rfl (ls' := [(0, .ref 530)]) rfl ?_
        refine T_mono (r_isGood sc S1147 (X_ou (X_ou o 5 f1149) 6 g1150) nm h1155 (show 0 ≤ f1149 ∧ f1149 ≤ 5 from by omega)) (fun v1168 S1169 h1170 => ?_)
        rcases h1170 with ⟨hv1171, hf1172⟩
        rw [hv1171]
        rw [hf1172]
        show X_T sc 152 (56, [(1, .int (iI 0)), (0, .ref 530)], [.int (iI (bI (f1149 = 0)))], S1147) _
        refine T_bif_eq xr_152_56 (t := 63) (pc' := 59) rfl rfl (fun c1173 => ?_) (fun c1173 => ?_)
        · skip
          have c1173 : ¬ (f1149 = 0) := c1173
          refine T_p xr_152_63 xn_152 (pc' := 64) (ls' := [(1, .int (iI 0)), (0, .ref 530)]) (st' := [.int (iI 0)]) rfl ?_
          refine T_iret xr_152_64 xf_152.2.2 rfl ?_
          refine hQ _ _ ?_
          exact Or.inr ⟨0, f1149, g1150, rfl, by omega, by first | exact Or.inl (by omega) | (right; rw [← hT.2.2.2.2.1 (by omega)]; omega), by omega, h1155, (X_Fr.rf).tr (X_Fr.mono ⟨hf1154.1, hf1154.2⟩ (fun q hq => (by omega)))⟩
        · skip
          have c1173 : (f1149 = 0) := c1173
          exact (show False by first | contradiction | omega).elim
      · skip
        have c1167 : (f1149 = 0) := c1167
        exact (show False by first | contradiction | omega).elim
    · skip
      have c1161 : (f1149 = 0) := c1161
      exact (show False by first | contradiction | omega).elim
theorem r_tight (sc : X_Sc) (S : X_S) (o : Nat → Int) (nm : Int64) (tg : Int → Int) (a : Int) (b : Int) (p_ : Prop) (hM : M_o S o nm) (hA535 : S.1 535 = .inl (.boolean, 288, .inl fun k : Nat => iI (tg (k : Int)))) (hb : 0 ≤ o 4 ∧ o 4 ≤ 1) (ha : 0 ≤ a ∧ a < 12) (hb_ : 0 ≤ b ∧ b < 12) (ht : tg (144 * o 4 + 12 * a + b) = bI p_) : X_T sc 154 (0, [(0, .ref 530), (1, .int (iI a)), (2, .int (iI b))], [], S) (fun v S' => v = some (.int (iI (bI (p_)))) ∧ S' = S) := by
  refine X_QI (fun Q hQ => ?_)
  refine T_p xr_154_0 xn_154 (pc' := 1) (ls' := [(0, .ref 530), (1, .int (iI a)), (2, .int (iI b))]) (st' := [.ref 530]) rfl ?_
  refine T_get xr_154_1 hM rfl (v := .ref 535) rfl (pc' := 4) rfl ?_
  refine T_p xr_154_4 xn_154 (pc' := 7) (ls' := [(0, .ref 530), (1, .int (iI a)), (2, .int (iI b))]) (st' := [.int (iI 144), .ref 535]) rfl ?_
  refine T_p xr_154_7 xn_154 (pc' := 8) (ls' := [(0, .ref 530), (1, .int (iI a)), (2, .int (iI b))]) (st' := [.ref 530, .int (iI 144), .ref 535]) rfl ?_
  refine T_get xr_154_8 hM rfl (v := .int (iI (o 4))) rfl (pc' := 11) rfl ?_
  refine T_zimul xr_154_11 (z := 144 * (o 4)) rfl (pc' := 12) rfl ?_
  refine T_p xr_154_12 xn_154 (pc' := 14) (ls' := [(0, .ref 530), (1, .int (iI a)), (2, .int (iI b))]) (st' := [.int (iI 12), .int (iI (144 * (o 4))), .ref 535]) rfl ?_
  refine T_p xr_154_14 xn_154 (pc' := 15) (ls' := [(0, .ref 530), (1, .int (iI a)), (2, .int (iI b))]) (st' := [.int (iI a), .int (iI 12), .int (iI (144 * (o 4))), .ref 535]) rfl ?_
  refine T_zimul xr_154_15 (z := 12 * a) rfl (pc' := 16) rfl ?_
  refine T_ziadd xr_154_16 (z := (144 * (o 4)) + (12 * a)) rfl (pc' := 17) rfl ?_
  refine T_p xr_154_17 xn_154 (pc' := 18) (ls' := [(0, .ref 530), (1, .int (iI a)), (2, .int (iI b))]) (st' := [.int (iI b), .int (iI ((144 * (o 4)) + (12 * a))), .ref 535]) rfl ?_
  refine T_ziadd xr_154_18 (z := ((144 * (o 4)) + (12 * a)) + b) rfl (pc' := 19) rfl ?_
  refine T_zzald xr_154_19 hA535 (pc' := 20) rfl ?_
  refine T_ie (y := iI (bI (p_))) (by rw [ht]) ?_
  refine T_iret xr_154_20 xf_154.2.2 (X_fit_b _) ?_
  refine hQ _ _ ?_
  exact ⟨rfl, rfl⟩
theorem r_readRank (sc : X_Sc) (S : X_S) (o : Nat → Int) (nm : Int64) (tx : Int → Int) (rN : Int → Int64) (tg : Int → Int) (tb : Int → Int) (len : Int) (n : Int) (so : Int → Int) (pl : Int → Int) (ct : Int → Int64) (E : Int → Int) (c : Int) (c0 : Int) (rc : Int) (kc : Int) (wc : Int) (rn : Int → Int64) (lo : Int → Int) (kn : Int → Int64) (ab : Int → Int) (D : Int → Nat → Int → Int) (W : Int → Int → Int64) (hM : M_o S o nm) (hA532 : S.1 532 = .inl (.byte, 2000, .inl fun k : Nat => iI (tx (k : Int)))) (hA533 : S.1 533 = .inl (.long, 24, .inr (.inl fun k : Nat => rN (k : Int)))) (hA535 : S.1 535 = .inl (.boolean, 288, .inl fun k : Nat => iI (tg (k : Int)))) (hlen : o 3 = len) (hl : 0 ≤ len ∧ len ≤ 2000) (htx : ∀ k, 0 ≤ k → k < len → tx k = tb k) (hX : X_TxE tb len n so pl ct E) (hT : R_tk n so pl ct E c (o 7) (o 8) (o 9) (o 10) (o 11) nm) (h5 : o 5 = 0) (hrc : o 28 = rc) (hcr : 0 ≤ rc ∧ rc < 12) (hb : 0 ≤ o 4 ∧ o 4 ≤ 1) (hc : c = X_av n c0) (hR : R_rk (o 4) rc rn lo rN tg) : X_T sc 153 (0, [(0, .ref 530)], [], S) (fun v S' => (∃ (at1 : Int) (en1 : Int) (tk1 : Int) (nu1 : Int) (dg1 : Int) (nm1 : Int64) (rN1 : Int → Int64) (tg1 : Int → Int), v = none ∧ R_tk n so pl ct E (X_av n (X_av n c)) at1 en1 tk1 nu1 dg1 nm1 ∧ sp_rank n so ct (c0, rc, kc, wc, rn, lo, kn, ab, D, W) = some (X_av n (X_av n c), rc + 1, kc, wc, X_ug rn rc (ct c), X_ug lo rc 0, kn, ab, D, W) ∧ R_rk (o 4) (rc + 1) (X_ug rn rc (ct c)) (X_ug lo rc 0) rN1 tg1 ∧ (R_ob 12 (o 4) rN rN1 ∧ R_ob 144 (o 4) tg tg1) ∧ M_o S' (X_ou (X_ou (X_ou (X_ou (X_ou (X_ou o 7 at1) 8 en1) 9 tk1) 10 nu1) 11 dg1) 28 (rc + 1)) nm1 ∧ S'.1 533 = .inl (.long, 24, .inr (.inl fun k : Nat => rN1 (k : Int))) ∧ S'.1 535 = .inl (.boolean, 288, .inl fun k : Nat => iI (tg1 (k : Int))) ∧ (X_Fr (fun q => q = 530 ∨ q = 533 ∨ q = 535) S S')) ∨ (∃ (at1 : Int) (en1 : Int) (tk1 : Int) (nu1 : Int) (dg1 : Int) (nm1 : Int64) (rc1 : Int) (f1 : Int) (g1 : Int) (rN1 : Int → Int64) (tg1 : Int → Int), v = none ∧ (1 ≤ f1 ∧ f1 ≤ 5) ∧ sp_rank n so ct (c0, rc, kc, wc, rn, lo, kn, ab, D, W) = none ∧ (R_ob 12 (o 4) rN rN1 ∧ R_ob 144 (o 4) tg tg1) ∧ M_o S' (X_ou (X_ou (X_ou (X_ou (X_ou (X_ou (X_ou (X_ou o 7 at1) 8 en1) 9 tk1) 10 nu1) 11 dg1) 28 rc1) 5 f1) 6 g1) nm1 ∧ S'.1 533 = .inl (.long, 24, .inr (.inl fun k : Nat => rN1 (k : Int))) ∧ S'.1 535 = .inl (.boolean, 288, .inl fun k : Nat => iI (tg1 (k : Int))) ∧ (X_Fr (fun q => q = 530 ∨ q = 533 ∨ q = 535) S S'))) := by
  obtain ⟨⟨hc0, hcn⟩, ⟨hs0, hs1⟩, hk0, ⟨ha0, ha1⟩, hk0e, ⟨_, _⟩, ⟨_, _⟩⟩ := R_tk_f hX hT
  have hn2 := hX.2.1
  have hN := hR.1
  refine X_QI (fun Q hQ => ?_)
  refine T_p xr_153_0 xn_153 (pc' := 1) (ls' := [(0, .ref 530)]) (st' := [.ref 530]) rfl ?_
  refine T_get xr_153_1 hM rfl (v := .int (iI (o 9))) rfl (pc' := 4) rfl ?_
  refine T_p xr_153_4 xn_153 (pc' := 5) (ls' := [(0, .ref 530)]) (st' := [.int (iI 2), .int (iI (o 9))]) rfl ?_
  refine T_zicmp_eq xr_153_5 (t := 12) (pc' := 8) rfl rfl (fun c1174 => ?_) (fun c1174 => ?_)
  · skip
    have c1174 : (o 9) = 2 := c1174
    refine T_p xr_153_12 xn_153 (pc' := 13) (ls' := [(0, .ref 530)]) (st' := [.ref 530]) rfl ?_
    refine T_cv (S := S) (q := 530) xr_153_13 xf_140.1 xf_140.2.1 xn_140 (as := []) (r := []) rfl hM (Nat.le_of_ble_eq_true rfl) (Nat.le_of_ble_eq_true rfl) (pc' := 16) rfl (ls' := [(0, .ref 530)]) rfl ?_
    refine T_mono (r_isGood sc S o nm hM (show 0 ≤ (o 5) ∧ (o 5) ≤ 5 from by omega)) (fun v1175 S1176 h1177 => ?_)
    rcases h1177 with ⟨hv1178, hf1179⟩
    rw [hv1178]
    rw [hf1179]
    show X_T sc 153 (16, [(0, .ref 530)], [.int (iI (bI ((o 5) = 0)))], S) _
    refine T_bif_eq xr_153_16 (t := 39) (pc' := 19) rfl rfl (fun c1180 => ?_) (fun c1180 => ?_)
    · skip
      have c1180 : ¬ ((o 5) = 0) := c1180
      exact (show False by first | contradiction | omega).elim
    · skip
      have c1180 : ((o 5) = 0) := c1180
      refine T_p xr_153_19 xn_153 (pc' := 20) (ls' := [(0, .ref 530)]) (st' := [.ref 530]) rfl ?_
      refine T_p xr_153_20 xn_153 (pc' := 21) (ls' := [(0, .ref 530)]) (st' := [.ref 530, .ref 530]) rfl ?_
      refine T_get xr_153_21 hM rfl (v := .long nm) rfl (pc' := 24) rfl ?_
      refine T_le (y := (ct c)) (hT.2.2.2.2.1 (Or.inl (by omega))) ?_
      refine T_cv (S := S) (q := 530) xr_153_24 xf_149.1 xf_149.2.1 xn_149 (as := [.long (ct c)]) (r := []) rfl hM (Nat.le_of_ble_eq_true rfl) (Nat.le_of_ble_eq_true rfl) (pc' := 27) rfl (ls' := [(0, .ref 530), (1, .long (ct c))]) rfl ?_
      refine T_mono (r_rankOf sc S o nm rN rn rc (ct c) hM hA533 (show (o 28) = rc from by omega) (by omega) (show 0 ≤ (o 4) ∧ (o 4) ≤ 1 from by omega) hN) (fun v1181 S1182 h1183 => ?_)
      rcases h1183 with ⟨hv1184, hf1185⟩
      rw [hv1184]
      rw [hf1185]
      have hx1186 := X_ix_r (g := rn) (n := rc) (x := (ct c)) (by omega)
      show X_T sc 153 (27, [(0, .ref 530)], [.int (iI (X_ix rn rc (ct c)))], S) _
      refine T_zif_lt xr_153_27 (t := 39) (pc' := 30) rfl rfl (fun c1187 => ?_) (fun c1187 => ?_)
      · skip
        have c1187 : (X_ix rn rc (ct c)) < 0 := c1187
        refine T_p xr_153_39 xn_153 (pc' := 40) (ls' := [(0, .ref 530)]) (st' := [.ref 530]) rfl ?_
        refine T_cv (S := S) (q := 530) xr_153_40 xf_140.1 xf_140.2.1 xn_140 (as := []) (r := []) rfl hM (Nat.le_of_ble_eq_true rfl) (Nat.le_of_ble_eq_true rfl) (pc' := 43) rfl (ls' := [(0, .ref 530)]) rfl ?_
        refine T_mono (r_isGood sc S o nm hM (show 0 ≤ (o 5) ∧ (o 5) ≤ 5 from by omega)) (fun v1188 S1189 h1190 => ?_)
        rcases h1190 with ⟨hv1191, hf1192⟩
        rw [hv1191]
        rw [hf1192]
        show X_T sc 153 (43, [(0, .ref 530)], [.int (iI (bI ((o 5) = 0)))], S) _
        refine T_bif_ne xr_153_43 (t := 47) (pc' := 46) rfl rfl (fun c1193 => ?_) (fun c1193 => ?_)
        · skip
          have c1193 : ((o 5) = 0) := c1193
          refine T_p xr_153_47 xn_153 (pc' := 48) (ls' := [(0, .ref 530)]) (st' := [.ref 530]) rfl ?_
          refine T_get xr_153_48 hM rfl (v := .ref 533) rfl (pc' := 51) rfl ?_
          refine T_p xr_153_51 xn_153 (pc' := 53) (ls' := [(0, .ref 530)]) (st' := [.int (iI 12), .ref 533]) rfl ?_
          refine T_p xr_153_53 xn_153 (pc' := 54) (ls' := [(0, .ref 530)]) (st' := [.ref 530, .int (iI 12), .ref 533]) rfl ?_
          refine T_get xr_153_54 hM rfl (v := .int (iI (o 4))) rfl (pc' := 57) rfl ?_
          refine T_zimul xr_153_57 (z := 12 * (o 4)) rfl (pc' := 58) rfl ?_
          refine T_p xr_153_58 xn_153 (pc' := 59) (ls' := [(0, .ref 530)]) (st' := [.ref 530, .int (iI (12 * (o 4))), .ref 533]) rfl ?_
          refine T_get xr_153_59 hM rfl (v := .int (iI (o 28))) rfl (pc' := 62) rfl ?_
          refine T_ziadd xr_153_62 (z := (12 * (o 4)) + (o 28)) rfl (pc' := 63) rfl ?_
          refine T_p xr_153_63 xn_153 (pc' := 64) (ls' := [(0, .ref 530)]) (st' := [.ref 530, .int (iI ((12 * (o 4)) + (o 28))), .ref 533]) rfl ?_
          refine T_get xr_153_64 hM rfl (v := .long nm) rfl (pc' := 67) rfl ?_
          refine T_le (y := (ct c)) (hT.2.2.2.2.1 (Or.inl (by omega))) ?_
          refine T_zlast xr_153_67 hA533 (pc' := 68) rfl (fun S1194 h1195 n1196 e1197 => ?_)
          refine T_p xr_153_68 xn_153 (pc' := 69) (ls' := [(0, .ref 530)]) (st' := [.int (iI 0)]) rfl ?_
          refine T_p xr_153_69 xn_153 (pc' := 70) (ls' := [(1, .int (iI 0)), (0, .ref 530)]) (st' := []) rfl ?_
          have h1203 := (n1196 535 (by decide)).trans (hA535)
          have L1198 : ∀ (m1200 : Nat) (S1204 : X_S) (k : Int) (tg1 : Int → Int) (htg1 : S1204.1 535 = .inl (.boolean, 288, .inl fun k : Nat => iI (tg1 (k : Int)))) (hF1202 : X_Fr (fun q => q = 535) S1194 S1204) (hk : 0 ≤ k ∧ k ≤ 12) (ht1 : ∀ i, 0 ≤ i → i < k → tg1 (144 * o 4 + 12 * rc + i) = 0 ∧ tg1 (144 * o 4 + 12 * i + rc) = 0) (ht2 : ∀ i, (∀ j, 0 ≤ j → j < 12 → i ≠ 144 * o 4 + 12 * rc + j ∧ i ≠ 144 * o 4 + 12 * j + rc) → tg1 i = tg i) (ht3 : R_ob 144 (o 4) tg tg1) (hm1201 : 12 - k < m1200), X_T sc 153 (70, [(1, .int (iI k)), (0, .ref 530)], [], S1204) Q := by
            intro m1200
            induction m1200 with
            | zero =>
              intro S1204 k tg1 htg1 hF1202 hk ht1 ht2 ht3 hm1201
              exact (show False by omega).elim
            | succ m1200 ih1199 =>
              intro S1204 k tg1 htg1 hF1202 hk ht1 ht2 ht3 hm1201
              refine T_p xr_153_70 xn_153 (pc' := 71) (ls' := [(1, .int (iI k)), (0, .ref 530)]) (st' := [.int (iI k)]) rfl ?_
              refine T_p xr_153_71 xn_153 (pc' := 73) (ls' := [(1, .int (iI k)), (0, .ref 530)]) (st' := [.int (iI 12), .int (iI k)]) rfl ?_
              refine T_zicmp_ge xr_153_73 (t := 130) (pc' := 76) rfl rfl (fun c1205 => ?_) (fun c1205 => ?_)
              · skip
                have c1205 : 12 ≤ k := c1205
                refine T_p xr_153_130 xn_153 (pc' := 131) (ls' := [(1, .int (iI k)), (0, .ref 530)]) (st' := [.ref 530]) rfl ?_
                refine T_p xr_153_131 xn_153 (pc' := 132) (ls' := [(1, .int (iI k)), (0, .ref 530)]) (st' := [.ref 530, .ref 530]) rfl ?_
                have h1206 := (hF1202.1 530 (by omega)).trans ((n1196 530 (by decide)).trans (hM))
                refine T_get xr_153_132 h1206 rfl (v := .int (iI (o 28))) rfl (pc' := 135) rfl ?_
                refine T_p xr_153_135 xn_153 (pc' := 136) (ls' := [(1, .int (iI k)), (0, .ref 530)]) (st' := [.int (iI 1), .int (iI (o 28)), .ref 530]) rfl ?_
                refine T_ziadd xr_153_136 (z := (o 28) + 1) rfl (pc' := 137) rfl ?_
                refine T_ie (y := iI (rc + 1)) (by rw [hrc]) ?_
                refine T_put xr_153_137 h1206 rfl (Nat.le_of_ble_eq_true rfl) rfl (fs' := [.ref 531, .int (iI (o 1)), .ref 532, .int (iI (o 3)), .int (iI (o 4)), .int (iI (o 5)), .int (iI (o 6)), .int (iI (o 7)), .int (iI (o 8)), .int (iI (o 9)), .int (iI (o 10)), .int (iI (o 11)), .long nm, .ref 533, .ref 534, .ref 535, .ref 536, .ref 537, .ref 538, .ref 539, .ref 540, .ref 541, .ref 542, .ref 543, .ref 544, .ref 545, .ref 546, .ref 547, .int (iI (rc + 1)), .int (iI (o 29)), .int (iI (o 30)), .int (iI (o 31)), .int (iI (o 32)), .int (iI (o 33)), .ref 548, .ref 549, .ref 550, .ref 551, .int (iI (o 38)), .ref 552, .ref 553, .ref 554, .ref 555, .ref 556, .ref 557, .ref 558, .ref 559, .ref 560, .ref 561, .int (iI (o 49)), .ref 562, .ref 563, .ref 564, .ref 565, .ref 566, .ref 567, .ref 568, .ref 569, .int (iI (o 58)), .ref 570, .ref 571, .ref 572, .ref 573, .ref 574, .ref 575, .ref 576, .ref 577, .ref 578, .int (iI (o 68)), .int (iI (o 69)), .int (iI (o 70)), .ref 579]) rfl (pc' := 140) rfl (fun S1207 h1208 n1209 e1210 => ?_)
                refine T_p xr_153_140 xn_153 (pc' := 141) (ls' := [(1, .int (iI k)), (0, .ref 530)]) (st' := [.ref 530]) rfl ?_
                refine T_cv (S := S1207) (q := 530) xr_153_141 xf_141.1 xf_141.2.1 xn_141 (as := []) (r := []) rfl h1208 (Nat.le_of_ble_eq_true rfl) (Nat.le_of_ble_eq_true rfl) (pc' := 144) rfl (ls' := [(0, .ref 530)]) rfl ?_
                have h1211 := (n1209 532 (by decide)).trans ((hF1202.1 532 (by omega)).trans ((n1196 532 (by decide)).trans (hA532)))
                refine T_mono (r_nx sc S1207 (X_ou o 28 (rc + 1)) nm tx tb len n so pl ct E c h1208 h1211 (show (o 3) = len from by first | assumption | omega) hl htx hX hT (by omega)) (fun v1212 S1213 h1214 => ?_)
                rcases h1214 with ⟨at1215, en1216, tk1217, nu1218, dg1219, nm1220, hv1221, hp1222, hM1223, hf1224⟩
                rw [hv1221]
                have h1225 : S1213.1 530 = .inr (11, [.ref 531, .int (iI (o 1)), .ref 532, .int (iI (o 3)), .int (iI (o 4)), .int (iI (o 5)), .int (iI (o 6)), .int (iI at1215), .int (iI en1216), .int (iI tk1217), .int (iI nu1218), .int (iI dg1219), .long nm1220, .ref 533, .ref 534, .ref 535, .ref 536, .ref 537, .ref 538, .ref 539, .ref 540, .ref 541, .ref 542, .ref 543, .ref 544, .ref 545, .ref 546, .ref 547, .int (iI (rc + 1)), .int (iI (o 29)), .int (iI (o 30)), .int (iI (o 31)), .int (iI (o 32)), .int (iI (o 33)), .ref 548, .ref 549, .ref 550, .ref 551, .int (iI (o 38)), .ref 552, .ref 553, .ref 554, .ref 555, .ref 556, .ref 557, .ref 558, .ref 559, .ref 560, .ref 561, .int (iI (o 49)), .ref 562, .ref 563, .ref 564, .ref 565, .ref 566, .ref 567, .ref 568, .ref 569, .int (iI (o 58)), .ref 570, .ref 571, .ref 572, .ref 573, .ref 574, .ref 575, .ref 576, .ref 577, .ref 578, .int (iI (o 68)), .int (iI (o 69)), .int (iI (o 70)), .ref 579]) := hM1223
                obtain ⟨⟨_, _⟩, ⟨_, _⟩, hk1226, ⟨_, _⟩, hk1226e, ⟨_, _⟩, ⟨_, _⟩⟩ := R_tk_f hX hp1222
                show X_T sc 153 (144, [(1, .int (iI k)), (0, .ref 530)], [], S1213) _
                refine T_p xr_153_144 xn_153 (pc' := 145) (ls' := [(1, .int (iI k)), (0, .ref 530)]) (st' := [.ref 530]) rfl ?_
                refine T_p xr_153_145 xn_153 (pc' := 147) (ls' := [(1, .int (iI k)), (0, .ref 530)]) (st' := [.int (iI 59), .ref 530]) rfl ?_
                refine T_cv (S := S1213) (q := 530) xr_153_147 xf_148.1 xf_148.2.1 xn_148 (as := [.int (iI 59)]) (r := []) rfl h1225 (Nat.le_of_ble_eq_true rfl) (Nat.le_of_ble_eq_true rfl) (pc' := 150) rfl (ls' := [(0, .ref 530), (1, .int (iI 59))]) rfl ?_
                have h1227 := (hf1224.1 532 (by omega)).trans (h1211)
                refine T_mono (r_must sc S1213 (X_ou (X_ou (X_ou (X_ou (X_ou (X_ou o 7 at1215) 8 en1216) 9 tk1217) 10 nu1218) 11 dg1219) 28 (rc + 1)) nm1220 tx tb len n so pl ct E (X_av n c) 59 h1225 h1227 (show (o 3) = len from by first | assumption | omega) hl htx hX hp1222 (show (o 5) = 0 from by omega) (by omega)) (fun v1228 S1229 h1230 => ?_)
                rcases h1230 with ⟨at1231, en1232, tk1233, nu1234, dg1235, nm1236, hv1237, hp1238, hp1239, hM1240, hf1241⟩ | ⟨f1242, g1243, hv1244, hp1245, hp1246, hM1247, hf1248⟩
                · skip
                  rw [hv1237]
                  have h1249 : S1229.1 530 = .inr (11, [.ref 531, .int (iI (o 1)), .ref 532, .int (iI (o 3)), .int (iI (o 4)), .int (iI (o 5)), .int (iI (o 6)), .int (iI at1231), .int (iI en1232), .int (iI tk1233), .int (iI nu1234), .int (iI dg1235), .long nm1236, .ref 533, .ref 534, .ref 535, .ref 536, .ref 537, .ref 538, .ref 539, .ref 540, .ref 541, .ref 542, .ref 543, .ref 544, .ref 545, .ref 546, .ref 547, .int (iI (rc + 1)), .int (iI (o 29)), .int (iI (o 30)), .int (iI (o 31)), .int (iI (o 32)), .int (iI (o 33)), .ref 548, .ref 549, .ref 550, .ref 551, .int (iI (o 38)), .ref 552, .ref 553, .ref 554, .ref 555, .ref 556, .ref 557, .ref 558, .ref 559, .ref 560, .ref 561, .int (iI (o 49)), .ref 562, .ref 563, .ref 564, .ref 565, .ref 566, .ref 567, .ref 568, .ref 569, .int (iI (o 58)), .ref 570, .ref 571, .ref 572, .ref 573, .ref 574, .ref 575, .ref 576, .ref 577, .ref 578, .int (iI (o 68)), .int (iI (o 69)), .int (iI (o 70)), .ref 579]) := hM1240
                  obtain ⟨⟨_, _⟩, ⟨_, _⟩, hk1250, ⟨_, _⟩, hk1250e, ⟨_, _⟩, ⟨_, _⟩⟩ := R_tk_f hX hp1238
                  show X_T sc 153 (150, [(1, .int (iI k)), (0, .ref 530)], [], S1229) _
                  refine T_vret xr_153_150 xf_153.2.2 ?_
                  refine hQ _ _ ?_
                  have h1252 := (hf1241.1 533 (by omega)).trans ((hf1224.1 533 (by omega)).trans ((n1209 533 (by decide)).trans ((hF1202.1 533 (by omega)).trans (h1195))))
                  have h1253 := (hf1241.1 535 (by omega)).trans ((hf1224.1 535 (by omega)).trans ((n1209 535 (by decide)).trans (htg1)))
                  refine Or.inl ⟨at1231, en1232, tk1233, nu1234, dg1235, nm1236, (X_ug rN ((12 * (o 4)) + (o 28)) (ct c)), tg1, rfl, hp1238, ?_, ?_, ?_, h1249, h1252, h1253, (((((X_Fr.rf).tr (X_Fr.of n1196 e1197 (by omega))).tr (X_Fr.mono ⟨hF1202.1, hF1202.2⟩ (fun q hq => (by omega)))).tr (X_Fr.of n1209 e1210 (by omega))).tr (X_Fr.mono ⟨hf1224.1, hf1224.2⟩ (fun q hq => (by omega)))).tr (X_Fr.mono ⟨hf1241.1, hf1241.2⟩ (fun q hq => (by omega)))⟩
                  · simp only [sp_rank, ← hc]
                    (repeat (first | rw [if_pos (by assumption)] | rw [if_neg (by assumption)] | rw [if_neg (by omega)] | rw [if_pos (by omega)]))
                  · exact R_rk_add (by omega) (by omega) hR (by rw [hrc]) (fun i h1 h2 => ht1 i h1 (by omega)) ht2
                  · exact ⟨R_ob.rf.up (by omega), ht3⟩
                · skip
                  rw [hv1244]
                  have h1251 : S1229.1 530 = .inr (11, [.ref 531, .int (iI (o 1)), .ref 532, .int (iI (o 3)), .int (iI (o 4)), .int (iI f1242), .int (iI g1243), .int (iI at1215), .int (iI en1216), .int (iI tk1217), .int (iI nu1218), .int (iI dg1219), .long nm1220, .ref 533, .ref 534, .ref 535, .ref 536, .ref 537, .ref 538, .ref 539, .ref 540, .ref 541, .ref 542, .ref 543, .ref 544, .ref 545, .ref 546, .ref 547, .int (iI (rc + 1)), .int (iI (o 29)), .int (iI (o 30)), .int (iI (o 31)), .int (iI (o 32)), .int (iI (o 33)), .ref 548, .ref 549, .ref 550, .ref 551, .int (iI (o 38)), .ref 552, .ref 553, .ref 554, .ref 555, .ref 556, .ref 557, .ref 558, .ref 559, .ref 560, .ref 561, .int (iI (o 49)), .ref 562, .ref 563, .ref 564, .ref 565, .ref 566, .ref 567, .ref 568, .ref 569, .int (iI (o 58)), .ref 570, .ref 571, .ref 572, .ref 573, .ref 574, .ref 575, .ref 576, .ref 577, .ref 578, .int (iI (o 68)), .int (iI (o 69)), .int (iI (o 70)), .ref 579]) := hM1247
                  show X_T sc 153 (150, [(1, .int (iI k)), (0, .ref 530)], [], S1229) _
                  refine T_vret xr_153_150 xf_153.2.2 ?_
                  refine hQ _ _ ?_
                  have h1254 := (hf1248.1 533 (by omega)).trans ((hf1224.1 533 (by omega)).trans ((n1209 533 (by decide)).trans ((hF1202.1 533 (by omega)).trans (h1195))))
                  have h1255 := (hf1248.1 535 (by omega)).trans ((hf1224.1 535 (by omega)).trans ((n1209 535 (by decide)).trans (htg1)))
                  refine Or.inr ⟨at1215, en1216, tk1217, nu1218, dg1219, nm1220, rc + 1, f1242, g1243, (X_ug rN ((12 * (o 4)) + (o 28)) (ct c)), tg1, rfl, by omega, ?_, ?_, h1251, h1254, h1255, (((((X_Fr.rf).tr (X_Fr.of n1196 e1197 (by omega))).tr (X_Fr.mono ⟨hF1202.1, hF1202.2⟩ (fun q hq => (by omega)))).tr (X_Fr.of n1209 e1210 (by omega))).tr (X_Fr.mono ⟨hf1224.1, hf1224.2⟩ (fun q hq => (by omega)))).tr (X_Fr.mono ⟨hf1248.1, hf1248.2⟩ (fun q hq => (by omega)))⟩
                  · simp only [sp_rank, ← hc]
                    (repeat (first | rw [if_pos (by assumption)] | rw [if_neg (by assumption)] | rw [if_neg (by omega)] | rw [if_pos (by omega)]))
                    all_goals first | rfl | ((repeat' split) <;> first | rfl | (exfalso; omega))
                  · first | exact ⟨R_ob.rf, R_ob.rf⟩ | exact ⟨R_ob.rf.up (by omega), ht3⟩
              · skip
                have c1205 : ¬ (12 ≤ k) := c1205
                refine T_p xr_153_76 xn_153 (pc' := 77) (ls' := [(1, .int (iI k)), (0, .ref 530)]) (st' := [.ref 530]) rfl ?_
                have h1256 := (hF1202.1 530 (by omega)).trans ((n1196 530 (by decide)).trans (hM))
                refine T_get xr_153_77 h1256 rfl (v := .ref 535) rfl (pc' := 80) rfl ?_
                refine T_p xr_153_80 xn_153 (pc' := 83) (ls' := [(1, .int (iI k)), (0, .ref 530)]) (st' := [.int (iI 144), .ref 535]) rfl ?_
                refine T_p xr_153_83 xn_153 (pc' := 84) (ls' := [(1, .int (iI k)), (0, .ref 530)]) (st' := [.ref 530, .int (iI 144), .ref 535]) rfl ?_
                refine T_get xr_153_84 h1256 rfl (v := .int (iI (o 4))) rfl (pc' := 87) rfl ?_
                refine T_zimul xr_153_87 (z := 144 * (o 4)) rfl (pc' := 88) rfl ?_
                refine T_p xr_153_88 xn_153 (pc' := 90) (ls' := [(1, .int (iI k)), (0, .ref 530)]) (st' := [.int (iI 12), .int (iI (144 * (o 4))), .ref 535]) rfl ?_
                refine T_p xr_153_90 xn_153 (pc' := 91) (ls' := [(1, .int (iI k)), (0, .ref 530)]) (st' := [.ref 530, .int (iI 12), .int (iI (144 * (o 4))), .ref 535]) rfl ?_
                refine T_get xr_153_91 h1256 rfl (v := .int (iI (o 28))) rfl (pc' := 94) rfl ?_
                refine T_zimul xr_153_94 (z := 12 * (o 28)) rfl (pc' := 95) rfl ?_
                refine T_ziadd xr_153_95 (z := (144 * (o 4)) + (12 * (o 28))) rfl (pc' := 96) rfl ?_
                refine T_p xr_153_96 xn_153 (pc' := 97) (ls' := [(1, .int (iI k)), (0, .ref 530)]) (st' := [.int (iI k), .int (iI ((144 * (o 4)) + (12 * (o 28)))), .ref 535]) rfl ?_
                refine T_ziadd xr_153_97 (z := ((144 * (o 4)) + (12 * (o 28))) + k) rfl (pc' := 98) rfl ?_
                refine T_p xr_153_98 xn_153 (pc' := 99) (ls' := [(1, .int (iI k)), (0, .ref 530)]) (st' := [.int (iI 0), .int (iI (((144 * (o 4)) + (12 * (o 28))) + k)), .ref 535]) rfl ?_
                refine T_zzast xr_153_99 htg1 (pc' := 100) rfl (fun S1257 h1258 n1259 e1260 => ?_)
                refine T_p xr_153_100 xn_153 (pc' := 101) (ls' := [(1, .int (iI k)), (0, .ref 530)]) (st' := [.ref 530]) rfl ?_
                have h1261 := (n1259 530 (by decide)).trans (h1256)
                refine T_get xr_153_101 h1261 rfl (v := .ref 535) rfl (pc' := 104) rfl ?_
                refine T_p xr_153_104 xn_153 (pc' := 107) (ls' := [(1, .int (iI k)), (0, .ref 530)]) (st' := [.int (iI 144), .ref 535]) rfl ?_
                refine T_p xr_153_107 xn_153 (pc' := 108) (ls' := [(1, .int (iI k)), (0, .ref 530)]) (st' := [.ref 530, .int (iI 144), .ref 535]) rfl ?_
                refine T_get xr_153_108 h1261 rfl (v := .int (iI (o 4))) rfl (pc' := 111) rfl ?_
                refine T_zimul xr_153_111 (z := 144 * (o 4)) rfl (pc' := 112) rfl ?_
                refine T_p xr_153_112 xn_153 (pc' := 114) (ls' := [(1, .int (iI k)), (0, .ref 530)]) (st' := [.int (iI 12), .int (iI (144 * (o 4))), .ref 535]) rfl ?_
                refine T_p xr_153_114 xn_153 (pc' := 115) (ls' := [(1, .int (iI k)), (0, .ref 530)]) (st' := [.int (iI k), .int (iI 12), .int (iI (144 * (o 4))), .ref 535]) rfl ?_
                refine T_zimul xr_153_115 (z := 12 * k) rfl (pc' := 116) rfl ?_
                refine T_ziadd xr_153_116 (z := (144 * (o 4)) + (12 * k)) rfl (pc' := 117) rfl ?_
                refine T_p xr_153_117 xn_153 (pc' := 118) (ls' := [(1, .int (iI k)), (0, .ref 530)]) (st' := [.ref 530, .int (iI ((144 * (o 4)) + (12 * k))), .ref 535]) rfl ?_
                refine T_get xr_153_118 h1261 rfl (v := .int (iI (o 28))) rfl (pc' := 121) rfl ?_
                refine T_ziadd xr_153_121 (z := ((144 * (o 4)) + (12 * k)) + (o 28)) rfl (pc' := 122) rfl ?_
                refine T_p xr_153_122 xn_153 (pc' := 123) (ls' := [(1, .int (iI k)), (0, .ref 530)]) (st' := [.int (iI 0), .int (iI (((144 * (o 4)) + (12 * k)) + (o 28))), .ref 535]) rfl ?_
                refine T_zzast xr_153_123 h1258 (pc' := 124) rfl (fun S1262 h1263 n1264 e1265 => ?_)
                refine T_ziinc xr_153_124 xn_153 (a := k) (z := k + 1) rfl (Nat.le_of_ble_eq_true rfl) (by omega) (ls' := [(1, .int (iI (k + 1))), (0, .ref 530)]) rfl (pc' := 127) rfl ?_
                refine T_p xr_153_127 xn_153 (pc' := 70) (ls' := [(1, .int (iI (k + 1))), (0, .ref 530)]) (st' := []) rfl ?_
                exact ih1199 S1262 (k + 1) (X_ug (X_ug tg1 (((144 * (o 4)) + (12 * (o 28))) + k) (X_bo 0)) (((144 * (o 4)) + (12 * k)) + (o 28)) (X_bo 0)) h1263 (hF1202.tr (((X_Fr.rf).tr (X_Fr.of n1259 e1260 (by omega))).tr (X_Fr.of n1264 e1265 (by omega)))) (by omega) (fun i h1 h2 => by
                      constructor
                      · unfold X_ug; split
                        · exact X_bo_z
                        · split
                          · exact X_bo_z
                          · exact (ht1 i h1 (by omega)).1
                      · unfold X_ug; split
                        · exact X_bo_z
                        · split
                          · exact X_bo_z
                          · exact (ht1 i h1 (by omega)).2) (fun i hi => by
                      have hik := hi k (by omega) (by omega)
                      rw [X_ug_n _ _ (by omega), X_ug_n _ _ (by omega)]
                      exact ht2 i hi) ((ht3.up (by omega)).up (by omega)) (by omega)
          exact L1198 ((12 : Int) + 1).toNat S1194 0 tg h1203 ((X_Fr.rf)) (by omega) (fun i h1 h2 => absurd h2 (by omega)) (fun i _ => rfl) R_ob.rf (by omega)
        · skip
          have c1193 : ¬ ((o 5) = 0) := c1193
          exact (show False by first | contradiction | omega).elim
      · skip
        have c1187 : ¬ ((X_ix rn rc (ct c)) < 0) := c1187
        refine T_p xr_153_30 xn_153 (pc' := 31) (ls' := [(0, .ref 530)]) (st' := [.ref 530]) rfl ?_
        refine T_p xr_153_31 xn_153 (pc' := 32) (ls' := [(0, .ref 530)]) (st' := [.int (iI 3), .ref 530]) rfl ?_
        refine T_p xr_153_32 xn_153 (pc' := 33) (ls' := [(0, .ref 530)]) (st' := [.ref 530, .int (iI 3), .ref 530]) rfl ?_
        refine T_get xr_153_33 hM rfl (v := .int (iI (o 7))) rfl (pc' := 36) rfl ?_
        refine T_cv (S := S) (q := 530) xr_153_36 xf_139.1 xf_139.2.1 xn_139 (as := [.int (iI 3), .int (iI (o 7))]) (r := []) rfl hM (Nat.le_of_ble_eq_true rfl) (Nat.le_of_ble_eq_true rfl) (pc' := 39) rfl (ls' := [(0, .ref 530), (1, .int (iI 3)), (2, .int (iI (o 7)))]) rfl ?_
        refine T_mono (r_fails sc S o nm 3 (o 7) hM (show 0 ≤ (o 5) ∧ (o 5) ≤ 5 from by omega) (by omega)) (fun v1266 S1267 h1268 => ?_)
        rcases h1268 with ⟨f1269, g1270, hv1271, hp1272, hM1273, hf1274⟩
        rw [hv1271]
        have h1275 : S1267.1 530 = .inr (11, [.ref 531, .int (iI (o 1)), .ref 532, .int (iI (o 3)), .int (iI (o 4)), .int (iI f1269), .int (iI g1270), .int (iI (o 7)), .int (iI (o 8)), .int (iI (o 9)), .int (iI (o 10)), .int (iI (o 11)), .long nm, .ref 533, .ref 534, .ref 535, .ref 536, .ref 537, .ref 538, .ref 539, .ref 540, .ref 541, .ref 542, .ref 543, .ref 544, .ref 545, .ref 546, .ref 547, .int (iI (o 28)), .int (iI (o 29)), .int (iI (o 30)), .int (iI (o 31)), .int (iI (o 32)), .int (iI (o 33)), .ref 548, .ref 549, .ref 550, .ref 551, .int (iI (o 38)), .ref 552, .ref 553, .ref 554, .ref 555, .ref 556, .ref 557, .ref 558, .ref 559, .ref 560, .ref 561, .int (iI (o 49)), .ref 562, .ref 563, .ref 564, .ref 565, .ref 566, .ref 567, .ref 568, .ref 569, .int (iI (o 58)), .ref 570, .ref 571, .ref 572, .ref 573, .ref 574, .ref 575, .ref 576, .ref 577, .ref 578, .int (iI (o 68)), .int (iI (o 69)), .int (iI (o 70)), .ref 579]) := hM1273
        have hp1272 : ((o 5) = 0 → f1269 = 3) ∧ (¬ (o 5) = 0 → f1269 = (o 5)) := hp1272
        have hf1276 : f1269 = 3 := hp1272.1 h5
        show X_T sc 153 (39, [(0, .ref 530)], [], S1267) _
        refine T_p xr_153_39 xn_153 (pc' := 40) (ls' := [(0, .ref 530)]) (st' := [.ref 530]) rfl ?_
        refine T_cv (S := S1267) (q := 530) xr_153_40 xf_140.1 xf_140.2.1 xn_140 (as := []) (r := []) rfl h1275 (Nat.le_of_ble_eq_true rfl) (Nat.le_of_ble_eq_true rfl) (pc' := 43) rfl (ls' := [(0, .ref 530)]) rfl ?_
        refine T_mono (r_isGood sc S1267 (X_ou (X_ou o 5 f1269) 6 g1270) nm h1275 (show 0 ≤ f1269 ∧ f1269 ≤ 5 from by omega)) (fun v1277 S1278 h1279 => ?_)
        rcases h1279 with ⟨hv1280, hf1281⟩
        rw [hv1280]
        rw [hf1281]
        show X_T sc 153 (43, [(0, .ref 530)], [.int (iI (bI (f1269 = 0)))], S1267) _
        refine T_bif_ne xr_153_43 (t := 47) (pc' := 46) rfl rfl (fun c1282 => ?_) (fun c1282 => ?_)
        · skip
          have c1282 : (f1269 = 0) := c1282
          exact (show False by first | contradiction | omega).elim
        · skip
          have c1282 : ¬ (f1269 = 0) := c1282
          refine T_vret xr_153_46 xf_153.2.2 ?_
          refine hQ _ _ ?_
          have h1283 := (hf1274.1 533 (by omega)).trans (hA533)
          have h1284 := (hf1274.1 535 (by omega)).trans (hA535)
          refine Or.inr ⟨o 7, o 8, o 9, o 10, o 11, nm, o 28, f1269, g1270, rN, tg, rfl, by omega, ?_, ?_, h1275, h1283, h1284, (X_Fr.rf).tr (X_Fr.mono ⟨hf1274.1, hf1274.2⟩ (fun q hq => (by omega)))⟩
          · simp only [sp_rank, ← hc]
            (repeat (first | rw [if_pos (by assumption)] | rw [if_neg (by assumption)] | rw [if_neg (by omega)] | rw [if_pos (by omega)]))
            all_goals first | rfl | ((repeat' split) <;> first | rfl | (exfalso; omega))
          · first | exact ⟨R_ob.rf, R_ob.rf⟩ | exact ⟨R_ob.rf.up (by omega), ht3⟩
  · skip
    have c1174 : ¬ ((o 9) = 2) := c1174
    refine T_p xr_153_8 xn_153 (pc' := 9) (ls' := [(0, .ref 530)]) (st' := [.ref 530]) rfl ?_
    refine T_cv (S := S) (q := 530) xr_153_9 xf_147.1 xf_147.2.1 xn_147 (as := []) (r := []) rfl hM (Nat.le_of_ble_eq_true rfl) (Nat.le_of_ble_eq_true rfl) (pc' := 12) rfl (ls' := [(0, .ref 530)]) rfl ?_
    refine T_mono (r_wrong sc S o nm tx tb len n so pl ct E c hM hA532 (show (o 3) = len from by first | assumption | omega) hl htx hX hT (show 0 ≤ (o 5) ∧ (o 5) ≤ 5 from by omega)) (fun v1285 S1286 h1287 => ?_)
    rcases h1287 with ⟨f1288, g1289, hv1290, hp1291, hM1292, hf1293⟩
    rw [hv1290]
    have h1294 : S1286.1 530 = .inr (11, [.ref 531, .int (iI (o 1)), .ref 532, .int (iI (o 3)), .int (iI (o 4)), .int (iI f1288), .int (iI g1289), .int (iI (o 7)), .int (iI (o 8)), .int (iI (o 9)), .int (iI (o 10)), .int (iI (o 11)), .long nm, .ref 533, .ref 534, .ref 535, .ref 536, .ref 537, .ref 538, .ref 539, .ref 540, .ref 541, .ref 542, .ref 543, .ref 544, .ref 545, .ref 546, .ref 547, .int (iI (o 28)), .int (iI (o 29)), .int (iI (o 30)), .int (iI (o 31)), .int (iI (o 32)), .int (iI (o 33)), .ref 548, .ref 549, .ref 550, .ref 551, .int (iI (o 38)), .ref 552, .ref 553, .ref 554, .ref 555, .ref 556, .ref 557, .ref 558, .ref 559, .ref 560, .ref 561, .int (iI (o 49)), .ref 562, .ref 563, .ref 564, .ref 565, .ref 566, .ref 567, .ref 568, .ref 569, .int (iI (o 58)), .ref 570, .ref 571, .ref 572, .ref 573, .ref 574, .ref 575, .ref 576, .ref 577, .ref 578, .int (iI (o 68)), .int (iI (o 69)), .int (iI (o 70)), .ref 579]) := hM1292
    show X_T sc 153 (12, [(0, .ref 530)], [], S1286) _
    refine T_p xr_153_12 xn_153 (pc' := 13) (ls' := [(0, .ref 530)]) (st' := [.ref 530]) rfl ?_
    refine T_cv (S := S1286) (q := 530) xr_153_13 xf_140.1 xf_140.2.1 xn_140 (as := []) (r := []) rfl h1294 (Nat.le_of_ble_eq_true rfl) (Nat.le_of_ble_eq_true rfl) (pc' := 16) rfl (ls' := [(0, .ref 530)]) rfl ?_
    refine T_mono (r_isGood sc S1286 (X_ou (X_ou o 5 f1288) 6 g1289) nm h1294 (show 0 ≤ f1288 ∧ f1288 ≤ 5 from by omega)) (fun v1295 S1296 h1297 => ?_)
    rcases h1297 with ⟨hv1298, hf1299⟩
    rw [hv1298]
    rw [hf1299]
    show X_T sc 153 (16, [(0, .ref 530)], [.int (iI (bI (f1288 = 0)))], S1286) _
    refine T_bif_eq xr_153_16 (t := 39) (pc' := 19) rfl rfl (fun c1300 => ?_) (fun c1300 => ?_)
    · skip
      have c1300 : ¬ (f1288 = 0) := c1300
      refine T_p xr_153_39 xn_153 (pc' := 40) (ls' := [(0, .ref 530)]) (st' := [.ref 530]) rfl ?_
      refine T_cv (S := S1286) (q := 530) xr_153_40 xf_140.1 xf_140.2.1 xn_140 (as := []) (r := []) rfl h1294 (Nat.le_of_ble_eq_true rfl) (Nat.le_of_ble_eq_true rfl) (pc' := 43) rfl (ls' := [(0, .ref 530)]) rfl ?_
      refine T_mono (r_isGood sc S1286 (X_ou (X_ou o 5 f1288) 6 g1289) nm h1294 (show 0 ≤ f1288 ∧ f1288 ≤ 5 from by omega)) (fun v1301 S1302 h1303 => ?_)
      rcases h1303 with ⟨hv1304, hf1305⟩
      rw [hv1304]
      rw [hf1305]
      show X_T sc 153 (43, [(0, .ref 530)], [.int (iI (bI (f1288 = 0)))], S1286) _
      refine T_bif_ne xr_153_43 (t := 47) (pc' := 46) rfl rfl (fun c1306 => ?_) (fun c1306 => ?_)
      · skip
        have c1306 : (f1288 = 0) := c1306
        exact (show False by first | contradiction | omega).elim
      · skip
        have c1306 : ¬ (f1288 = 0) := c1306
        refine T_vret xr_153_46 xf_153.2.2 ?_
        refine hQ _ _ ?_
        have h1307 := (hf1293.1 533 (by omega)).trans (hA533)
        have h1308 := (hf1293.1 535 (by omega)).trans (hA535)
        refine Or.inr ⟨o 7, o 8, o 9, o 10, o 11, nm, o 28, f1288, g1289, rN, tg, rfl, by omega, ?_, ?_, h1294, h1307, h1308, (X_Fr.rf).tr (X_Fr.mono ⟨hf1293.1, hf1293.2⟩ (fun q hq => (by omega)))⟩
        · simp only [sp_rank, ← hc]
          (repeat (first | rw [if_pos (by assumption)] | rw [if_neg (by assumption)] | rw [if_neg (by omega)] | rw [if_pos (by omega)]))
          all_goals first | rfl | ((repeat' split) <;> first | rfl | (exfalso; omega))
        · first | exact ⟨R_ob.rf, R_ob.rf⟩ | exact ⟨R_ob.rf.up (by omega), ht3⟩
    · skip
      have c1300 : (f1288 = 0) := c1300
      exact (show False by first | contradiction | omega).elim
