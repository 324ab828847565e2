theorem xr_101_0 : X_row 101 0 = some (0, (.aload_n 0, 1), (0, 0, 0)) := by decide +kernel
theorem xr_101_1 : X_row 101 1 = some (1, (.getfield 12, 3), (10, 0, 36)) := by decide +kernel
theorem xr_101_4 : X_row 101 4 = some (4, (.getfield 76, 3), (7, 1, 1)) := by decide +kernel
theorem xr_101_7 : X_row 101 7 = some (7, (.bipush 20, 2), (0, 0, 0)) := by decide +kernel
theorem xr_101_9 : X_row 101 9 = some (9, (.iadd, 1), (0, 0, 0)) := by decide +kernel
theorem xr_101_10 : X_row 101 10 = some (10, (.sipush 2000, 3), (0, 0, 0)) := by decide +kernel
theorem xr_101_13 : X_row 101 13 = some (13, (.if_icmp .le 5, 3), (0, 0, 0)) := by decide +kernel
theorem xr_101_16 : X_row 101 16 = some (16, (.iconst (-1), 1), (0, 0, 0)) := by decide +kernel
theorem xr_101_17 : X_row 101 17 = some (17, (.ireturn, 1), (0, 0, 0)) := by decide +kernel
theorem xr_101_18 : X_row 101 18 = some (18, (.aload_n 0, 1), (0, 0, 0)) := by decide +kernel
theorem xr_101_19 : X_row 101 19 = some (19, (.getfield 12, 3), (10, 0, 36)) := by decide +kernel
theorem xr_101_22 : X_row 101 22 = some (22, (.iload_n 1, 1), (0, 0, 0)) := by decide +kernel
theorem xr_101_23 : X_row 101 23 = some (23, (.invokevirtual 80, 3), (87, 34, 0)) := by decide +kernel
theorem xr_101_26 : X_row 101 26 = some (26, (.aload_n 0, 1), (0, 0, 0)) := by decide +kernel
theorem xr_101_27 : X_row 101 27 = some (27, (.getfield 12, 3), (10, 0, 36)) := by decide +kernel
theorem xr_101_30 : X_row 101 30 = some (30, (.iload_n 2, 1), (0, 0, 0)) := by decide +kernel
theorem xr_101_31 : X_row 101 31 = some (31, (.invokevirtual 80, 3), (87, 34, 0)) := by decide +kernel
theorem xr_101_34 : X_row 101 34 = some (34, (.aload_n 0, 1), (0, 0, 0)) := by decide +kernel
theorem xr_101_35 : X_row 101 35 = some (35, (.getfield 12, 3), (10, 0, 36)) := by decide +kernel
theorem xr_101_38 : X_row 101 38 = some (38, (.iload_n 3, 1), (0, 0, 0)) := by decide +kernel
theorem xr_101_39 : X_row 101 39 = some (39, (.invokevirtual 80, 3), (87, 34, 0)) := by decide +kernel
theorem xr_101_42 : X_row 101 42 = some (42, (.aload_n 0, 1), (0, 0, 0)) := by decide +kernel
theorem xr_101_43 : X_row 101 43 = some (43, (.getfield 12, 3), (10, 0, 36)) := by decide +kernel
theorem xr_101_46 : X_row 101 46 = some (46, (.iload 4, 2), (0, 0, 0)) := by decide +kernel
theorem xr_101_48 : X_row 101 48 = some (48, (.invokevirtual 80, 3), (87, 34, 0)) := by decide +kernel
theorem xr_101_51 : X_row 101 51 = some (51, (.aload_n 0, 1), (0, 0, 0)) := by decide +kernel
theorem xr_101_52 : X_row 101 52 = some (52, (.getfield 12, 3), (10, 0, 36)) := by decide +kernel
theorem xr_101_55 : X_row 101 55 = some (55, (.iload 5, 2), (0, 0, 0)) := by decide +kernel
theorem xr_101_57 : X_row 101 57 = some (57, (.invokevirtual 80, 3), (87, 34, 0)) := by decide +kernel
theorem xr_101_60 : X_row 101 60 = some (60, (.aload_n 0, 1), (0, 0, 0)) := by decide +kernel
theorem xr_101_61 : X_row 101 61 = some (61, (.getfield 12, 3), (10, 0, 36)) := by decide +kernel
theorem xr_101_64 : X_row 101 64 = some (64, (.getfield 76, 3), (7, 1, 1)) := by decide +kernel
theorem xr_101_67 : X_row 101 67 = some (67, (.ireturn, 1), (0, 0, 0)) := by decide +kernel
theorem xr_102_0 : X_row 102 0 = some (0, (.iload_n 1, 1), (0, 0, 0)) := by decide +kernel
theorem xr_102_1 : X_row 102 1 = some (1, (.ifCond .lt 14, 3), (0, 0, 0)) := by decide +kernel
theorem xr_102_4 : X_row 102 4 = some (4, (.iload_n 1, 1), (0, 0, 0)) := by decide +kernel
theorem xr_102_5 : X_row 102 5 = some (5, (.aload_n 0, 1), (0, 0, 0)) := by decide +kernel
theorem xr_102_6 : X_row 102 6 = some (6, (.getfield 12, 3), (10, 0, 36)) := by decide +kernel
theorem xr_102_9 : X_row 102 9 = some (9, (.getfield 76, 3), (7, 1, 1)) := by decide +kernel
theorem xr_102_12 : X_row 102 12 = some (12, (.if_icmp .le 5, 3), (0, 0, 0)) := by decide +kernel
theorem xr_102_15 : X_row 102 15 = some (15, (.iconst (-1), 1), (0, 0, 0)) := by decide +kernel
theorem xr_102_16 : X_row 102 16 = some (16, (.ireturn, 1), (0, 0, 0)) := by decide +kernel
theorem xr_102_17 : X_row 102 17 = some (17, (.aload_n 0, 1), (0, 0, 0)) := by decide +kernel
theorem xr_102_18 : X_row 102 18 = some (18, (.getfield 12, 3), (10, 0, 36)) := by decide +kernel
theorem xr_102_21 : X_row 102 21 = some (21, (.iload_n 1, 1), (0, 0, 0)) := by decide +kernel
theorem xr_102_22 : X_row 102 22 = some (22, (.putfield 76, 3), (7, 1, 1)) := by decide +kernel
theorem xr_102_25 : X_row 102 25 = some (25, (.iload_n 1, 1), (0, 0, 0)) := by decide +kernel
theorem xr_102_26 : X_row 102 26 = some (26, (.ireturn, 1), (0, 0, 0)) := by decide +kernel
theorem xr_104_0 : X_row 104 0 = some (0, (.iload_n 1, 1), (0, 0, 0)) := by decide +kernel
theorem xr_104_1 : X_row 104 1 = some (1, (.tableswitch 87 0 5 #[39, 47, 55, 63, 71, 79], 39), (0, 0, 0)) := by decide +kernel
theorem xr_104_40 : X_row 104 40 = some (40, (.aload_n 0, 1), (0, 0, 0)) := by decide +kernel
theorem xr_104_41 : X_row 104 41 = some (41, (.getfield 19, 3), (10, 1, 38)) := by decide +kernel
theorem xr_104_44 : X_row 104 44 = some (44, (.getfield 103, 3), (0, 0, 15)) := by decide +kernel
theorem xr_104_47 : X_row 104 47 = some (47, (.ireturn, 1), (0, 0, 0)) := by decide +kernel
theorem xr_104_48 : X_row 104 48 = some (48, (.aload_n 0, 1), (0, 0, 0)) := by decide +kernel
theorem xr_104_49 : X_row 104 49 = some (49, (.getfield 19, 3), (10, 1, 38)) := by decide +kernel
theorem xr_104_52 : X_row 104 52 = some (52, (.getfield 106, 3), (0, 1, 17)) := by decide +kernel
theorem xr_104_55 : X_row 104 55 = some (55, (.ireturn, 1), (0, 0, 0)) := by decide +kernel
theorem xr_104_56 : X_row 104 56 = some (56, (.aload_n 0, 1), (0, 0, 0)) := by decide +kernel
theorem xr_104_57 : X_row 104 57 = some (57, (.getfield 19, 3), (10, 1, 38)) := by decide +kernel
theorem xr_104_60 : X_row 104 60 = some (60, (.getfield 94, 3), (0, 2, 19)) := by decide +kernel
theorem xr_104_63 : X_row 104 63 = some (63, (.ireturn, 1), (0, 0, 0)) := by decide +kernel
theorem xr_104_64 : X_row 104 64 = some (64, (.aload_n 0, 1), (0, 0, 0)) := by decide +kernel
theorem xr_104_65 : X_row 104 65 = some (65, (.getfield 38, 3), (10, 4, 44)) := by decide +kernel
theorem xr_104_68 : X_row 104 68 = some (68, (.getfield 88, 3), (6, 0, 23)) := by decide +kernel
theorem xr_104_71 : X_row 104 71 = some (71, (.ireturn, 1), (0, 0, 0)) := by decide +kernel
theorem xr_104_72 : X_row 104 72 = some (72, (.aload_n 0, 1), (0, 0, 0)) := by decide +kernel
theorem xr_104_73 : X_row 104 73 = some (73, (.getfield 45, 3), (10, 5, 46)) := by decide +kernel
theorem xr_104_76 : X_row 104 76 = some (76, (.getfield 109, 3), (5, 0, 25)) := by decide +kernel
theorem xr_104_79 : X_row 104 79 = some (79, (.ireturn, 1), (0, 0, 0)) := by decide +kernel
theorem xr_104_80 : X_row 104 80 = some (80, (.aload_n 0, 1), (0, 0, 0)) := by decide +kernel
theorem xr_104_81 : X_row 104 81 = some (81, (.getfield 12, 3), (10, 0, 36)) := by decide +kernel
theorem xr_104_84 : X_row 104 84 = some (84, (.getfield 76, 3), (7, 1, 1)) := by decide +kernel
theorem xr_104_87 : X_row 104 87 = some (87, (.ireturn, 1), (0, 0, 0)) := by decide +kernel
theorem xr_104_88 : X_row 104 88 = some (88, (.iconst (-1), 1), (0, 0, 0)) := by decide +kernel
theorem xr_104_89 : X_row 104 89 = some (89, (.ireturn, 1), (0, 0, 0)) := by decide +kernel
theorem xr_105_0 : X_row 105 0 = some (0, (.aload_n 0, 1), (0, 0, 0)) := by decide +kernel
theorem xr_105_1 : X_row 105 1 = some (1, (.getfield 19, 3), (10, 1, 38)) := by decide +kernel
theorem xr_105_4 : X_row 105 4 = some (4, (.iload_n 1, 1), (0, 0, 0)) := by decide +kernel
theorem xr_105_5 : X_row 105 5 = some (5, (.invokevirtual 110, 3), (3, 36, 0)) := by decide +kernel
theorem xr_105_8 : X_row 105 8 = some (8, (.ifCond .ne 5, 3), (0, 0, 0)) := by decide +kernel
theorem xr_105_11 : X_row 105 11 = some (11, (.iconst (-1), 1), (0, 0, 0)) := by decide +kernel
theorem xr_105_12 : X_row 105 12 = some (12, (.ireturn, 1), (0, 0, 0)) := by decide +kernel
theorem xr_105_13 : X_row 105 13 = some (13, (.aload_n 0, 1), (0, 0, 0)) := by decide +kernel
theorem xr_105_14 : X_row 105 14 = some (14, (.getfield 19, 3), (10, 1, 38)) := by decide +kernel
theorem xr_105_17 : X_row 105 17 = some (17, (.getfield 114, 3), (0, 7, 21)) := by decide +kernel
theorem xr_105_20 : X_row 105 20 = some (20, (.iload_n 1, 1), (0, 0, 0)) := by decide +kernel
theorem xr_105_21 : X_row 105 21 = some (21, (.aaload, 1), (0, 0, 0)) := by decide +kernel
theorem xr_105_22 : X_row 105 22 = some (22, (.astore_n 3, 1), (0, 0, 0)) := by decide +kernel
theorem xr_105_23 : X_row 105 23 = some (23, (.iload_n 2, 1), (0, 0, 0)) := by decide +kernel
theorem xr_105_24 : X_row 105 24 = some (24, (.tableswitch 79 0 6 #[44, 49, 54, 59, 64, 69, 74], 44), (0, 0, 0)) := by decide +kernel
theorem xr_105_68 : X_row 105 68 = some (68, (.aload_n 3, 1), (0, 0, 0)) := by decide +kernel
theorem xr_105_69 : X_row 105 69 = some (69, (.getfield 118, 3), (8, 0, 3)) := by decide +kernel
theorem xr_105_72 : X_row 105 72 = some (72, (.ireturn, 1), (0, 0, 0)) := by decide +kernel
theorem xr_105_73 : X_row 105 73 = some (73, (.aload_n 3, 1), (0, 0, 0)) := by decide +kernel
theorem xr_105_74 : X_row 105 74 = some (74, (.getfield 123, 3), (8, 1, 5)) := by decide +kernel
theorem xr_105_77 : X_row 105 77 = some (77, (.ireturn, 1), (0, 0, 0)) := by decide +kernel
theorem xr_105_78 : X_row 105 78 = some (78, (.aload_n 3, 1), (0, 0, 0)) := by decide +kernel
theorem xr_105_79 : X_row 105 79 = some (79, (.getfield 126, 3), (8, 2, 7)) := by decide +kernel
theorem xr_105_82 : X_row 105 82 = some (82, (.ireturn, 1), (0, 0, 0)) := by decide +kernel
theorem xr_105_83 : X_row 105 83 = some (83, (.aload_n 3, 1), (0, 0, 0)) := by decide +kernel
theorem xr_105_84 : X_row 105 84 = some (84, (.getfield 129, 3), (8, 3, 9)) := by decide +kernel
theorem xr_105_87 : X_row 105 87 = some (87, (.ireturn, 1), (0, 0, 0)) := by decide +kernel
theorem xr_105_88 : X_row 105 88 = some (88, (.aload_n 3, 1), (0, 0, 0)) := by decide +kernel
theorem xr_105_89 : X_row 105 89 = some (89, (.getfield 132, 3), (8, 4, 11)) := by decide +kernel
theorem xr_105_92 : X_row 105 92 = some (92, (.ireturn, 1), (0, 0, 0)) := by decide +kernel
theorem xr_105_93 : X_row 105 93 = some (93, (.aload_n 3, 1), (0, 0, 0)) := by decide +kernel
theorem xr_105_94 : X_row 105 94 = some (94, (.invokevirtual 135, 3), (96, 38, 0)) := by decide +kernel
theorem xr_105_97 : X_row 105 97 = some (97, (.ireturn, 1), (0, 0, 0)) := by decide +kernel
theorem xr_105_98 : X_row 105 98 = some (98, (.aload_n 3, 1), (0, 0, 0)) := by decide +kernel
theorem xr_105_99 : X_row 105 99 = some (99, (.getfield 139, 3), (8, 5, 13)) := by decide +kernel
theorem xr_105_102 : X_row 105 102 = some (102, (.ireturn, 1), (0, 0, 0)) := by decide +kernel
theorem xr_105_103 : X_row 105 103 = some (103, (.iconst (-1), 1), (0, 0, 0)) := by decide +kernel
theorem xr_105_104 : X_row 105 104 = some (104, (.ireturn, 1), (0, 0, 0)) := by decide +kernel
theorem xr_110_0 : X_row 110 0 = some (0, (.iload_n 1, 1), (0, 0, 0)) := by decide +kernel
theorem xr_110_1 : X_row 110 1 = some (1, (.ifCond .lt 14, 3), (0, 0, 0)) := by decide +kernel
theorem xr_110_4 : X_row 110 4 = some (4, (.iload_n 1, 1), (0, 0, 0)) := by decide +kernel
theorem xr_110_5 : X_row 110 5 = some (5, (.aload_n 0, 1), (0, 0, 0)) := by decide +kernel
theorem xr_110_6 : X_row 110 6 = some (6, (.getfield 45, 3), (10, 5, 46)) := by decide +kernel
theorem xr_110_9 : X_row 110 9 = some (9, (.getfield 109, 3), (5, 0, 25)) := by decide +kernel
theorem xr_110_12 : X_row 110 12 = some (12, (.if_icmp .lt 5, 3), (0, 0, 0)) := by decide +kernel
theorem xr_110_15 : X_row 110 15 = some (15, (.iconst (-1), 1), (0, 0, 0)) := by decide +kernel
theorem xr_110_16 : X_row 110 16 = some (16, (.ireturn, 1), (0, 0, 0)) := by decide +kernel
theorem xr_110_17 : X_row 110 17 = some (17, (.iload_n 2, 1), (0, 0, 0)) := by decide +kernel
theorem xr_110_18 : X_row 110 18 = some (18, (.tableswitch 84 0 4 #[34, 44, 54, 64, 74], 34), (0, 0, 0)) := by decide +kernel
theorem xr_110_52 : X_row 110 52 = some (52, (.aload_n 0, 1), (0, 0, 0)) := by decide +kernel
theorem xr_110_53 : X_row 110 53 = some (53, (.getfield 45, 3), (10, 5, 46)) := by decide +kernel
theorem xr_110_56 : X_row 110 56 = some (56, (.getfield 175, 3), (5, 1, 27)) := by decide +kernel
theorem xr_110_59 : X_row 110 59 = some (59, (.iload_n 1, 1), (0, 0, 0)) := by decide +kernel
theorem xr_110_60 : X_row 110 60 = some (60, (.iaload, 1), (0, 0, 0)) := by decide +kernel
theorem xr_110_61 : X_row 110 61 = some (61, (.ireturn, 1), (0, 0, 0)) := by decide +kernel
theorem xr_110_62 : X_row 110 62 = some (62, (.aload_n 0, 1), (0, 0, 0)) := by decide +kernel
theorem xr_110_63 : X_row 110 63 = some (63, (.getfield 45, 3), (10, 5, 46)) := by decide +kernel
theorem xr_110_66 : X_row 110 66 = some (66, (.getfield 179, 3), (5, 2, 29)) := by decide +kernel
theorem xr_110_69 : X_row 110 69 = some (69, (.iload_n 1, 1), (0, 0, 0)) := by decide +kernel
theorem xr_110_70 : X_row 110 70 = some (70, (.iaload, 1), (0, 0, 0)) := by decide +kernel
theorem xr_110_71 : X_row 110 71 = some (71, (.ireturn, 1), (0, 0, 0)) := by decide +kernel
theorem xr_110_72 : X_row 110 72 = some (72, (.aload_n 0, 1), (0, 0, 0)) := by decide +kernel
theorem xr_110_73 : X_row 110 73 = some (73, (.getfield 45, 3), (10, 5, 46)) := by decide +kernel
theorem xr_110_76 : X_row 110 76 = some (76, (.getfield 182, 3), (5, 3, 31)) := by decide +kernel
theorem xr_110_79 : X_row 110 79 = some (79, (.iload_n 1, 1), (0, 0, 0)) := by decide +kernel
theorem xr_110_80 : X_row 110 80 = some (80, (.iaload, 1), (0, 0, 0)) := by decide +kernel
theorem xr_110_81 : X_row 110 81 = some (81, (.ireturn, 1), (0, 0, 0)) := by decide +kernel
theorem xr_110_82 : X_row 110 82 = some (82, (.aload_n 0, 1), (0, 0, 0)) := by decide +kernel
theorem xr_110_83 : X_row 110 83 = some (83, (.getfield 45, 3), (10, 5, 46)) := by decide +kernel
theorem xr_110_86 : X_row 110 86 = some (86, (.getfield 184, 3), (5, 4, 33)) := by decide +kernel
theorem xr_110_89 : X_row 110 89 = some (89, (.iload_n 1, 1), (0, 0, 0)) := by decide +kernel
theorem xr_110_90 : X_row 110 90 = some (90, (.iaload, 1), (0, 0, 0)) := by decide +kernel
theorem xr_110_91 : X_row 110 91 = some (91, (.ireturn, 1), (0, 0, 0)) := by decide +kernel
theorem xr_110_92 : X_row 110 92 = some (92, (.aload_n 0, 1), (0, 0, 0)) := by decide +kernel
theorem xr_110_93 : X_row 110 93 = some (93, (.getfield 45, 3), (10, 5, 46)) := by decide +kernel
theorem xr_110_96 : X_row 110 96 = some (96, (.getfield 187, 3), (5, 5, 35)) := by decide +kernel
theorem xr_110_99 : X_row 110 99 = some (99, (.iload_n 1, 1), (0, 0, 0)) := by decide +kernel
theorem xr_110_100 : X_row 110 100 = some (100, (.iaload, 1), (0, 0, 0)) := by decide +kernel
theorem xr_110_101 : X_row 110 101 = some (101, (.ireturn, 1), (0, 0, 0)) := by decide +kernel
theorem xr_110_102 : X_row 110 102 = some (102, (.iconst (-1), 1), (0, 0, 0)) := by decide +kernel
theorem xr_110_103 : X_row 110 103 = some (103, (.ireturn, 1), (0, 0, 0)) := by decide +kernel
theorem xn_101 : X_nL 101 = 6 := by decide +kernel
theorem xf_101 : X_na 101 = 5 ∧ X_ci 101 = 10 ∧ X_rt 101 = (some .int) := by decide +kernel
theorem xn_102 : X_nL 102 = 2 := by decide +kernel
theorem xf_102 : X_na 102 = 1 ∧ X_ci 102 = 10 ∧ X_rt 102 = (some .int) := by decide +kernel
theorem xn_104 : X_nL 104 = 2 := by decide +kernel
theorem xf_104 : X_na 104 = 1 ∧ X_ci 104 = 10 ∧ X_rt 104 = (some .int) := by decide +kernel
theorem xn_105 : X_nL 105 = 4 := by decide +kernel
theorem xf_105 : X_na 105 = 2 ∧ X_ci 105 = 10 ∧ X_rt 105 = (some .int) := by decide +kernel
theorem xn_110 : X_nL 110 = 3 := by decide +kernel
theorem xf_110 : X_na 110 = 2 ∧ X_ci 110 = 10 ∧ X_rt 110 = (some .int) := by decide +kernel
theorem c_feed (sc : X_Sc) (S : X_S) (tb : Int → Int) (len : Int) (B2 : Nat) (B : Nat) (a : Int) (b : Int) (c : Int) (d : Int) (e : Int) (hO1 : S.1 1 = .inr (10, [.ref 2, .ref B, .ref B2, .ref 496, .ref 501, .ref 504, .ref 511, .ref 517, .ref 527])) (hO2 : S.1 2 = .inr (7, [.ref 3, .int (iI len)])) (hA3 : S.1 3 = .inl (.byte, 2000, .inl fun k : Nat => iI (tb (k : Int)))) (hl : 0 ≤ len ∧ len ≤ 2000) : X_T sc 101 (0, [(0, .ref 1), (1, .int (iI a)), (2, .int (iI b)), (3, .int (iI c)), (4, .int (iI d)), (5, .int (iI e))], [], S) (fun v S' => (v = some (.int (iI (-1))) ∧ 2000 < len + 20 ∧ S' = S) ∨ (v = some (.int (iI (len + 20))) ∧ len + 20 ≤ 2000 ∧ S'.1 2 = .inr (7, [.ref 3, .int (iI (len + 20))]) ∧ S'.1 3 = .inl (.byte, 2000, .inl fun k : Nat => iI ((X_fd5 tb len a b c d e) (k : Int))) ∧ (X_Fr (fun q => q = 3 ∨ q = 2) S S'))) := by
  refine X_QI (fun Q hQ => ?_)
  refine T_p xr_101_0 xn_101 (pc' := 1) (ls' := [(0, .ref 1), (1, .int (iI a)), (2, .int (iI b)), (3, .int (iI c)), (4, .int (iI d)), (5, .int (iI e))]) (st' := [.ref 1]) rfl ?_
  refine T_get xr_101_1 hO1 rfl (v := .ref 2) rfl (pc' := 4) rfl ?_
  refine T_get xr_101_4 hO2 rfl (v := .int (iI len)) rfl (pc' := 7) rfl ?_
  refine T_p xr_101_7 xn_101 (pc' := 9) (ls' := [(0, .ref 1), (1, .int (iI a)), (2, .int (iI b)), (3, .int (iI c)), (4, .int (iI d)), (5, .int (iI e))]) (st' := [.int (iI 20), .int (iI len)]) rfl ?_
  refine T_ziadd xr_101_9 (z := len + 20) rfl (pc' := 10) rfl ?_
  refine T_p xr_101_10 xn_101 (pc' := 13) (ls' := [(0, .ref 1), (1, .int (iI a)), (2, .int (iI b)), (3, .int (iI c)), (4, .int (iI d)), (5, .int (iI e))]) (st' := [.int (iI 2000), .int (iI (len + 20))]) rfl ?_
  refine T_zicmp_le xr_101_13 (t := 18) (pc' := 16) rfl rfl (fun c1866 => ?_) (fun c1866 => ?_)
  · skip
    have c1866 : (len + 20) ≤ 2000 := c1866
    refine T_p xr_101_18 xn_101 (pc' := 19) (ls' := [(0, .ref 1), (1, .int (iI a)), (2, .int (iI b)), (3, .int (iI c)), (4, .int (iI d)), (5, .int (iI e))]) (st' := [.ref 1]) rfl ?_
    refine T_get xr_101_19 hO1 rfl (v := .ref 2) rfl (pc' := 22) rfl ?_
    refine T_p xr_101_22 xn_101 (pc' := 23) (ls' := [(0, .ref 1), (1, .int (iI a)), (2, .int (iI b)), (3, .int (iI c)), (4, .int (iI d)), (5, .int (iI e))]) (st' := [.int (iI a), .ref 2]) rfl ?_
    refine T_cv (S := S) (q := 2) xr_101_23 xf_87.1 xf_87.2.1 xn_87 (as := [.int (iI a)]) (r := []) rfl hO2 (Nat.le_of_ble_eq_true rfl) (Nat.le_of_ble_eq_true rfl) (pc' := 26) rfl (ls' := [(0, .ref 2), (1, .int (iI a))]) rfl ?_
    refine T_mono (c_append sc S len a tb hO2 hA3 (by omega)) (fun v1867 S1868 h1869 => ?_)
    obtain ⟨hv1870, h1871, h1872, hf1873⟩ := h1869
    rw [hv1870]
    have h1874 : S1868.1 2 = .inr (7, [.ref 3, .int (iI (len + 4))]) := by rw [h1871, show len + 4 = len + 4 by omega]
    show X_T sc 101 (26, [(0, .ref 1), (1, .int (iI a)), (2, .int (iI b)), (3, .int (iI c)), (4, .int (iI d)), (5, .int (iI e))], [], S1868) _
    refine T_p xr_101_26 xn_101 (pc' := 27) (ls' := [(0, .ref 1), (1, .int (iI a)), (2, .int (iI b)), (3, .int (iI c)), (4, .int (iI d)), (5, .int (iI e))]) (st' := [.ref 1]) rfl ?_
    have h1875 := (hf1873.1 1 (by omega)).trans (hO1)
    refine T_get xr_101_27 h1875 rfl (v := .ref 2) rfl (pc' := 30) rfl ?_
    refine T_p xr_101_30 xn_101 (pc' := 31) (ls' := [(0, .ref 1), (1, .int (iI a)), (2, .int (iI b)), (3, .int (iI c)), (4, .int (iI d)), (5, .int (iI e))]) (st' := [.int (iI b), .ref 2]) rfl ?_
    refine T_cv (S := S1868) (q := 2) xr_101_31 xf_87.1 xf_87.2.1 xn_87 (as := [.int (iI b)]) (r := []) rfl h1874 (Nat.le_of_ble_eq_true rfl) (Nat.le_of_ble_eq_true rfl) (pc' := 34) rfl (ls' := [(0, .ref 2), (1, .int (iI b))]) rfl ?_
    refine T_mono (c_append sc S1868 (len + 4) b (X_ap4 tb len a) h1874 h1872 (by omega)) (fun v1876 S1877 h1878 => ?_)
    obtain ⟨hv1879, h1880, h1881, hf1882⟩ := h1878
    rw [hv1879]
    have h1883 : S1877.1 2 = .inr (7, [.ref 3, .int (iI (len + 8))]) := by rw [h1880, show len + 4 + 4 = len + 8 by omega]
    show X_T sc 101 (34, [(0, .ref 1), (1, .int (iI a)), (2, .int (iI b)), (3, .int (iI c)), (4, .int (iI d)), (5, .int (iI e))], [], S1877) _
    refine T_p xr_101_34 xn_101 (pc' := 35) (ls' := [(0, .ref 1), (1, .int (iI a)), (2, .int (iI b)), (3, .int (iI c)), (4, .int (iI d)), (5, .int (iI e))]) (st' := [.ref 1]) rfl ?_
    have h1884 := (hf1882.1 1 (by omega)).trans (h1875)
    refine T_get xr_101_35 h1884 rfl (v := .ref 2) rfl (pc' := 38) rfl ?_
    refine T_p xr_101_38 xn_101 (pc' := 39) (ls' := [(0, .ref 1), (1, .int (iI a)), (2, .int (iI b)), (3, .int (iI c)), (4, .int (iI d)), (5, .int (iI e))]) (st' := [.int (iI c), .ref 2]) rfl ?_
    refine T_cv (S := S1877) (q := 2) xr_101_39 xf_87.1 xf_87.2.1 xn_87 (as := [.int (iI c)]) (r := []) rfl h1883 (Nat.le_of_ble_eq_true rfl) (Nat.le_of_ble_eq_true rfl) (pc' := 42) rfl (ls' := [(0, .ref 2), (1, .int (iI c))]) rfl ?_
    refine T_mono (c_append sc S1877 (len + 8) c (X_ap4 (X_ap4 tb len a) (len + 4) b) h1883 h1881 (by omega)) (fun v1885 S1886 h1887 => ?_)
    obtain ⟨hv1888, h1889, h1890, hf1891⟩ := h1887
    rw [hv1888]
    have h1892 : S1886.1 2 = .inr (7, [.ref 3, .int (iI (len + 12))]) := by rw [h1889, show len + 8 + 4 = len + 12 by omega]
    show X_T sc 101 (42, [(0, .ref 1), (1, .int (iI a)), (2, .int (iI b)), (3, .int (iI c)), (4, .int (iI d)), (5, .int (iI e))], [], S1886) _
    refine T_p xr_101_42 xn_101 (pc' := 43) (ls' := [(0, .ref 1), (1, .int (iI a)), (2, .int (iI b)), (3, .int (iI c)), (4, .int (iI d)), (5, .int (iI e))]) (st' := [.ref 1]) rfl ?_
    have h1893 := (hf1891.1 1 (by omega)).trans (h1884)
    refine T_get xr_101_43 h1893 rfl (v := .ref 2) rfl (pc' := 46) rfl ?_
    refine T_p xr_101_46 xn_101 (pc' := 48) (ls' := [(0, .ref 1), (1, .int (iI a)), (2, .int (iI b)), (3, .int (iI c)), (4, .int (iI d)), (5, .int (iI e))]) (st' := [.int (iI d), .ref 2]) rfl ?_
    refine T_cv (S := S1886) (q := 2) xr_101_48 xf_87.1 xf_87.2.1 xn_87 (as := [.int (iI d)]) (r := []) rfl h1892 (Nat.le_of_ble_eq_true rfl) (Nat.le_of_ble_eq_true rfl) (pc' := 51) rfl (ls' := [(0, .ref 2), (1, .int (iI d))]) rfl ?_
    refine T_mono (c_append sc S1886 (len + 12) d (X_ap4 (X_ap4 (X_ap4 tb len a) (len + 4) b) (len + 8) c) h1892 h1890 (by omega)) (fun v1894 S1895 h1896 => ?_)
    obtain ⟨hv1897, h1898, h1899, hf1900⟩ := h1896
    rw [hv1897]
    have h1901 : S1895.1 2 = .inr (7, [.ref 3, .int (iI (len + 16))]) := by rw [h1898, show len + 12 + 4 = len + 16 by omega]
    show X_T sc 101 (51, [(0, .ref 1), (1, .int (iI a)), (2, .int (iI b)), (3, .int (iI c)), (4, .int (iI d)), (5, .int (iI e))], [], S1895) _
    refine T_p xr_101_51 xn_101 (pc' := 52) (ls' := [(0, .ref 1), (1, .int (iI a)), (2, .int (iI b)), (3, .int (iI c)), (4, .int (iI d)), (5, .int (iI e))]) (st' := [.ref 1]) rfl ?_
    have h1902 := (hf1900.1 1 (by omega)).trans (h1893)
    refine T_get xr_101_52 h1902 rfl (v := .ref 2) rfl (pc' := 55) rfl ?_
    refine T_p xr_101_55 xn_101 (pc' := 57) (ls' := [(0, .ref 1), (1, .int (iI a)), (2, .int (iI b)), (3, .int (iI c)), (4, .int (iI d)), (5, .int (iI e))]) (st' := [.int (iI e), .ref 2]) rfl ?_
    refine T_cv (S := S1895) (q := 2) xr_101_57 xf_87.1 xf_87.2.1 xn_87 (as := [.int (iI e)]) (r := []) rfl h1901 (Nat.le_of_ble_eq_true rfl) (Nat.le_of_ble_eq_true rfl) (pc' := 60) rfl (ls' := [(0, .ref 2), (1, .int (iI e))]) rfl ?_
    refine T_mono (c_append sc S1895 (len + 16) e (X_ap4 (X_ap4 (X_ap4 (X_ap4 tb len a) (len + 4) b) (len + 8) c) (len + 12) d) h1901 h1899 (by omega)) (fun v1903 S1904 h1905 => ?_)
    obtain ⟨hv1906, h1907, h1908, hf1909⟩ := h1905
    rw [hv1906]
    have h1910 : S1904.1 2 = .inr (7, [.ref 3, .int (iI (len + 20))]) := by rw [h1907, show len + 16 + 4 = len + 20 by omega]
    show X_T sc 101 (60, [(0, .ref 1), (1, .int (iI a)), (2, .int (iI b)), (3, .int (iI c)), (4, .int (iI d)), (5, .int (iI e))], [], S1904) _
    refine T_p xr_101_60 xn_101 (pc' := 61) (ls' := [(0, .ref 1), (1, .int (iI a)), (2, .int (iI b)), (3, .int (iI c)), (4, .int (iI d)), (5, .int (iI e))]) (st' := [.ref 1]) rfl ?_
    have h1911 := (hf1909.1 1 (by omega)).trans (h1902)
    refine T_get xr_101_61 h1911 rfl (v := .ref 2) rfl (pc' := 64) rfl ?_
    refine T_get xr_101_64 h1910 rfl (v := .int (iI (len + 20))) rfl (pc' := 67) rfl ?_
    refine T_iret xr_101_67 xf_101.2.2 rfl ?_
    refine hQ _ _ ?_
    exact Or.inr ⟨rfl, (by omega), h1910, h1908, (((((X_Fr.rf).tr (X_Fr.mono ⟨hf1873.1, hf1873.2⟩ (fun q hq => (by omega)))).tr (X_Fr.mono ⟨hf1882.1, hf1882.2⟩ (fun q hq => (by omega)))).tr (X_Fr.mono ⟨hf1891.1, hf1891.2⟩ (fun q hq => (by omega)))).tr (X_Fr.mono ⟨hf1900.1, hf1900.2⟩ (fun q hq => (by omega)))).tr (X_Fr.mono ⟨hf1909.1, hf1909.2⟩ (fun q hq => (by omega)))⟩
  · skip
    have c1866 : ¬ ((len + 20) ≤ 2000) := c1866
    refine T_p xr_101_16 xn_101 (pc' := 17) (ls' := [(0, .ref 1), (1, .int (iI a)), (2, .int (iI b)), (3, .int (iI c)), (4, .int (iI d)), (5, .int (iI e))]) (st' := [.int (iI (-1))]) rfl ?_
    refine T_iret xr_101_17 xf_101.2.2 rfl ?_
    refine hQ _ _ ?_
    exact Or.inl ⟨rfl, (by omega), rfl⟩
theorem c_end (sc : X_Sc) (S : X_S) (len : Int) (B2 : Nat) (B : Nat) (n : Int) (hO1 : S.1 1 = .inr (10, [.ref 2, .ref B, .ref B2, .ref 496, .ref 501, .ref 504, .ref 511, .ref 517, .ref 527])) (hO2 : S.1 2 = .inr (7, [.ref 3, .int (iI len)])) (hl : 0 ≤ len ∧ len ≤ 2000) (hn : -2147483648 ≤ n ∧ n ≤ 2147483647) : X_T sc 102 (0, [(0, .ref 1), (1, .int (iI n))], [], S) (fun v S' => (v = some (.int (iI (-1))) ∧ (n < 0 ∨ len < n) ∧ S' = S) ∨ (v = some (.int (iI n)) ∧ (0 ≤ n ∧ n ≤ len) ∧ S'.1 2 = .inr (7, [.ref 3, .int (iI n)]) ∧ X_Fr (fun q => q = 2) S S')) := by
  refine X_QI (fun Q hQ => ?_)
  refine T_p xr_102_0 xn_102 (pc' := 1) (ls' := [(0, .ref 1), (1, .int (iI n))]) (st' := [.int (iI n)]) rfl ?_
  refine T_zif_lt xr_102_1 (t := 15) (pc' := 4) rfl rfl (fun c1912 => ?_) (fun c1912 => ?_)
  · skip
    have c1912 : n < 0 := c1912
    refine T_p xr_102_15 xn_102 (pc' := 16) (ls' := [(0, .ref 1), (1, .int (iI n))]) (st' := [.int (iI (-1))]) rfl ?_
    refine T_iret xr_102_16 xf_102.2.2 rfl ?_
    refine hQ _ _ ?_
    exact Or.inl ⟨rfl, (by omega), rfl⟩
  · skip
    have c1912 : ¬ (n < 0) := c1912
    refine T_p xr_102_4 xn_102 (pc' := 5) (ls' := [(0, .ref 1), (1, .int (iI n))]) (st' := [.int (iI n)]) rfl ?_
    refine T_p xr_102_5 xn_102 (pc' := 6) (ls' := [(0, .ref 1), (1, .int (iI n))]) (st' := [.ref 1, .int (iI n)]) rfl ?_
    refine T_get xr_102_6 hO1 rfl (v := .ref 2) rfl (pc' := 9) rfl ?_
    refine T_get xr_102_9 hO2 rfl (v := .int (iI len)) rfl (pc' := 12) rfl ?_
    refine T_zicmp_le xr_102_12 (t := 17) (pc' := 15) rfl rfl (fun c1913 => ?_) (fun c1913 => ?_)
    · skip
      have c1913 : n ≤ len := c1913
      refine T_p xr_102_17 xn_102 (pc' := 18) (ls' := [(0, .ref 1), (1, .int (iI n))]) (st' := [.ref 1]) rfl ?_
      refine T_get xr_102_18 hO1 rfl (v := .ref 2) rfl (pc' := 21) rfl ?_
      refine T_p xr_102_21 xn_102 (pc' := 22) (ls' := [(0, .ref 1), (1, .int (iI n))]) (st' := [.int (iI n), .ref 2]) rfl ?_
      refine T_put xr_102_22 hO2 rfl (Nat.le_of_ble_eq_true rfl) rfl (fs' := [.ref 3, .int (iI n)]) rfl (pc' := 25) rfl (fun S1914 h1915 n1916 e1917 => ?_)
      refine T_p xr_102_25 xn_102 (pc' := 26) (ls' := [(0, .ref 1), (1, .int (iI n))]) (st' := [.int (iI n)]) rfl ?_
      refine T_iret xr_102_26 xf_102.2.2 rfl ?_
      refine hQ _ _ ?_
      exact Or.inr ⟨rfl, (by omega), h1915, (X_Fr.rf).tr (X_Fr.of n1916 e1917 (by omega))⟩
    · skip
      have c1913 : ¬ (n ≤ len) := c1913
      refine T_p xr_102_15 xn_102 (pc' := 16) (ls' := [(0, .ref 1), (1, .int (iI n))]) (st' := [.int (iI (-1))]) rfl ?_
      refine T_iret xr_102_16 xf_102.2.2 rfl ?_
      refine hQ _ _ ?_
      exact Or.inl ⟨rfl, (by omega), rfl⟩
theorem c_about (sc : X_Sc) (S : X_S) (B : Nat) (rc : Int) (rn : Int → Int64) (kn : Int → Int64) (G : X_G) (B2 : Nat) (tn : Int) (nc : Int) (len : Int) (w : Int) (hO1 : S.1 1 = .inr (10, [.ref 2, .ref B, .ref B2, .ref 496, .ref 501, .ref 504, .ref 511, .ref 517, .ref 527])) (hO2 : S.1 2 = .inr (7, [.ref 3, .int (iI len)])) (hO501 : S.1 501 = .inr (6, [.int (iI tn), .ref 502, .ref 503])) (hO504 : S.1 504 = .inr (5, [.int (iI nc), .ref 505, .ref 506, .ref 507, .ref 508, .ref 509, .ref 510])) (hB : B = 4 ∨ B = 250) (hb : C_bk S B rc (gk G) (gw G) rn (gl G) kn (ga G)) (hs : C_ws S B (gD G) (gW G)) (hw : -2147483648 ≤ w ∧ w ≤ 2147483647) : X_T sc 104 (0, [(0, .ref 1), (1, .int (iI w))], [], S) (fun v S' => v = some (.int (iI (X_qAb rc (gk G) (gw G) tn nc len w))) ∧ S' = S) := by
  obtain ⟨hb0, hb1, hb2, hb3, hb4, ⟨f, hb5, hf⟩, ⟨hrc, hrcb⟩, ⟨hkc, hkcb⟩, ⟨hwc, hwcb⟩⟩ := id hb
  refine X_QI (fun Q hQ => ?_)
  refine T_p xr_104_0 xn_104 (pc' := 1) (ls' := [(0, .ref 1), (1, .int (iI w))]) (st' := [.int (iI w)]) rfl ?_
  rcases (show w = 0 ∨ w = 1 ∨ w = 2 ∨ w = 3 ∨ w = 4 ∨ w = 5 ∨ (w < 0 ∨ 5 < w) by omega) with cs1918 | cs1918 | cs1918 | cs1918 | cs1918 | cs1918 | cs1918
  · skip
    refine T_tsk xr_104_1 cs1918 (by decide) (by decide) (off := 39) rfl (t := 40) rfl ?_
    refine T_p xr_104_40 xn_104 (pc' := 41) (ls' := [(0, .ref 1), (1, .int (iI w))]) (st' := [.ref 1]) rfl ?_
    refine T_get xr_104_41 hO1 rfl (v := .ref B) rfl (pc' := 44) rfl ?_
    refine T_get xr_104_44 hb0 rfl (v := .int (iI rc)) rfl (pc' := 47) rfl ?_
    refine T_iret xr_104_47 xf_104.2.2 rfl ?_
    refine hQ _ _ ?_
    exact ⟨(by rw [show X_qAb rc (gk G) (gw G) tn nc len w = rc from by unfold X_qAb; (repeat (first | rw [if_pos (by omega)] | rw [if_neg (by omega)]))]), rfl⟩
  · skip
    refine T_tsk xr_104_1 cs1918 (by decide) (by decide) (off := 47) rfl (t := 48) rfl ?_
    refine T_p xr_104_48 xn_104 (pc' := 49) (ls' := [(0, .ref 1), (1, .int (iI w))]) (st' := [.ref 1]) rfl ?_
    refine T_get xr_104_49 hO1 rfl (v := .ref B) rfl (pc' := 52) rfl ?_
    refine T_get xr_104_52 hb0 rfl (v := .int (iI (gk G))) rfl (pc' := 55) rfl ?_
    refine T_iret xr_104_55 xf_104.2.2 rfl ?_
    refine hQ _ _ ?_
    exact ⟨(by rw [show X_qAb rc (gk G) (gw G) tn nc len w = gk G from by unfold X_qAb; (repeat (first | rw [if_pos (by omega)] | rw [if_neg (by omega)]))]), rfl⟩
  · skip
    refine T_tsk xr_104_1 cs1918 (by decide) (by decide) (off := 55) rfl (t := 56) rfl ?_
    refine T_p xr_104_56 xn_104 (pc' := 57) (ls' := [(0, .ref 1), (1, .int (iI w))]) (st' := [.ref 1]) rfl ?_
    refine T_get xr_104_57 hO1 rfl (v := .ref B) rfl (pc' := 60) rfl ?_
    refine T_get xr_104_60 hb0 rfl (v := .int (iI (gw G))) rfl (pc' := 63) rfl ?_
    refine T_iret xr_104_63 xf_104.2.2 rfl ?_
    refine hQ _ _ ?_
    exact ⟨(by rw [show X_qAb rc (gk G) (gw G) tn nc len w = gw G from by unfold X_qAb; (repeat (first | rw [if_pos (by omega)] | rw [if_neg (by omega)]))]), rfl⟩
  · skip
    refine T_tsk xr_104_1 cs1918 (by decide) (by decide) (off := 63) rfl (t := 64) rfl ?_
    refine T_p xr_104_64 xn_104 (pc' := 65) (ls' := [(0, .ref 1), (1, .int (iI w))]) (st' := [.ref 1]) rfl ?_
    refine T_get xr_104_65 hO1 rfl (v := .ref 501) rfl (pc' := 68) rfl ?_
    refine T_get xr_104_68 hO501 rfl (v := .int (iI tn)) rfl (pc' := 71) rfl ?_
    refine T_iret xr_104_71 xf_104.2.2 rfl ?_
    refine hQ _ _ ?_
    exact ⟨(by rw [show X_qAb rc (gk G) (gw G) tn nc len w = tn from by unfold X_qAb; (repeat (first | rw [if_pos (by omega)] | rw [if_neg (by omega)]))]), rfl⟩
  · skip
    refine T_tsk xr_104_1 cs1918 (by decide) (by decide) (off := 71) rfl (t := 72) rfl ?_
    refine T_p xr_104_72 xn_104 (pc' := 73) (ls' := [(0, .ref 1), (1, .int (iI w))]) (st' := [.ref 1]) rfl ?_
    refine T_get xr_104_73 hO1 rfl (v := .ref 504) rfl (pc' := 76) rfl ?_
    refine T_get xr_104_76 hO504 rfl (v := .int (iI nc)) rfl (pc' := 79) rfl ?_
    refine T_iret xr_104_79 xf_104.2.2 rfl ?_
    refine hQ _ _ ?_
    exact ⟨(by rw [show X_qAb rc (gk G) (gw G) tn nc len w = nc from by unfold X_qAb; (repeat (first | rw [if_pos (by omega)] | rw [if_neg (by omega)]))]), rfl⟩
  · skip
    refine T_tsk xr_104_1 cs1918 (by decide) (by decide) (off := 79) rfl (t := 80) rfl ?_
    refine T_p xr_104_80 xn_104 (pc' := 81) (ls' := [(0, .ref 1), (1, .int (iI w))]) (st' := [.ref 1]) rfl ?_
    refine T_get xr_104_81 hO1 rfl (v := .ref 2) rfl (pc' := 84) rfl ?_
    refine T_get xr_104_84 hO2 rfl (v := .int (iI len)) rfl (pc' := 87) rfl ?_
    refine T_iret xr_104_87 xf_104.2.2 rfl ?_
    refine hQ _ _ ?_
    exact ⟨(by rw [show X_qAb rc (gk G) (gw G) tn nc len w = len from by unfold X_qAb; (repeat (first | rw [if_pos (by omega)] | rw [if_neg (by omega)]))]), rfl⟩
  · skip
    refine T_tsd xr_104_1 cs1918 (by omega) (t := 88) rfl ?_
    refine T_p xr_104_88 xn_104 (pc' := 89) (ls' := [(0, .ref 1), (1, .int (iI w))]) (st' := [.int (iI (-1))]) rfl ?_
    refine T_iret xr_104_89 xf_104.2.2 rfl ?_
    refine hQ _ _ ?_
    exact ⟨(by rw [show X_qAb rc (gk G) (gw G) tn nc len w = (-1) from by unfold X_qAb; (repeat (first | rw [if_pos (by omega)] | rw [if_neg (by omega)]))]), rfl⟩
theorem c_word (sc : X_Sc) (S : X_S) (B : Nat) (rc : Int) (rn : Int → Int64) (kn : Int → Int64) (G : X_G) (B2 : Nat) (w : Int) (wh : Int) (hO1 : S.1 1 = .inr (10, [.ref 2, .ref B, .ref B2, .ref 496, .ref 501, .ref 504, .ref 511, .ref 517, .ref 527])) (hB : B = 4 ∨ B = 250) (hb : C_bk S B rc (gk G) (gw G) rn (gl G) kn (ga G)) (hs : C_ws S B (gD G) (gW G)) (hw : -2147483648 ≤ w ∧ w ≤ 2147483647) (hwh : -2147483648 ≤ wh ∧ wh ≤ 2147483647) : X_T sc 105 (0, [(0, .ref 1), (1, .int (iI w)), (2, .int (iI wh))], [], S) (fun v S' => v = some (.int (iI (X_qWd G w wh))) ∧ S' = S) := by
  obtain ⟨hb0, hb1, hb2, hb3, hb4, ⟨f, hb5, hf⟩, ⟨hrc, hrcb⟩, ⟨hkc, hkcb⟩, ⟨hwc, hwcb⟩⟩ := id hb
  refine X_QI (fun Q hQ => ?_)
  refine T_p xr_105_0 xn_105 (pc' := 1) (ls' := [(0, .ref 1), (1, .int (iI w)), (2, .int (iI wh))]) (st' := [.ref 1]) rfl ?_
  refine T_get xr_105_1 hO1 rfl (v := .ref B) rfl (pc' := 4) rfl ?_
  refine T_p xr_105_4 xn_105 (pc' := 5) (ls' := [(0, .ref 1), (1, .int (iI w)), (2, .int (iI wh))]) (st' := [.int (iI w), .ref B]) rfl ?_
  refine T_cv (S := S) (q := B) xr_105_5 xf_3.1 xf_3.2.1 xn_3 (as := [.int (iI w)]) (r := []) rfl hb0 (Nat.le_of_ble_eq_true rfl) (Nat.le_of_ble_eq_true rfl) (pc' := 8) rfl (ls' := [(0, .ref B), (1, .int (iI w))]) rfl ?_
  refine T_mono (c_hasWord sc S B rc (gk G) (gw G) rn (gl G) kn (ga G) w ⟨hb0, hb1, hb2, hb3, hb4, ⟨f, hb5, hf⟩, ⟨by omega, by omega⟩, ⟨by omega, by omega⟩, ⟨by omega, by omega⟩⟩ (by omega)) (fun v1920 S1921 h1919 => ?_)
  obtain ⟨h1922, h1923⟩ := h1919
  rw [h1922, h1923]
  show X_T sc 105 (8, [(0, .ref 1), (1, .int (iI w)), (2, .int (iI wh))], [.int (iI (bI (0 ≤ w ∧ w < (gw G))))], S) _
  refine T_bif_ne xr_105_8 (t := 13) (pc' := 11) rfl rfl (fun c1924 => ?_) (fun c1924 => ?_)
  · skip
    have c1924 : (0 ≤ w ∧ w < (gw G)) := c1924
    refine T_p xr_105_13 xn_105 (pc' := 14) (ls' := [(0, .ref 1), (1, .int (iI w)), (2, .int (iI wh))]) (st' := [.ref 1]) rfl ?_
    refine T_get xr_105_14 hO1 rfl (v := .ref B) rfl (pc' := 17) rfl ?_
    refine T_get xr_105_17 hb0 rfl (v := .ref (B + 5)) rfl (pc' := 20) rfl ?_
    refine T_p xr_105_20 xn_105 (pc' := 21) (ls' := [(0, .ref 1), (1, .int (iI w)), (2, .int (iI wh))]) (st' := [.int (iI w), .ref (B + 5)]) rfl ?_
    have hwaw := hs w (by omega) (by omega)
    obtain ⟨aw, haaw⟩ : ∃ z : Nat, z = B + 6 + 8 * (w : Int).toNat := ⟨_, rfl⟩
    rw [← haaw] at hwaw
    obtain ⟨⟨_, _⟩, ⟨_, _⟩, ⟨_, _⟩, ⟨_, _⟩, ⟨_, _⟩, ⟨_, _⟩, ⟨_, _⟩, ⟨_, _⟩⟩ := id hwaw.2
    refine T_zaald xr_105_21 hb5 (w := aw) (by rw [haaw]; exact hf _ (by omega)) (pc' := 22) rfl ?_
    refine T_p xr_105_22 xn_105 (pc' := 23) (ls' := [(3, .ref aw), (0, .ref 1), (1, .int (iI w)), (2, .int (iI wh))]) (st' := []) rfl ?_
    refine T_p xr_105_23 xn_105 (pc' := 24) (ls' := [(3, .ref aw), (0, .ref 1), (1, .int (iI w)), (2, .int (iI wh))]) (st' := [.int (iI wh)]) rfl ?_
    rcases (show wh = 0 ∨ wh = 1 ∨ wh = 2 ∨ wh = 3 ∨ wh = 4 ∨ wh = 5 ∨ wh = 6 ∨ (wh < 0 ∨ 6 < wh) by omega) with cs1928 | cs1928 | cs1928 | cs1928 | cs1928 | cs1928 | cs1928 | cs1928
    · skip
      refine T_tsk xr_105_24 cs1928 (by decide) (by decide) (off := 44) rfl (t := 68) rfl ?_
      refine T_p xr_105_68 xn_105 (pc' := 69) (ls' := [(3, .ref aw), (0, .ref 1), (1, .int (iI w)), (2, .int (iI wh))]) (st' := [.ref aw]) rfl ?_
      refine T_get xr_105_69 hwaw.1.1 rfl (v := .int (iI ((gD G) w 0 0))) rfl (pc' := 72) rfl ?_
      refine T_iret xr_105_72 xf_105.2.2 rfl ?_
      refine hQ _ _ ?_
      exact ⟨(by rw [show X_qWd G w wh = (gD G) w 0 0 from by unfold X_qWd; (repeat (first | rw [if_pos (by omega)] | rw [if_neg (by omega)]))]), rfl⟩
    · skip
      refine T_tsk xr_105_24 cs1928 (by decide) (by decide) (off := 49) rfl (t := 73) rfl ?_
      refine T_p xr_105_73 xn_105 (pc' := 74) (ls' := [(3, .ref aw), (0, .ref 1), (1, .int (iI w)), (2, .int (iI wh))]) (st' := [.ref aw]) rfl ?_
      refine T_get xr_105_74 hwaw.1.1 rfl (v := .int (iI ((gD G) w 1 0))) rfl (pc' := 77) rfl ?_
      refine T_iret xr_105_77 xf_105.2.2 rfl ?_
      refine hQ _ _ ?_
      exact ⟨(by rw [show X_qWd G w wh = (gD G) w 1 0 from by unfold X_qWd; (repeat (first | rw [if_pos (by omega)] | rw [if_neg (by omega)]))]), rfl⟩
    · skip
      refine T_tsk xr_105_24 cs1928 (by decide) (by decide) (off := 54) rfl (t := 78) rfl ?_
      refine T_p xr_105_78 xn_105 (pc' := 79) (ls' := [(3, .ref aw), (0, .ref 1), (1, .int (iI w)), (2, .int (iI wh))]) (st' := [.ref aw]) rfl ?_
      refine T_get xr_105_79 hwaw.1.1 rfl (v := .int (iI ((gD G) w 2 0))) rfl (pc' := 82) rfl ?_
      refine T_iret xr_105_82 xf_105.2.2 rfl ?_
      refine hQ _ _ ?_
      exact ⟨(by rw [show X_qWd G w wh = (gD G) w 2 0 from by unfold X_qWd; (repeat (first | rw [if_pos (by omega)] | rw [if_neg (by omega)]))]), rfl⟩
    · skip
      refine T_tsk xr_105_24 cs1928 (by decide) (by decide) (off := 59) rfl (t := 83) rfl ?_
      refine T_p xr_105_83 xn_105 (pc' := 84) (ls' := [(3, .ref aw), (0, .ref 1), (1, .int (iI w)), (2, .int (iI wh))]) (st' := [.ref aw]) rfl ?_
      refine T_get xr_105_84 hwaw.1.1 rfl (v := .int (iI ((gD G) w 3 0))) rfl (pc' := 87) rfl ?_
      refine T_iret xr_105_87 xf_105.2.2 rfl ?_
      refine hQ _ _ ?_
      exact ⟨(by rw [show X_qWd G w wh = (gD G) w 3 0 from by unfold X_qWd; (repeat (first | rw [if_pos (by omega)] | rw [if_neg (by omega)]))]), rfl⟩
    · skip
      refine T_tsk xr_105_24 cs1928 (by decide) (by decide) (off := 64) rfl (t := 88) rfl ?_
      refine T_p xr_105_88 xn_105 (pc' := 89) (ls' := [(3, .ref aw), (0, .ref 1), (1, .int (iI w)), (2, .int (iI wh))]) (st' := [.ref aw]) rfl ?_
      refine T_get xr_105_89 hwaw.1.1 rfl (v := .int (iI ((gD G) w 4 0))) rfl (pc' := 92) rfl ?_
      refine T_iret xr_105_92 xf_105.2.2 rfl ?_
      refine hQ _ _ ?_
      exact ⟨(by rw [show X_qWd G w wh = (gD G) w 4 0 from by unfold X_qWd; (repeat (first | rw [if_pos (by omega)] | rw [if_neg (by omega)]))]), rfl⟩
    · skip
      refine T_tsk xr_105_24 cs1928 (by decide) (by decide) (off := 69) rfl (t := 93) rfl ?_
      refine T_p xr_105_93 xn_105 (pc' := 94) (ls' := [(3, .ref aw), (0, .ref 1), (1, .int (iI w)), (2, .int (iI wh))]) (st' := [.ref aw]) rfl ?_
      refine T_cv (S := S) (q := aw) xr_105_94 xf_96.1 xf_96.2.1 xn_96 (as := []) (r := []) rfl hwaw.1.1 (Nat.le_of_ble_eq_true rfl) (Nat.le_of_ble_eq_true rfl) (pc' := 97) rfl (ls' := [(0, .ref aw)]) rfl ?_
      refine T_mono (c_ends sc S aw ((gD G) w) ((gW G) w) ⟨hwaw.1.1, hwaw.1.2.1, hwaw.1.2.2.1, hwaw.1.2.2.2.1, hwaw.1.2.2.2.2.1, hwaw.1.2.2.2.2.2.1, hwaw.1.2.2.2.2.2.2.1, hwaw.1.2.2.2.2.2.2.2⟩ hwaw.2) (fun v1930 S1931 h1929 => ?_)
      obtain ⟨h1932, h1933⟩ := h1929
      rw [h1932, h1933]
      show X_T sc 105 (97, [(3, .ref aw), (0, .ref 1), (1, .int (iI w)), (2, .int (iI wh))], [.int (iI (X_en ((gD G) w) ((gW G) w)))], S) _
      refine T_iret xr_105_97 xf_105.2.2 rfl ?_
      refine hQ _ _ ?_
      exact ⟨(by rw [show X_qWd G w wh = X_en ((gD G) w) ((gW G) w) from by unfold X_qWd; (repeat (first | rw [if_pos (by omega)] | rw [if_neg (by omega)]))]), rfl⟩
    · skip
      refine T_tsk xr_105_24 cs1928 (by decide) (by decide) (off := 74) rfl (t := 98) rfl ?_
      refine T_p xr_105_98 xn_105 (pc' := 99) (ls' := [(3, .ref aw), (0, .ref 1), (1, .int (iI w)), (2, .int (iI wh))]) (st' := [.ref aw]) rfl ?_
      refine T_get xr_105_99 hwaw.1.1 rfl (v := .int (iI ((gD G) w 5 0))) rfl (pc' := 102) rfl ?_
      refine T_iret xr_105_102 xf_105.2.2 rfl ?_
      refine hQ _ _ ?_
      exact ⟨(by rw [show X_qWd G w wh = (gD G) w 5 0 from by unfold X_qWd; (repeat (first | rw [if_pos (by omega)] | rw [if_neg (by omega)]))]), rfl⟩
    · skip
      refine T_tsd xr_105_24 cs1928 (by omega) (t := 103) rfl ?_
      refine T_p xr_105_103 xn_105 (pc' := 104) (ls' := [(3, .ref aw), (0, .ref 1), (1, .int (iI w)), (2, .int (iI wh))]) (st' := [.int (iI (-1))]) rfl ?_
      refine T_iret xr_105_104 xf_105.2.2 rfl ?_
      refine hQ _ _ ?_
      exact ⟨(by rw [show X_qWd G w wh = (-1) from by unfold X_qWd; (repeat (first | rw [if_pos (by omega)] | rw [if_neg (by omega)]))]), rfl⟩
  · skip
    have c1924 : ¬ (0 ≤ w ∧ w < (gw G)) := c1924
    refine T_p xr_105_11 xn_105 (pc' := 12) (ls' := [(0, .ref 1), (1, .int (iI w)), (2, .int (iI wh))]) (st' := [.int (iI (-1))]) rfl ?_
    refine T_iret xr_105_12 xf_105.2.2 rfl ?_
    refine hQ _ _ ?_
    exact ⟨(by rw [show X_qWd G w wh = (-1) from by unfold X_qWd; (repeat (first | rw [if_pos (by omega)] | rw [if_neg (by omega)]))]), rfl⟩
theorem c_node (sc : X_Sc) (S : X_S) (nW : Int → Int) (nF : Int → Int) (nL : Int → Int) (nP : Int → Int) (nH : Int → Int) (B2 : Nat) (B : Nat) (nc : Int) (N : Int → Int → Int) (n : Int) (wh : Int) (hO1 : S.1 1 = .inr (10, [.ref 2, .ref B, .ref B2, .ref 496, .ref 501, .ref 504, .ref 511, .ref 517, .ref 527])) (hO504 : S.1 504 = .inr (5, [.int (iI nc), .ref 505, .ref 506, .ref 507, .ref 508, .ref 509, .ref 510])) (hA505 : S.1 505 = .inl (.int, 30, .inl fun k : Nat => iI (nW (k : Int)))) (hA506 : S.1 506 = .inl (.int, 30, .inl fun k : Nat => iI (nF (k : Int)))) (hA507 : S.1 507 = .inl (.int, 30, .inl fun k : Nat => iI (nL (k : Int)))) (hA508 : S.1 508 = .inl (.int, 30, .inl fun k : Nat => iI (nP (k : Int)))) (hA509 : S.1 509 = .inl (.int, 30, .inl fun k : Nat => iI (nH (k : Int)))) (hn : -2147483648 ≤ n ∧ n ≤ 2147483647) (hwh : -2147483648 ≤ wh ∧ wh ≤ 2147483647) (hnc : 0 ≤ nc ∧ nc ≤ 30) (hnd : F_nd nc N nW nF nL nP nH) : X_T sc 110 (0, [(0, .ref 1), (1, .int (iI n)), (2, .int (iI wh))], [], S) (fun v S' => v = some (.int (iI (X_qNd nc N n wh))) ∧ S' = S) := by
  refine X_QI (fun Q hQ => ?_)
  refine T_p xr_110_0 xn_110 (pc' := 1) (ls' := [(0, .ref 1), (1, .int (iI n)), (2, .int (iI wh))]) (st' := [.int (iI n)]) rfl ?_
  refine T_zif_lt xr_110_1 (t := 15) (pc' := 4) rfl rfl (fun c1934 => ?_) (fun c1934 => ?_)
  · skip
    have c1934 : n < 0 := c1934
    refine T_p xr_110_15 xn_110 (pc' := 16) (ls' := [(0, .ref 1), (1, .int (iI n)), (2, .int (iI wh))]) (st' := [.int (iI (-1))]) rfl ?_
    refine T_iret xr_110_16 xf_110.2.2 rfl ?_
    refine hQ _ _ ?_
    exact ⟨(by rw [show X_qNd nc N n wh = (-1) from by unfold X_qNd; (repeat (first | rw [if_pos (by omega)] | rw [if_neg (by omega)]))]), rfl⟩
  · skip
    have c1934 : ¬ (n < 0) := c1934
    refine T_p xr_110_4 xn_110 (pc' := 5) (ls' := [(0, .ref 1), (1, .int (iI n)), (2, .int (iI wh))]) (st' := [.int (iI n)]) rfl ?_
    refine T_p xr_110_5 xn_110 (pc' := 6) (ls' := [(0, .ref 1), (1, .int (iI n)), (2, .int (iI wh))]) (st' := [.ref 1, .int (iI n)]) rfl ?_
    refine T_get xr_110_6 hO1 rfl (v := .ref 504) rfl (pc' := 9) rfl ?_
    refine T_get xr_110_9 hO504 rfl (v := .int (iI nc)) rfl (pc' := 12) rfl ?_
    refine T_zicmp_lt xr_110_12 (t := 17) (pc' := 15) rfl rfl (fun c1935 => ?_) (fun c1935 => ?_)
    · skip
      have c1935 : n < nc := c1935
      refine T_p xr_110_17 xn_110 (pc' := 18) (ls' := [(0, .ref 1), (1, .int (iI n)), (2, .int (iI wh))]) (st' := [.int (iI wh)]) rfl ?_
      rcases (show wh = 0 ∨ wh = 1 ∨ wh = 2 ∨ wh = 3 ∨ wh = 4 ∨ (wh < 0 ∨ 4 < wh) by omega) with cs1936 | cs1936 | cs1936 | cs1936 | cs1936 | cs1936
      · skip
        refine T_tsk xr_110_18 cs1936 (by decide) (by decide) (off := 34) rfl (t := 52) rfl ?_
        refine T_p xr_110_52 xn_110 (pc' := 53) (ls' := [(0, .ref 1), (1, .int (iI n)), (2, .int (iI wh))]) (st' := [.ref 1]) rfl ?_
        refine T_get xr_110_53 hO1 rfl (v := .ref 504) rfl (pc' := 56) rfl ?_
        refine T_get xr_110_56 hO504 rfl (v := .ref 505) rfl (pc' := 59) rfl ?_
        refine T_p xr_110_59 xn_110 (pc' := 60) (ls' := [(0, .ref 1), (1, .int (iI n)), (2, .int (iI wh))]) (st' := [.int (iI n), .ref 505]) rfl ?_
        refine T_ziald xr_110_60 hA505 (pc' := 61) rfl ?_
        refine T_iret xr_110_61 xf_110.2.2 rfl ?_
        refine hQ _ _ ?_
        exact ⟨(by rw [show X_qNd nc N n wh = N 0 n from by unfold X_qNd; (repeat (first | rw [if_pos (by omega)] | rw [if_neg (by omega)]))]; rw [(hnd n (by omega) (by omega)).1]), rfl⟩
      · skip
        refine T_tsk xr_110_18 cs1936 (by decide) (by decide) (off := 44) rfl (t := 62) rfl ?_
        refine T_p xr_110_62 xn_110 (pc' := 63) (ls' := [(0, .ref 1), (1, .int (iI n)), (2, .int (iI wh))]) (st' := [.ref 1]) rfl ?_
        refine T_get xr_110_63 hO1 rfl (v := .ref 504) rfl (pc' := 66) rfl ?_
        refine T_get xr_110_66 hO504 rfl (v := .ref 506) rfl (pc' := 69) rfl ?_
        refine T_p xr_110_69 xn_110 (pc' := 70) (ls' := [(0, .ref 1), (1, .int (iI n)), (2, .int (iI wh))]) (st' := [.int (iI n), .ref 506]) rfl ?_
        refine T_ziald xr_110_70 hA506 (pc' := 71) rfl ?_
        refine T_iret xr_110_71 xf_110.2.2 rfl ?_
        refine hQ _ _ ?_
        exact ⟨(by rw [show X_qNd nc N n wh = N 1 n from by unfold X_qNd; (repeat (first | rw [if_pos (by omega)] | rw [if_neg (by omega)]))]; rw [(hnd n (by omega) (by omega)).2.1]), rfl⟩
      · skip
        refine T_tsk xr_110_18 cs1936 (by decide) (by decide) (off := 54) rfl (t := 72) rfl ?_
        refine T_p xr_110_72 xn_110 (pc' := 73) (ls' := [(0, .ref 1), (1, .int (iI n)), (2, .int (iI wh))]) (st' := [.ref 1]) rfl ?_
        refine T_get xr_110_73 hO1 rfl (v := .ref 504) rfl (pc' := 76) rfl ?_
        refine T_get xr_110_76 hO504 rfl (v := .ref 507) rfl (pc' := 79) rfl ?_
        refine T_p xr_110_79 xn_110 (pc' := 80) (ls' := [(0, .ref 1), (1, .int (iI n)), (2, .int (iI wh))]) (st' := [.int (iI n), .ref 507]) rfl ?_
        refine T_ziald xr_110_80 hA507 (pc' := 81) rfl ?_
        refine T_iret xr_110_81 xf_110.2.2 rfl ?_
        refine hQ _ _ ?_
        exact ⟨(by rw [show X_qNd nc N n wh = N 2 n from by unfold X_qNd; (repeat (first | rw [if_pos (by omega)] | rw [if_neg (by omega)]))]; rw [(hnd n (by omega) (by omega)).2.2.1]), rfl⟩
      · skip
        refine T_tsk xr_110_18 cs1936 (by decide) (by decide) (off := 64) rfl (t := 82) rfl ?_
        refine T_p xr_110_82 xn_110 (pc' := 83) (ls' := [(0, .ref 1), (1, .int (iI n)), (2, .int (iI wh))]) (st' := [.ref 1]) rfl ?_
        refine T_get xr_110_83 hO1 rfl (v := .ref 504) rfl (pc' := 86) rfl ?_
        refine T_get xr_110_86 hO504 rfl (v := .ref 508) rfl (pc' := 89) rfl ?_
        refine T_p xr_110_89 xn_110 (pc' := 90) (ls' := [(0, .ref 1), (1, .int (iI n)), (2, .int (iI wh))]) (st' := [.int (iI n), .ref 508]) rfl ?_
        refine T_ziald xr_110_90 hA508 (pc' := 91) rfl ?_
        refine T_iret xr_110_91 xf_110.2.2 rfl ?_
        refine hQ _ _ ?_
        exact ⟨(by rw [show X_qNd nc N n wh = N 3 n from by unfold X_qNd; (repeat (first | rw [if_pos (by omega)] | rw [if_neg (by omega)]))]; rw [(hnd n (by omega) (by omega)).2.2.2.1]), rfl⟩
      · skip
        refine T_tsk xr_110_18 cs1936 (by decide) (by decide) (off := 74) rfl (t := 92) rfl ?_
        refine T_p xr_110_92 xn_110 (pc' := 93) (ls' := [(0, .ref 1), (1, .int (iI n)), (2, .int (iI wh))]) (st' := [.ref 1]) rfl ?_
        refine T_get xr_110_93 hO1 rfl (v := .ref 504) rfl (pc' := 96) rfl ?_
        refine T_get xr_110_96 hO504 rfl (v := .ref 509) rfl (pc' := 99) rfl ?_
        refine T_p xr_110_99 xn_110 (pc' := 100) (ls' := [(0, .ref 1), (1, .int (iI n)), (2, .int (iI wh))]) (st' := [.int (iI n), .ref 509]) rfl ?_
        refine T_ziald xr_110_100 hA509 (pc' := 101) rfl ?_
        refine T_iret xr_110_101 xf_110.2.2 rfl ?_
        refine hQ _ _ ?_
        exact ⟨(by rw [show X_qNd nc N n wh = N 4 n from by unfold X_qNd; (repeat (first | rw [if_pos (by omega)] | rw [if_neg (by omega)]))]; rw [(hnd n (by omega) (by omega)).2.2.2.2]), rfl⟩
      · skip
        refine T_tsd xr_110_18 cs1936 (by omega) (t := 102) rfl ?_
        refine T_p xr_110_102 xn_110 (pc' := 103) (ls' := [(0, .ref 1), (1, .int (iI n)), (2, .int (iI wh))]) (st' := [.int (iI (-1))]) rfl ?_
        refine T_iret xr_110_103 xf_110.2.2 rfl ?_
        refine hQ _ _ ?_
        exact ⟨(by rw [show X_qNd nc N n wh = (-1) from by unfold X_qNd; (repeat (first | rw [if_pos (by omega)] | rw [if_neg (by omega)]))]), rfl⟩
    · skip
      have c1935 : ¬ (n < nc) := c1935
      refine T_p xr_110_15 xn_110 (pc' := 16) (ls' := [(0, .ref 1), (1, .int (iI n)), (2, .int (iI wh))]) (st' := [.int (iI (-1))]) rfl ?_
      refine T_iret xr_110_16 xf_110.2.2 rfl ?_
      refine hQ _ _ ?_
      exact ⟨(by rw [show X_qNd nc N n wh = (-1) from by unfold X_qNd; (repeat (first | rw [if_pos (by omega)] | rw [if_neg (by omega)]))]), rfl⟩
