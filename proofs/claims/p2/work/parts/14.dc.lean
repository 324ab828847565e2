theorem xr_105_0 : X_row 105 0 = some (0, (.aload_n 0, 1), (0, 0, 0)) := by decide +kernel
theorem xr_105_1 : X_row 105 1 = some (1, (.iconst 0, 1), (0, 0, 0)) := by decide +kernel
theorem xr_105_2 : X_row 105 2 = some (2, (.putfield 9, 3), (9, 2, 24)) := by decide +kernel
theorem xr_105_5 : X_row 105 5 = some (5, (.aload_n 0, 1), (0, 0, 0)) := by decide +kernel
theorem xr_105_6 : X_row 105 6 = some (6, (.iconst (-1), 1), (0, 0, 0)) := by decide +kernel
theorem xr_105_7 : X_row 105 7 = some (7, (.putfield 15, 3), (9, 3, 26)) := by decide +kernel
theorem xr_105_10 : X_row 105 10 = some (10, (.return_, 1), (0, 0, 0)) := by decide +kernel
theorem xr_106_0 : X_row 106 0 = some (0, (.aload_n 0, 1), (0, 0, 0)) := by decide +kernel
theorem xr_106_1 : X_row 106 1 = some (1, (.invokevirtual 36, 3), (105, 0, 0)) := by decide +kernel
theorem xr_106_4 : X_row 106 4 = some (4, (.iconst 1, 1), (0, 0, 0)) := by decide +kernel
theorem xr_106_5 : X_row 106 5 = some (5, (.istore_n 2, 1), (0, 0, 0)) := by decide +kernel
theorem xr_106_6 : X_row 106 6 = some (6, (.iload_n 2, 1), (0, 0, 0)) := by decide +kernel
theorem xr_106_7 : X_row 106 7 = some (7, (.aload_n 0, 1), (0, 0, 0)) := by decide +kernel
theorem xr_106_8 : X_row 106 8 = some (8, (.getfield 32, 3), (9, 1, 22)) := by decide +kernel
theorem xr_106_11 : X_row 106 11 = some (11, (.getfield 39, 3), (5, 0, 13)) := by decide +kernel
theorem xr_106_14 : X_row 106 14 = some (14, (.if_icmp .gt 96, 3), (0, 0, 0)) := by decide +kernel
theorem xr_106_17 : X_row 106 17 = some (17, (.iload_n 2, 1), (0, 0, 0)) := by decide +kernel
theorem xr_106_18 : X_row 106 18 = some (18, (.aload_n 0, 1), (0, 0, 0)) := by decide +kernel
theorem xr_106_19 : X_row 106 19 = some (19, (.getfield 32, 3), (9, 1, 22)) := by decide +kernel
theorem xr_106_22 : X_row 106 22 = some (22, (.getfield 39, 3), (5, 0, 13)) := by decide +kernel
theorem xr_106_25 : X_row 106 25 = some (25, (.if_icmp .ge 15, 3), (0, 0, 0)) := by decide +kernel
theorem xr_106_28 : X_row 106 28 = some (28, (.aload_n 0, 1), (0, 0, 0)) := by decide +kernel
theorem xr_106_29 : X_row 106 29 = some (29, (.getfield 32, 3), (9, 1, 22)) := by decide +kernel
theorem xr_106_32 : X_row 106 32 = some (32, (.getfield 44, 3), (5, 4, 19)) := by decide +kernel
theorem xr_106_35 : X_row 106 35 = some (35, (.iload_n 2, 1), (0, 0, 0)) := by decide +kernel
theorem xr_106_36 : X_row 106 36 = some (36, (.iaload, 1), (0, 0, 0)) := by decide +kernel
theorem xr_106_37 : X_row 106 37 = some (37, (.goto 4, 3), (0, 0, 0)) := by decide +kernel
theorem xr_106_40 : X_row 106 40 = some (40, (.iconst (-1), 1), (0, 0, 0)) := by decide +kernel
theorem xr_106_41 : X_row 106 41 = some (41, (.istore_n 3, 1), (0, 0, 0)) := by decide +kernel
theorem xr_106_42 : X_row 106 42 = some (42, (.iload_n 2, 1), (0, 0, 0)) := by decide +kernel
theorem xr_106_43 : X_row 106 43 = some (43, (.iconst 1, 1), (0, 0, 0)) := by decide +kernel
theorem xr_106_44 : X_row 106 44 = some (44, (.isub, 1), (0, 0, 0)) := by decide +kernel
theorem xr_106_45 : X_row 106 45 = some (45, (.istore 4, 2), (0, 0, 0)) := by decide +kernel
theorem xr_106_47 : X_row 106 47 = some (47, (.iconst 0, 1), (0, 0, 0)) := by decide +kernel
theorem xr_106_48 : X_row 106 48 = some (48, (.istore 5, 2), (0, 0, 0)) := by decide +kernel
theorem xr_106_50 : X_row 106 50 = some (50, (.iload 5, 2), (0, 0, 0)) := by decide +kernel
theorem xr_106_52 : X_row 106 52 = some (52, (.bipush 30, 2), (0, 0, 0)) := by decide +kernel
theorem xr_106_54 : X_row 106 54 = some (54, (.if_icmp .ge 50, 3), (0, 0, 0)) := by decide +kernel
theorem xr_106_57 : X_row 106 57 = some (57, (.iload 4, 2), (0, 0, 0)) := by decide +kernel
theorem xr_106_59 : X_row 106 59 = some (59, (.iload_n 3, 1), (0, 0, 0)) := by decide +kernel
theorem xr_106_60 : X_row 106 60 = some (60, (.if_icmp .le 44, 3), (0, 0, 0)) := by decide +kernel
theorem xr_106_63 : X_row 106 63 = some (63, (.aload_n 0, 1), (0, 0, 0)) := by decide +kernel
theorem xr_106_64 : X_row 106 64 = some (64, (.aload_n 1, 1), (0, 0, 0)) := by decide +kernel
theorem xr_106_65 : X_row 106 65 = some (65, (.iload 4, 2), (0, 0, 0)) := by decide +kernel
theorem xr_106_67 : X_row 106 67 = some (67, (.invokevirtual 47, 3), (107, 2, 0)) := by decide +kernel
theorem xr_106_70 : X_row 106 70 = some (70, (.istore 6, 2), (0, 0, 0)) := by decide +kernel
theorem xr_106_72 : X_row 106 72 = some (72, (.iload 6, 2), (0, 0, 0)) := by decide +kernel
theorem xr_106_74 : X_row 106 74 = some (74, (.ifCond .eq 12, 3), (0, 0, 0)) := by decide +kernel
theorem xr_106_77 : X_row 106 77 = some (77, (.aload_n 0, 1), (0, 0, 0)) := by decide +kernel
theorem xr_106_78 : X_row 106 78 = some (78, (.iload 4, 2), (0, 0, 0)) := by decide +kernel
theorem xr_106_80 : X_row 106 80 = some (80, (.putfield 15, 3), (9, 3, 26)) := by decide +kernel
theorem xr_106_83 : X_row 106 83 = some (83, (.iload 6, 2), (0, 0, 0)) := by decide +kernel
theorem xr_106_85 : X_row 106 85 = some (85, (.ireturn, 1), (0, 0, 0)) := by decide +kernel
theorem xr_106_86 : X_row 106 86 = some (86, (.aload_n 0, 1), (0, 0, 0)) := by decide +kernel
theorem xr_106_87 : X_row 106 87 = some (87, (.getfield 32, 3), (9, 1, 22)) := by decide +kernel
theorem xr_106_90 : X_row 106 90 = some (90, (.getfield 44, 3), (5, 4, 19)) := by decide +kernel
theorem xr_106_93 : X_row 106 93 = some (93, (.iload 4, 2), (0, 0, 0)) := by decide +kernel
theorem xr_106_95 : X_row 106 95 = some (95, (.iaload, 1), (0, 0, 0)) := by decide +kernel
theorem xr_106_96 : X_row 106 96 = some (96, (.istore 4, 2), (0, 0, 0)) := by decide +kernel
theorem xr_106_98 : X_row 106 98 = some (98, (.iinc 5 1, 3), (0, 0, 0)) := by decide +kernel
theorem xr_106_101 : X_row 106 101 = some (101, (.goto (-51), 3), (0, 0, 0)) := by decide +kernel
theorem xr_106_104 : X_row 106 104 = some (104, (.iinc 2 1, 3), (0, 0, 0)) := by decide +kernel
theorem xr_106_107 : X_row 106 107 = some (107, (.goto (-101), 3), (0, 0, 0)) := by decide +kernel
theorem xr_106_110 : X_row 106 110 = some (110, (.aload_n 0, 1), (0, 0, 0)) := by decide +kernel
theorem xr_106_111 : X_row 106 111 = some (111, (.aload_n 0, 1), (0, 0, 0)) := by decide +kernel
theorem xr_106_112 : X_row 106 112 = some (112, (.getfield 18, 3), (9, 4, 28)) := by decide +kernel
theorem xr_106_115 : X_row 106 115 = some (115, (.iconst 0, 1), (0, 0, 0)) := by decide +kernel
theorem xr_106_116 : X_row 106 116 = some (116, (.iaload, 1), (0, 0, 0)) := by decide +kernel
theorem xr_106_117 : X_row 106 117 = some (117, (.putfield 9, 3), (9, 2, 24)) := by decide +kernel
theorem xr_106_120 : X_row 106 120 = some (120, (.iconst 0, 1), (0, 0, 0)) := by decide +kernel
theorem xr_106_121 : X_row 106 121 = some (121, (.ireturn, 1), (0, 0, 0)) := by decide +kernel
theorem xr_107_0 : X_row 107 0 = some (0, (.aload_n 0, 1), (0, 0, 0)) := by decide +kernel
theorem xr_107_1 : X_row 107 1 = some (1, (.getfield 32, 3), (9, 1, 22)) := by decide +kernel
theorem xr_107_4 : X_row 107 4 = some (4, (.getfield 51, 3), (5, 1, 15)) := by decide +kernel
theorem xr_107_7 : X_row 107 7 = some (7, (.iload_n 2, 1), (0, 0, 0)) := by decide +kernel
theorem xr_107_8 : X_row 107 8 = some (8, (.iaload, 1), (0, 0, 0)) := by decide +kernel
theorem xr_107_9 : X_row 107 9 = some (9, (.istore_n 3, 1), (0, 0, 0)) := by decide +kernel
theorem xr_107_10 : X_row 107 10 = some (10, (.iload_n 3, 1), (0, 0, 0)) := by decide +kernel
theorem xr_107_11 : X_row 107 11 = some (11, (.bipush (-2), 2), (0, 0, 0)) := by decide +kernel
theorem xr_107_13 : X_row 107 13 = some (13, (.if_icmp .ne 27, 3), (0, 0, 0)) := by decide +kernel
theorem xr_107_16 : X_row 107 16 = some (16, (.aload_n 0, 1), (0, 0, 0)) := by decide +kernel
theorem xr_107_17 : X_row 107 17 = some (17, (.getfield 18, 3), (9, 4, 28)) := by decide +kernel
theorem xr_107_20 : X_row 107 20 = some (20, (.iload_n 2, 1), (0, 0, 0)) := by decide +kernel
theorem xr_107_21 : X_row 107 21 = some (21, (.aload_n 0, 1), (0, 0, 0)) := by decide +kernel
theorem xr_107_22 : X_row 107 22 = some (22, (.getfield 28, 3), (9, 0, 20)) := by decide +kernel
theorem xr_107_25 : X_row 107 25 = some (25, (.aload_n 0, 1), (0, 0, 0)) := by decide +kernel
theorem xr_107_26 : X_row 107 26 = some (26, (.getfield 32, 3), (9, 1, 22)) := by decide +kernel
theorem xr_107_29 : X_row 107 29 = some (29, (.getfield 54, 3), (5, 2, 17)) := by decide +kernel
theorem xr_107_32 : X_row 107 32 = some (32, (.iload_n 2, 1), (0, 0, 0)) := by decide +kernel
theorem xr_107_33 : X_row 107 33 = some (33, (.iaload, 1), (0, 0, 0)) := by decide +kernel
theorem xr_107_34 : X_row 107 34 = some (34, (.invokevirtual 57, 3), (89, 4, 0)) := by decide +kernel
theorem xr_107_37 : X_row 107 37 = some (37, (.iastore, 1), (0, 0, 0)) := by decide +kernel
theorem xr_107_38 : X_row 107 38 = some (38, (.iconst 0, 1), (0, 0, 0)) := by decide +kernel
theorem xr_107_39 : X_row 107 39 = some (39, (.ireturn, 1), (0, 0, 0)) := by decide +kernel
theorem xr_107_40 : X_row 107 40 = some (40, (.iload_n 3, 1), (0, 0, 0)) := by decide +kernel
theorem xr_107_41 : X_row 107 41 = some (41, (.bipush (-3), 2), (0, 0, 0)) := by decide +kernel
theorem xr_107_43 : X_row 107 43 = some (43, (.if_icmp .ne 25, 3), (0, 0, 0)) := by decide +kernel
theorem xr_107_46 : X_row 107 46 = some (46, (.aload_n 0, 1), (0, 0, 0)) := by decide +kernel
theorem xr_107_47 : X_row 107 47 = some (47, (.getfield 18, 3), (9, 4, 28)) := by decide +kernel
theorem xr_107_50 : X_row 107 50 = some (50, (.iload_n 2, 1), (0, 0, 0)) := by decide +kernel
theorem xr_107_51 : X_row 107 51 = some (51, (.aload_n 0, 1), (0, 0, 0)) := by decide +kernel
theorem xr_107_52 : X_row 107 52 = some (52, (.getfield 18, 3), (9, 4, 28)) := by decide +kernel
theorem xr_107_55 : X_row 107 55 = some (55, (.aload_n 0, 1), (0, 0, 0)) := by decide +kernel
theorem xr_107_56 : X_row 107 56 = some (56, (.getfield 32, 3), (9, 1, 22)) := by decide +kernel
theorem xr_107_59 : X_row 107 59 = some (59, (.iload_n 2, 1), (0, 0, 0)) := by decide +kernel
theorem xr_107_60 : X_row 107 60 = some (60, (.iconst 0, 1), (0, 0, 0)) := by decide +kernel
theorem xr_107_61 : X_row 107 61 = some (61, (.invokevirtual 63, 3), (85, 6, 0)) := by decide +kernel
theorem xr_107_64 : X_row 107 64 = some (64, (.iaload, 1), (0, 0, 0)) := by decide +kernel
theorem xr_107_65 : X_row 107 65 = some (65, (.iastore, 1), (0, 0, 0)) := by decide +kernel
theorem xr_107_66 : X_row 107 66 = some (66, (.iconst 0, 1), (0, 0, 0)) := by decide +kernel
theorem xr_107_67 : X_row 107 67 = some (67, (.ireturn, 1), (0, 0, 0)) := by decide +kernel
theorem xr_107_68 : X_row 107 68 = some (68, (.aload_n 1, 1), (0, 0, 0)) := by decide +kernel
theorem xr_107_69 : X_row 107 69 = some (69, (.getfield 67, 3), (0, 7, 11)) := by decide +kernel
theorem xr_107_72 : X_row 107 72 = some (72, (.iload_n 3, 1), (0, 0, 0)) := by decide +kernel
theorem xr_107_73 : X_row 107 73 = some (73, (.aaload, 1), (0, 0, 0)) := by decide +kernel
theorem xr_107_74 : X_row 107 74 = some (74, (.astore 4, 2), (0, 0, 0)) := by decide +kernel
theorem xr_107_76 : X_row 107 76 = some (76, (.aload 4, 2), (0, 0, 0)) := by decide +kernel
theorem xr_107_78 : X_row 107 78 = some (78, (.getfield 73, 3), (8, 5, 1)) := by decide +kernel
theorem xr_107_81 : X_row 107 81 = some (81, (.iconst (-1), 1), (0, 0, 0)) := by decide +kernel
theorem xr_107_82 : X_row 107 82 = some (82, (.if_icmp .eq 19, 3), (0, 0, 0)) := by decide +kernel
theorem xr_107_85 : X_row 107 85 = some (85, (.aload_n 0, 1), (0, 0, 0)) := by decide +kernel
theorem xr_107_86 : X_row 107 86 = some (86, (.aload 4, 2), (0, 0, 0)) := by decide +kernel
theorem xr_107_88 : X_row 107 88 = some (88, (.iload_n 2, 1), (0, 0, 0)) := by decide +kernel
theorem xr_107_89 : X_row 107 89 = some (89, (.invokevirtual 78, 3), (108, 8, 0)) := by decide +kernel
theorem xr_107_92 : X_row 107 92 = some (92, (.ifCond .eq 7, 3), (0, 0, 0)) := by decide +kernel
theorem xr_107_95 : X_row 107 95 = some (95, (.iconst 0, 1), (0, 0, 0)) := by decide +kernel
theorem xr_107_96 : X_row 107 96 = some (96, (.goto 4, 3), (0, 0, 0)) := by decide +kernel
theorem xr_107_99 : X_row 107 99 = some (99, (.iconst 1, 1), (0, 0, 0)) := by decide +kernel
theorem xr_107_100 : X_row 107 100 = some (100, (.ireturn, 1), (0, 0, 0)) := by decide +kernel
theorem xr_107_101 : X_row 107 101 = some (101, (.aload_n 0, 1), (0, 0, 0)) := by decide +kernel
theorem xr_107_102 : X_row 107 102 = some (102, (.getfield 18, 3), (9, 4, 28)) := by decide +kernel
theorem xr_107_105 : X_row 107 105 = some (105, (.iload_n 2, 1), (0, 0, 0)) := by decide +kernel
theorem xr_107_106 : X_row 107 106 = some (106, (.aload 4, 2), (0, 0, 0)) := by decide +kernel
theorem xr_107_108 : X_row 107 108 = some (108, (.getfield 82, 3), (8, 7, 5)) := by decide +kernel
theorem xr_107_111 : X_row 107 111 = some (111, (.iastore, 1), (0, 0, 0)) := by decide +kernel
theorem xr_107_112 : X_row 107 112 = some (112, (.aload 4, 2), (0, 0, 0)) := by decide +kernel
theorem xr_107_114 : X_row 107 114 = some (114, (.getfield 85, 3), (8, 6, 3)) := by decide +kernel
theorem xr_107_117 : X_row 107 117 = some (117, (.ifCond .eq 7, 3), (0, 0, 0)) := by decide +kernel
theorem xr_107_120 : X_row 107 120 = some (120, (.iconst 0, 1), (0, 0, 0)) := by decide +kernel
theorem xr_107_121 : X_row 107 121 = some (121, (.goto 4, 3), (0, 0, 0)) := by decide +kernel
theorem xr_107_124 : X_row 107 124 = some (124, (.iconst 2, 1), (0, 0, 0)) := by decide +kernel
theorem xr_107_125 : X_row 107 125 = some (125, (.ireturn, 1), (0, 0, 0)) := by decide +kernel
theorem xn_105 : X_nL 105 = 1 := by decide +kernel
theorem xf_105 : X_na 105 = 0 ∧ X_ci 105 = 9 ∧ X_rt 105 = none := by decide +kernel
theorem xn_106 : X_nL 106 = 7 := by decide +kernel
theorem xf_106 : X_na 106 = 1 ∧ X_ci 106 = 9 ∧ X_rt 106 = (some .int) := by decide +kernel
theorem xn_107 : X_nL 107 = 5 := by decide +kernel
theorem xf_107 : X_na 107 = 2 ∧ X_ci 107 = 9 ∧ X_rt 107 = (some .int) := by decide +kernel
set_option maxHeartbeats 1600000 in
theorem c_workNode (sc : X_Sc) (S : X_S) (nW : Int → Int) (nF : Int → Int) (nL : Int → Int) (nP : Int → Int) (nH : Int → Int) (nC : Int → Int) (vs : Int → Int) (pl : Int → Int) (B : Nat) (rc : Int) (rn : Int → Int64) (kn : Int → Int64) (G : X_G) (tn : Int) (nc : Int) (N : Int → Int → Int) (n : Int) (V : Int → Int) (rs : Int) (re : Int) (hgt : Int) (hO501 : S.1 501 = .inr (6, [.int (iI tn), .ref 502, .ref 503])) (hO504 : S.1 504 = .inr (5, [.int (iI nc), .ref 505, .ref 506, .ref 507, .ref 508, .ref 509, .ref 510])) (hO527 : S.1 527 = .inr (9, [.ref 501, .ref 504, .int (iI rs), .int (iI re), .ref 528, .ref 529, .int (iI hgt)])) (hA505 : S.1 505 = .inl (.int, 30, .inl fun k : Nat => iI (nW (k : Int)))) (hA506 : S.1 506 = .inl (.int, 30, .inl fun k : Nat => iI (nF (k : Int)))) (hA507 : S.1 507 = .inl (.int, 30, .inl fun k : Nat => iI (nL (k : Int)))) (hA508 : S.1 508 = .inl (.int, 30, .inl fun k : Nat => iI (nP (k : Int)))) (hA509 : S.1 509 = .inl (.int, 30, .inl fun k : Nat => iI (nH (k : Int)))) (hA510 : S.1 510 = .inl (.int, 120, .inl fun k : Nat => iI (nC (k : Int)))) (hA528 : S.1 528 = .inl (.int, 30, .inl fun k : Nat => iI (vs (k : Int)))) (hA529 : S.1 529 = .inl (.int, 16, .inl fun k : Nat => iI (pl (k : Int)))) (hB : B = 4 ∨ B = 250) (hb : C_bk S B rc (gk G) (gw G) rn (gl G) kn (ga G)) (hs : C_ws S B (gD G) (gW G)) (hG : X_Gok G) (hGs : X_Gst G) (hA502 : S.1 502 = .inl (.long, 30, .inr (.inl fun k : Nat => (gt G) (k : Int)))) (hR : X_Rok G tn nc N) (hn : 0 ≤ n ∧ n < nc) (hnd : F_nd nc N nW nF nL nP nH) (hch : F_ch nc N nC) (hV : ∀ h, 0 ≤ h → h < 4 → ¬ X_lc N n h nc.toNat = -1 → vs (X_lc N n h nc.toNat) = V (X_lc N n h nc.toNat)) : X_T sc 107 (0, [(0, .ref 527), (1, .ref B), (2, .int (iI n))], [], S) (fun v S' => ∃ (vs1 : Int → Int) (pl1 : Int → Int) (h2 : Int), v = some (.int (iI ((X_ev G (fun w => gD G w 6 0) (fun w => gD G w 7 0) N nc V n).1))) ∧ ((X_ev G (fun w => gD G w 6 0) (fun w => gD G w 7 0) N nc V n).1 = 0 → vs1 n = (X_ev G (fun w => gD G w 6 0) (fun w => gD G w 7 0) N nc V n).2) ∧ ((∀ m, ¬ m = n → vs1 m = vs m)) ∧ S'.1 527 = .inr (9, [.ref 501, .ref 504, .int (iI rs), .int (iI re), .ref 528, .ref 529, .int (iI h2)]) ∧ S'.1 528 = .inl (.int, 30, .inl fun k : Nat => iI (vs1 (k : Int))) ∧ S'.1 529 = .inl (.int, 16, .inl fun k : Nat => iI (pl1 (k : Int))) ∧ (X_Fr (fun q => 527 ≤ q ∧ q ≤ 529) S S')) := by
  obtain ⟨hb0, hb1, hb2, hb3, hb4, ⟨f, hb5, hf⟩, ⟨hrc, hrcb⟩, ⟨hkc, hkcb⟩, ⟨hwc, hwcb⟩⟩ := id hb
  have hRn := hR.1
  have hR4 := hR.2.2.2.2.1 n hn.1 hn.2
  have hN0 := (hnd n hn.1 hn.2).1
  have hN1 := (hnd n hn.1 hn.2).2.1
  have hN0r := hR4.1
  refine X_QI (fun Q hQ => ?_)
  refine T_p xr_107_0 xn_107 (pc' := 1) (ls' := [(0, .ref 527), (1, .ref B), (2, .int (iI n))]) (st' := [.ref 527]) rfl ?_
  refine T_get xr_107_1 hO527 rfl (v := .ref 504) rfl (pc' := 4) rfl ?_
  refine T_get xr_107_4 hO504 rfl (v := .ref 505) rfl (pc' := 7) rfl ?_
  refine T_p xr_107_7 xn_107 (pc' := 8) (ls' := [(0, .ref 527), (1, .ref B), (2, .int (iI n))]) (st' := [.int (iI n), .ref 505]) rfl ?_
  refine T_ziald xr_107_8 hA505 (pc' := 9) rfl ?_
  refine T_ie (y := iI (N 0 n)) (by rw [hN0]) ?_
  refine T_p xr_107_9 xn_107 (pc' := 10) (ls' := [(3, .int (iI (N 0 n))), (0, .ref 527), (1, .ref B), (2, .int (iI n))]) (st' := []) rfl ?_
  refine T_p xr_107_10 xn_107 (pc' := 11) (ls' := [(3, .int (iI (N 0 n))), (0, .ref 527), (1, .ref B), (2, .int (iI n))]) (st' := [.int (iI (N 0 n))]) rfl ?_
  refine T_p xr_107_11 xn_107 (pc' := 13) (ls' := [(3, .int (iI (N 0 n))), (0, .ref 527), (1, .ref B), (2, .int (iI n))]) (st' := [.int (iI (-2)), .int (iI (N 0 n))]) rfl ?_
  refine T_zicmp_ne xr_107_13 (t := 40) (pc' := 16) rfl rfl (fun c1981 => ?_) (fun c1981 => ?_)
  · skip
    have c1981 : ¬ (N 0 n) = (-2) := c1981
    refine T_p xr_107_40 xn_107 (pc' := 41) (ls' := [(3, .int (iI (N 0 n))), (0, .ref 527), (1, .ref B), (2, .int (iI n))]) (st' := [.int (iI (N 0 n))]) rfl ?_
    refine T_p xr_107_41 xn_107 (pc' := 43) (ls' := [(3, .int (iI (N 0 n))), (0, .ref 527), (1, .ref B), (2, .int (iI n))]) (st' := [.int (iI (-3)), .int (iI (N 0 n))]) rfl ?_
    refine T_zicmp_ne xr_107_43 (t := 68) (pc' := 46) rfl rfl (fun c1982 => ?_) (fun c1982 => ?_)
    · skip
      have c1982 : ¬ (N 0 n) = (-3) := c1982
      have hwn : 0 ≤ N 0 n ∧ N 0 n < gw G := by omega
      have hgn := hG.2.2.2 (N 0 n) hwn.1 hwn.2
      have hgh := hgn.2.1
      refine T_p xr_107_68 xn_107 (pc' := 69) (ls' := [(3, .int (iI (N 0 n))), (0, .ref 527), (1, .ref B), (2, .int (iI n))]) (st' := [.ref B]) rfl ?_
      refine T_get xr_107_69 hb0 rfl (v := .ref (B + 5)) rfl (pc' := 72) rfl ?_
      refine T_p xr_107_72 xn_107 (pc' := 73) (ls' := [(3, .int (iI (N 0 n))), (0, .ref 527), (1, .ref B), (2, .int (iI n))]) (st' := [.int (iI (N 0 n)), .ref (B + 5)]) rfl ?_
      have hwaw := hs (N 0 n) (by omega) (by omega)
      obtain ⟨aw, haaw⟩ : ∃ z : Nat, z = B + 6 + 8 * (N 0 n : Int).toNat := ⟨_, rfl⟩
      rw [← haaw] at hwaw
      obtain ⟨⟨_, _⟩, ⟨_, _⟩, ⟨_, _⟩, ⟨_, _⟩, ⟨_, _⟩, ⟨_, _⟩, ⟨_, _⟩, ⟨_, _⟩⟩ := id hwaw.2
      refine T_zaald xr_107_73 hb5 (w := aw) (by rw [haaw]; exact hf _ (by omega)) (pc' := 74) rfl ?_
      refine T_p xr_107_74 xn_107 (pc' := 76) (ls' := [(4, .ref aw), (3, .int (iI (N 0 n))), (0, .ref 527), (1, .ref B), (2, .int (iI n))]) (st' := []) rfl ?_
      refine T_p xr_107_76 xn_107 (pc' := 78) (ls' := [(4, .ref aw), (3, .int (iI (N 0 n))), (0, .ref 527), (1, .ref B), (2, .int (iI n))]) (st' := [.ref aw]) rfl ?_
      refine T_get xr_107_78 hwaw.1.1 rfl (v := .int (iI ((gD G) (N 0 n) 5 0))) rfl (pc' := 81) rfl ?_
      refine T_p xr_107_81 xn_107 (pc' := 82) (ls' := [(4, .ref aw), (3, .int (iI (N 0 n))), (0, .ref 527), (1, .ref B), (2, .int (iI n))]) (st' := [.int (iI (-1)), .int (iI ((gD G) (N 0 n) 5 0))]) rfl ?_
      refine T_zicmp_eq xr_107_82 (t := 101) (pc' := 85) rfl rfl (fun c1986 => ?_) (fun c1986 => ?_)
      · skip
        have c1986 : ((gD G) (N 0 n) 5 0) = (-1) := c1986
        refine T_p xr_107_101 xn_107 (pc' := 102) (ls' := [(4, .ref aw), (3, .int (iI (N 0 n))), (0, .ref 527), (1, .ref B), (2, .int (iI n))]) (st' := [.ref 527]) rfl ?_
        refine T_get xr_107_102 hO527 rfl (v := .ref 528) rfl (pc' := 105) rfl ?_
        refine T_p xr_107_105 xn_107 (pc' := 106) (ls' := [(4, .ref aw), (3, .int (iI (N 0 n))), (0, .ref 527), (1, .ref B), (2, .int (iI n))]) (st' := [.int (iI n), .ref 528]) rfl ?_
        refine T_p xr_107_106 xn_107 (pc' := 108) (ls' := [(4, .ref aw), (3, .int (iI (N 0 n))), (0, .ref 527), (1, .ref B), (2, .int (iI n))]) (st' := [.ref aw, .int (iI n), .ref 528]) rfl ?_
        refine T_get xr_107_108 hwaw.1.1 rfl (v := .int (iI ((gD G) (N 0 n) 7 0))) rfl (pc' := 111) rfl ?_
        refine T_ziast xr_107_111 hA528 (pc' := 112) rfl (fun S1987 h1988 n1989 e1990 => ?_)
        refine T_p xr_107_112 xn_107 (pc' := 114) (ls' := [(4, .ref aw), (3, .int (iI (N 0 n))), (0, .ref 527), (1, .ref B), (2, .int (iI n))]) (st' := [.ref aw]) rfl ?_
        have h1991 := (n1989 aw (by omega)).trans (hwaw.1.1)
        refine T_get xr_107_114 h1991 rfl (v := .int (iI ((gD G) (N 0 n) 6 0))) rfl (pc' := 117) rfl ?_
        refine T_zif_eq xr_107_117 (t := 124) (pc' := 120) rfl rfl (fun c1992 => ?_) (fun c1992 => ?_)
        · skip
          have c1992 : ((gD G) (N 0 n) 6 0) = 0 := c1992
          refine T_p xr_107_124 xn_107 (pc' := 125) (ls' := [(4, .ref aw), (3, .int (iI (N 0 n))), (0, .ref 527), (1, .ref B), (2, .int (iI n))]) (st' := [.int (iI 2)]) rfl ?_
          refine T_iret xr_107_125 xf_107.2.2 rfl ?_
          refine hQ _ _ ?_
          have h1993 := (n1989 529 (by decide)).trans (hA529)
          have h1994 := (n1989 527 (by decide)).trans (hO527)
          have hev1995 : (X_ev G (fun w => gD G w 6 0) (fun w => gD G w 7 0) N nc V n) = (2, 0) := (X_ev_v hwn.1 (by omega)).trans (by first | rw [if_pos (show gD G (N 0 n) 6 0 = 1 by omega)] | rw [if_neg (show ¬ gD G (N 0 n) 6 0 = 1 by omega)])
          exact ⟨(X_ug vs n ((gD G) (N 0 n) 7 0)), pl, hgt, (by rw [hev1995]), (fun z => absurd (show (2 : Int) = 0 by rw [hev1995] at z; exact z) (by omega)), (fun m hm => X_ug_n _ _ hm), h1994, h1988, h1993, (X_Fr.rf).tr (X_Fr.of n1989 e1990 (by omega))⟩
        · skip
          have c1992 : ¬ (((gD G) (N 0 n) 6 0) = 0) := c1992
          refine T_p xr_107_120 xn_107 (pc' := 121) (ls' := [(4, .ref aw), (3, .int (iI (N 0 n))), (0, .ref 527), (1, .ref B), (2, .int (iI n))]) (st' := [.int (iI 0)]) rfl ?_
          refine T_p xr_107_121 xn_107 (pc' := 125) (ls' := [(4, .ref aw), (3, .int (iI (N 0 n))), (0, .ref 527), (1, .ref B), (2, .int (iI n))]) (st' := [.int (iI 0)]) rfl ?_
          refine T_iret xr_107_125 xf_107.2.2 rfl ?_
          refine hQ _ _ ?_
          have h1996 := (n1989 529 (by decide)).trans (hA529)
          have h1997 := (n1989 527 (by decide)).trans (hO527)
          have hev1998 : (X_ev G (fun w => gD G w 6 0) (fun w => gD G w 7 0) N nc V n) = (0, gD G (N 0 n) 7 0) := (X_ev_v hwn.1 (by omega)).trans (by first | rw [if_pos (show gD G (N 0 n) 6 0 = 1 by omega)] | rw [if_neg (show ¬ gD G (N 0 n) 6 0 = 1 by omega)])
          exact ⟨(X_ug vs n ((gD G) (N 0 n) 7 0)), pl, hgt, (by rw [hev1998]), (fun _ => by rw [hev1998]; exact X_ug_s _ _ _), (fun m hm => X_ug_n _ _ hm), h1997, h1988, h1996, (X_Fr.rf).tr (X_Fr.of n1989 e1990 (by omega))⟩
      · skip
        have c1986 : ¬ (((gD G) (N 0 n) 5 0) = (-1)) := c1986
        have hsk := (hGs (N 0 n) hwn.1 hwn.2).resolve_left (by omega)
        have hcv : ∀ h, 0 ≤ h → h < gD G (N 0 n) 4 0 → (0 ≤ nC (n * 4 + h) ∧ nC (n * 4 + h) < 30) ∧ vs (nC (n * 4 + h)) = (fun h => V (X_lc N n h nc.toNat)) h := fun h g1 g2 => by
          have hc := hR.2.2.2.2.2.1 n hn.1 hn.2 hwn.1 h g1 g2
          have hc2 := X_lc_r (N := N) (p := n) (h := h) nc.toNat
          rw [hch n h hn.1 g1 (by omega) hc]
          exact ⟨by omega, hV h g1 (by omega) hc⟩
        refine T_p xr_107_85 xn_107 (pc' := 86) (ls' := [(4, .ref aw), (3, .int (iI (N 0 n))), (0, .ref 527), (1, .ref B), (2, .int (iI n))]) (st' := [.ref 527]) rfl ?_
        refine T_p xr_107_86 xn_107 (pc' := 88) (ls' := [(4, .ref aw), (3, .int (iI (N 0 n))), (0, .ref 527), (1, .ref B), (2, .int (iI n))]) (st' := [.ref aw, .ref 527]) rfl ?_
        refine T_p xr_107_88 xn_107 (pc' := 89) (ls' := [(4, .ref aw), (3, .int (iI (N 0 n))), (0, .ref 527), (1, .ref B), (2, .int (iI n))]) (st' := [.int (iI n), .ref aw, .ref 527]) rfl ?_
        refine T_cv (S := S) (q := 527) xr_107_89 xf_108.1 xf_108.2.1 xn_108 (as := [.ref aw, .int (iI n)]) (r := []) rfl hO527 (Nat.le_of_ble_eq_true rfl) (Nat.le_of_ble_eq_true rfl) (pc' := 92) rfl (ls' := [(0, .ref 527), (1, .ref aw), (2, .int (iI n))]) rfl ?_
        refine T_mono (c_runSteps sc S nC vs pl aw (gD G (N 0 n)) (gW G (N 0 n)) (fun h => V (X_lc N n h nc.toNat)) n nc hgt rs re hO504 hO527 hA510 hA528 hA529 ⟨hwaw.1.1, hwaw.1.2.1, hwaw.1.2.2.1, hwaw.1.2.2.2.1, hwaw.1.2.2.2.2.1, hwaw.1.2.2.2.2.2.1, hwaw.1.2.2.2.2.2.2.1, hwaw.1.2.2.2.2.2.2.2⟩ hwaw.2 (by omega) hsk.1 hsk.2.1 hsk.2.2 (by omega) hcv) (fun v1999 S2000 h2001 => ?_)
        rcases h2001 with ⟨h2002, pl2003, hv2004, hp2005, ho2006, ha2007, hf2008⟩ | ⟨h2009, pl2010, rr2011, hv2012, hp2013, ho2014, ha2015, ha2016, hf2017⟩
        · skip
          rw [hv2004]
          show X_T sc 107 (92, [(4, .ref aw), (3, .int (iI (N 0 n))), (0, .ref 527), (1, .ref B), (2, .int (iI n))], [.int (iI 0)], S2000) _
          refine T_zif_eqt xr_107_92 (t := 99) rfl (by decide) ?_
          refine T_p xr_107_99 xn_107 (pc' := 100) (ls' := [(4, .ref aw), (3, .int (iI (N 0 n))), (0, .ref 527), (1, .ref B), (2, .int (iI n))]) (st' := [.int (iI 1)]) rfl ?_
          refine T_iret xr_107_100 xf_107.2.2 rfl ?_
          refine hQ _ _ ?_
          have h2018 := (hf2008.1 528 (by omega)).trans (hA528)
          have hev2019 : (X_ev G (fun w => gD G w 6 0) (fun w => gD G w 7 0) N nc V n) = (1, 0) := X_ev_s1 hwn.1 (by omega) hp2005
          exact ⟨vs, pl2003, h2002, (by rw [hev2019]), (fun z => absurd (show (1 : Int) = 0 by rw [hev2019] at z; exact z) (by omega)), (fun m _ => rfl), ho2006, h2018, ha2007, (X_Fr.rf).tr (X_Fr.mono ⟨hf2008.1, hf2008.2⟩ (fun q hq => (by omega)))⟩
        · skip
          rw [hv2012]
          show X_T sc 107 (92, [(4, .ref aw), (3, .int (iI (N 0 n))), (0, .ref 527), (1, .ref B), (2, .int (iI n))], [.int (iI 1)], S2000) _
          refine T_zif_eqf xr_107_92 (t := 99) (pc' := 95) rfl rfl (by decide) ?_
          refine T_p xr_107_95 xn_107 (pc' := 96) (ls' := [(4, .ref aw), (3, .int (iI (N 0 n))), (0, .ref 527), (1, .ref B), (2, .int (iI n))]) (st' := [.int (iI 0)]) rfl ?_
          refine T_p xr_107_96 xn_107 (pc' := 100) (ls' := [(4, .ref aw), (3, .int (iI (N 0 n))), (0, .ref 527), (1, .ref B), (2, .int (iI n))]) (st' := [.int (iI 0)]) rfl ?_
          refine T_iret xr_107_100 xf_107.2.2 rfl ?_
          refine hQ _ _ ?_
          have hev2020 : (X_ev G (fun w => gD G w 6 0) (fun w => gD G w 7 0) N nc V n) = (0, rr2011.2 0) := X_ev_s0 hwn.1 (by omega) hp2013
          exact ⟨(X_ug vs n (rr2011.2 0)), pl2010, h2009, (by rw [hev2020]), (fun _ => by rw [hev2020]; exact X_ug_s _ _ _), (fun m hm => X_ug_n _ _ hm), ho2014, ha2015, ha2016, (X_Fr.rf).tr (X_Fr.mono ⟨hf2017.1, hf2017.2⟩ (fun q hq => (by omega)))⟩
    · skip
      have c1982 : ¬ (¬ (N 0 n) = (-3)) := c1982
      have hb := hR.2.2.2.2.2.2 n hn.1 hn.2 (by omega)
      have hbc := hch n 0 hn.1 (Int.le_refl 0) (by omega) (by omega)
      have hbv := hV 0 (Int.le_refl 0) (by omega) (by omega)
      refine T_p xr_107_46 xn_107 (pc' := 47) (ls' := [(3, .int (iI (N 0 n))), (0, .ref 527), (1, .ref B), (2, .int (iI n))]) (st' := [.ref 527]) rfl ?_
      refine T_get xr_107_47 hO527 rfl (v := .ref 528) rfl (pc' := 50) rfl ?_
      refine T_p xr_107_50 xn_107 (pc' := 51) (ls' := [(3, .int (iI (N 0 n))), (0, .ref 527), (1, .ref B), (2, .int (iI n))]) (st' := [.int (iI n), .ref 528]) rfl ?_
      refine T_p xr_107_51 xn_107 (pc' := 52) (ls' := [(3, .int (iI (N 0 n))), (0, .ref 527), (1, .ref B), (2, .int (iI n))]) (st' := [.ref 527, .int (iI n), .ref 528]) rfl ?_
      refine T_get xr_107_52 hO527 rfl (v := .ref 528) rfl (pc' := 55) rfl ?_
      refine T_p xr_107_55 xn_107 (pc' := 56) (ls' := [(3, .int (iI (N 0 n))), (0, .ref 527), (1, .ref B), (2, .int (iI n))]) (st' := [.ref 527, .ref 528, .int (iI n), .ref 528]) rfl ?_
      refine T_get xr_107_56 hO527 rfl (v := .ref 504) rfl (pc' := 59) rfl ?_
      refine T_p xr_107_59 xn_107 (pc' := 60) (ls' := [(3, .int (iI (N 0 n))), (0, .ref 527), (1, .ref B), (2, .int (iI n))]) (st' := [.int (iI n), .ref 504, .ref 528, .int (iI n), .ref 528]) rfl ?_
      refine T_p xr_107_60 xn_107 (pc' := 61) (ls' := [(3, .int (iI (N 0 n))), (0, .ref 527), (1, .ref B), (2, .int (iI n))]) (st' := [.int (iI 0), .int (iI n), .ref 504, .ref 528, .int (iI n), .ref 528]) rfl ?_
      refine T_cv (S := S) (q := 504) xr_107_61 xf_85.1 xf_85.2.1 xn_85 (as := [.int (iI n), .int (iI 0)]) (r := [.ref 528, .int (iI n), .ref 528]) rfl hO504 (Nat.le_of_ble_eq_true rfl) (Nat.le_of_ble_eq_true rfl) (pc' := 64) rfl (ls' := [(0, .ref 504), (1, .int (iI n)), (2, .int (iI 0))]) rfl ?_
      refine T_p xr_85_0 xn_85 (pc' := 1) (ls' := [(0, .ref 504), (1, .int (iI n)), (2, .int (iI 0))]) (st' := [.ref 504]) rfl ?_
      refine T_get xr_85_1 hO504 rfl (v := .ref 510) rfl (pc' := 4) rfl ?_
      refine T_p xr_85_4 xn_85 (pc' := 5) (ls' := [(0, .ref 504), (1, .int (iI n)), (2, .int (iI 0))]) (st' := [.int (iI n), .ref 510]) rfl ?_
      refine T_p xr_85_5 xn_85 (pc' := 6) (ls' := [(0, .ref 504), (1, .int (iI n)), (2, .int (iI 0))]) (st' := [.int (iI 4), .int (iI n), .ref 510]) rfl ?_
      refine T_zimul xr_85_6 (z := n * 4) rfl (pc' := 7) rfl ?_
      refine T_p xr_85_7 xn_85 (pc' := 8) (ls' := [(0, .ref 504), (1, .int (iI n)), (2, .int (iI 0))]) (st' := [.int (iI 0), .int (iI (n * 4)), .ref 510]) rfl ?_
      refine T_ziadd xr_85_8 (z := (n * 4) + 0) rfl (pc' := 9) rfl ?_
      refine T_ziald xr_85_9 hA510 (pc' := 10) rfl ?_
      refine T_iret xr_85_10 xf_85.2.2 rfl ?_
      show X_T sc 107 (64, [(3, .int (iI (N 0 n))), (0, .ref 527), (1, .ref B), (2, .int (iI n))], [.int (iI (nC ((n * 4) + 0))), .ref 528, .int (iI n), .ref 528], S) _
      refine T_ie (y := iI (X_lc N n 0 nc.toNat)) (by rw [← hbc]) ?_
      refine T_ziald xr_107_64 hA528 (pc' := 65) rfl ?_
      refine T_ie (y := iI (V (X_lc N n 0 nc.toNat))) (by rw [hbv]) ?_
      refine T_ziast xr_107_65 hA528 (pc' := 66) rfl (fun S2021 h2022 n2023 e2024 => ?_)
      refine T_p xr_107_66 xn_107 (pc' := 67) (ls' := [(3, .int (iI (N 0 n))), (0, .ref 527), (1, .ref B), (2, .int (iI n))]) (st' := [.int (iI 0)]) rfl ?_
      refine T_iret xr_107_67 xf_107.2.2 rfl ?_
      refine hQ _ _ ?_
      have h2025 := (n2023 529 (by decide)).trans (hA529)
      have h2026 := (n2023 527 (by decide)).trans (hO527)
      have hev2027 : (X_ev G (fun w => gD G w 6 0) (fun w => gD G w 7 0) N nc V n) = (0, V (X_lc N n 0 nc.toNat)) := X_ev_b (by omega)
      exact ⟨(X_ug vs n (V (X_lc N n 0 nc.toNat))), pl, hgt, (by rw [hev2027]), (fun _ => by rw [hev2027]; exact X_ug_s _ _ _), (fun m hm => X_ug_n _ _ hm), h2026, h2022, h2025, (X_Fr.rf).tr (X_Fr.of n2023 e2024 (by omega))⟩
  · skip
    have c1981 : ¬ (¬ (N 0 n) = (-2)) := c1981
    refine T_p xr_107_16 xn_107 (pc' := 17) (ls' := [(3, .int (iI (N 0 n))), (0, .ref 527), (1, .ref B), (2, .int (iI n))]) (st' := [.ref 527]) rfl ?_
    refine T_get xr_107_17 hO527 rfl (v := .ref 528) rfl (pc' := 20) rfl ?_
    refine T_p xr_107_20 xn_107 (pc' := 21) (ls' := [(3, .int (iI (N 0 n))), (0, .ref 527), (1, .ref B), (2, .int (iI n))]) (st' := [.int (iI n), .ref 528]) rfl ?_
    refine T_p xr_107_21 xn_107 (pc' := 22) (ls' := [(3, .int (iI (N 0 n))), (0, .ref 527), (1, .ref B), (2, .int (iI n))]) (st' := [.ref 527, .int (iI n), .ref 528]) rfl ?_
    refine T_get xr_107_22 hO527 rfl (v := .ref 501) rfl (pc' := 25) rfl ?_
    refine T_p xr_107_25 xn_107 (pc' := 26) (ls' := [(3, .int (iI (N 0 n))), (0, .ref 527), (1, .ref B), (2, .int (iI n))]) (st' := [.ref 527, .ref 501, .int (iI n), .ref 528]) rfl ?_
    refine T_get xr_107_26 hO527 rfl (v := .ref 504) rfl (pc' := 29) rfl ?_
    refine T_get xr_107_29 hO504 rfl (v := .ref 506) rfl (pc' := 32) rfl ?_
    refine T_p xr_107_32 xn_107 (pc' := 33) (ls' := [(3, .int (iI (N 0 n))), (0, .ref 527), (1, .ref B), (2, .int (iI n))]) (st' := [.int (iI n), .ref 506, .ref 501, .int (iI n), .ref 528]) rfl ?_
    refine T_ziald xr_107_33 hA506 (pc' := 34) rfl ?_
    refine T_ie (y := iI (N 1 n)) (by rw [hN1]) ?_
    refine T_cv (S := S) (q := 501) xr_107_34 xf_89.1 xf_89.2.1 xn_89 (as := [.int (iI (N 1 n))]) (r := [.int (iI n), .ref 528]) rfl hO501 (Nat.le_of_ble_eq_true rfl) (Nat.le_of_ble_eq_true rfl) (pc' := 37) rfl (ls' := [(0, .ref 501), (1, .int (iI (N 1 n)))]) rfl ?_
    refine T_mono (c_numberAt sc S tn G (N 1 n) hO501 hA502 (by omega)) (fun v2028 S2029 h2030 => ?_)
    rcases h2030 with ⟨hv2031, hf2032⟩
    rw [hv2031]
    rw [hf2032]
    have hnv2033 := X_nv_r (gt G (N 1 n))
    show X_T sc 107 (37, [(3, .int (iI (N 0 n))), (0, .ref 527), (1, .ref B), (2, .int (iI n))], [.int (iI (X_nv (gt G (N 1 n)))), .int (iI n), .ref 528], S) _
    refine T_ziast xr_107_37 hA528 (pc' := 38) rfl (fun S2034 h2035 n2036 e2037 => ?_)
    refine T_p xr_107_38 xn_107 (pc' := 39) (ls' := [(3, .int (iI (N 0 n))), (0, .ref 527), (1, .ref B), (2, .int (iI n))]) (st' := [.int (iI 0)]) rfl ?_
    refine T_iret xr_107_39 xf_107.2.2 rfl ?_
    refine hQ _ _ ?_
    have h2038 := (n2036 529 (by decide)).trans (hA529)
    have h2039 := (n2036 527 (by decide)).trans (hO527)
    have hev2040 : (X_ev G (fun w => gD G w 6 0) (fun w => gD G w 7 0) N nc V n) = (0, X_nv (gt G (N 1 n))) := X_ev_n (by omega)
    exact ⟨(X_ug vs n (X_nv (gt G (N 1 n)))), pl, hgt, (by rw [hev2040]), (fun _ => by rw [hev2040]; exact X_ug_s _ _ _), (fun m hm => X_ug_n _ _ hm), h2039, h2035, h2038, (X_Fr.rf).tr (X_Fr.of n2036 e2037 (by omega))⟩
theorem c_forget (sc : X_Sc) (S : X_S) (rs : Int) (re : Int) (hgt : Int) (hO527 : S.1 527 = .inr (9, [.ref 501, .ref 504, .int (iI rs), .int (iI re), .ref 528, .ref 529, .int (iI hgt)])) : X_T sc 105 (0, [(0, .ref 527)], [], S) (fun v S' => v = none ∧ S'.1 527 = .inr (9, [.ref 501, .ref 504, .int (iI 0), .int (iI (-1)), .ref 528, .ref 529, .int (iI hgt)]) ∧ X_Fr (fun q => q = 527) S S') := by
  refine X_QI (fun Q hQ => ?_)
  refine T_p xr_105_0 xn_105 (pc' := 1) (ls' := [(0, .ref 527)]) (st' := [.ref 527]) rfl ?_
  refine T_p xr_105_1 xn_105 (pc' := 2) (ls' := [(0, .ref 527)]) (st' := [.int (iI 0), .ref 527]) rfl ?_
  refine T_put xr_105_2 hO527 rfl (Nat.le_of_ble_eq_true rfl) rfl (fs' := [.ref 501, .ref 504, .int (iI 0), .int (iI re), .ref 528, .ref 529, .int (iI hgt)]) rfl (pc' := 5) rfl (fun S2041 h2042 n2043 e2044 => ?_)
  refine T_p xr_105_5 xn_105 (pc' := 6) (ls' := [(0, .ref 527)]) (st' := [.ref 527]) rfl ?_
  refine T_p xr_105_6 xn_105 (pc' := 7) (ls' := [(0, .ref 527)]) (st' := [.int (iI (-1)), .ref 527]) rfl ?_
  refine T_put xr_105_7 h2042 rfl (Nat.le_of_ble_eq_true rfl) rfl (fs' := [.ref 501, .ref 504, .int (iI 0), .int (iI (-1)), .ref 528, .ref 529, .int (iI hgt)]) rfl (pc' := 10) rfl (fun S2045 h2046 n2047 e2048 => ?_)
  refine T_vret xr_105_10 xf_105.2.2 ?_
  refine hQ _ _ ?_
  exact ⟨rfl, h2046, ((X_Fr.rf).tr (X_Fr.of n2043 e2044 (by omega))).tr (X_Fr.of n2047 e2048 (by omega))⟩
set_option maxHeartbeats 1600000 in
theorem c_run (sc : X_Sc) (S : X_S) (nW : Int → Int) (nF : Int → Int) (nL : Int → Int) (nP : Int → Int) (nH : Int → Int) (nC : Int → Int) (vs : Int → Int) (pl : Int → Int) (B : Nat) (rc : Int) (rn : Int → Int64) (kn : Int → Int64) (G : X_G) (tn : Int) (nc : Int) (N : Int → Int → Int) (rs : Int) (re : Int) (hgt : Int) (hO501 : S.1 501 = .inr (6, [.int (iI tn), .ref 502, .ref 503])) (hO504 : S.1 504 = .inr (5, [.int (iI nc), .ref 505, .ref 506, .ref 507, .ref 508, .ref 509, .ref 510])) (hO527 : S.1 527 = .inr (9, [.ref 501, .ref 504, .int (iI rs), .int (iI re), .ref 528, .ref 529, .int (iI hgt)])) (hA505 : S.1 505 = .inl (.int, 30, .inl fun k : Nat => iI (nW (k : Int)))) (hA506 : S.1 506 = .inl (.int, 30, .inl fun k : Nat => iI (nF (k : Int)))) (hA507 : S.1 507 = .inl (.int, 30, .inl fun k : Nat => iI (nL (k : Int)))) (hA508 : S.1 508 = .inl (.int, 30, .inl fun k : Nat => iI (nP (k : Int)))) (hA509 : S.1 509 = .inl (.int, 30, .inl fun k : Nat => iI (nH (k : Int)))) (hA510 : S.1 510 = .inl (.int, 120, .inl fun k : Nat => iI (nC (k : Int)))) (hA528 : S.1 528 = .inl (.int, 30, .inl fun k : Nat => iI (vs (k : Int)))) (hA529 : S.1 529 = .inl (.int, 16, .inl fun k : Nat => iI (pl (k : Int)))) (hB : B = 4 ∨ B = 250) (hb : C_bk S B rc (gk G) (gw G) rn (gl G) kn (ga G)) (hs : C_ws S B (gD G) (gW G)) (hG : X_Gok G) (hGs : X_Gst G) (hA502 : S.1 502 = .inl (.long, 30, .inr (.inl fun k : Nat => (gt G) (k : Int)))) (hR : X_Rok G tn nc N) (hnc : 1 ≤ nc) (hnd : F_nd nc N nW nF nL nP nH) (hch : F_ch nc N nC) : X_T sc 106 (0, [(0, .ref 527), (1, .ref B)], [], S) (fun v S' => ∃ (vs1 : Int → Int) (pl1 : Int → Int) (h2 : Int), v = some (.int (iI ((X_wk G (fun w => gD G w 6 0) (fun w => gD G w 7 0) N nc).1))) ∧ S'.1 527 = .inr (9, [.ref 501, .ref 504, .int (iI ((X_wk G (fun w => gD G w 6 0) (fun w => gD G w 7 0) N nc).2.2)), .int (iI ((X_wk G (fun w => gD G w 6 0) (fun w => gD G w 7 0) N nc).2.1)), .ref 528, .ref 529, .int (iI h2)]) ∧ S'.1 528 = .inl (.int, 30, .inl fun k : Nat => iI (vs1 (k : Int))) ∧ S'.1 529 = .inl (.int, 16, .inl fun k : Nat => iI (pl1 (k : Int))) ∧ (X_Fr (fun q => 527 ≤ q ∧ q ≤ 529) S S')) := by
  obtain ⟨hb0, hb1, hb2, hb3, hb4, ⟨f, hb5, hf⟩, ⟨hrc, hrcb⟩, ⟨hkc, hkcb⟩, ⟨hwc, hwcb⟩⟩ := id hb
  have hRn := hR.1
  have t0 := hR.2.1
  refine X_QI (fun Q hQ => ?_)
  refine T_p xr_106_0 xn_106 (pc' := 1) (ls' := [(0, .ref 527), (1, .ref B)]) (st' := [.ref 527]) rfl ?_
  refine T_cv (S := S) (q := 527) xr_106_1 xf_105.1 xf_105.2.1 xn_105 (as := []) (r := []) rfl hO527 (Nat.le_of_ble_eq_true rfl) (Nat.le_of_ble_eq_true rfl) (pc' := 4) rfl (ls' := [(0, .ref 527)]) rfl ?_
  refine T_mono (c_forget sc S rs re hgt hO527) (fun v2049 S2050 h2051 => ?_)
  rcases h2051 with ⟨hv2052, ho2053, hf2054⟩
  rw [hv2052]
  show X_T sc 106 (4, [(0, .ref 527), (1, .ref B)], [], S2050) _
  refine T_p xr_106_4 xn_106 (pc' := 5) (ls' := [(0, .ref 527), (1, .ref B)]) (st' := [.int (iI 1)]) rfl ?_
  refine T_p xr_106_5 xn_106 (pc' := 6) (ls' := [(2, .int (iI 1)), (0, .ref 527), (1, .ref B)]) (st' := []) rfl ?_
  have h2060 := (hf2054.1 528 (by omega)).trans (hA528)
  have h2061 := (hf2054.1 529 (by omega)).trans (hA529)
  have L2055 : ∀ (m2057 : Nat) (S2062 : X_S) (nx : Int) (V : Int → Int) (hg1 : Int) (vs1 : Int → Int) (pl1 : Int → Int) (hO7 : S2062.1 527 = .inr (9, [.ref 501, .ref 504, .int (iI 0), .int (iI (-1)), .ref 528, .ref 529, .int (iI hg1)])) (hvs1 : S2062.1 528 = .inl (.int, 30, .inl fun k : Nat => iI (vs1 (k : Int)))) (hpl1 : S2062.1 529 = .inl (.int, 16, .inl fun k : Nat => iI (pl1 (k : Int)))) (hF2059 : X_Fr (fun q => 527 ≤ q ∧ q ≤ 529) S2050 S2062) (hnx : 1 ≤ nx ∧ nx ≤ nc + 1) (hI : nx ≤ nc → X_Wr N nx (nx - 1) V vs1 ∧ X_wo G (fun w => gD G w 6 0) (fun w => gD G w 7 0) N nc (nc + 1 - nx).toNat nx V = (X_wk G (fun w => gD G w 6 0) (fun w => gD G w 7 0) N nc)) (hE : nx = nc + 1 → vs1 0 = V 0 ∧ (X_wk G (fun w => gD G w 6 0) (fun w => gD G w 7 0) N nc) = (0, -1, V 0)) (hm2058 : nc + 1 - nx < m2057), X_T sc 106 (6, [(2, .int (iI nx)), (0, .ref 527), (1, .ref B)], [], S2062) Q := by
    intro m2057
    induction m2057 with
    | zero =>
      intro S2062 nx V hg1 vs1 pl1 hO7 hvs1 hpl1 hF2059 hnx hI hE hm2058
      exact (show False by omega).elim
    | succ m2057 ih2056 =>
      intro S2062 nx V hg1 vs1 pl1 hO7 hvs1 hpl1 hF2059 hnx hI hE hm2058
      refine T_p xr_106_6 xn_106 (pc' := 7) (ls' := [(2, .int (iI nx)), (0, .ref 527), (1, .ref B)]) (st' := [.int (iI nx)]) rfl ?_
      refine T_p xr_106_7 xn_106 (pc' := 8) (ls' := [(2, .int (iI nx)), (0, .ref 527), (1, .ref B)]) (st' := [.ref 527, .int (iI nx)]) rfl ?_
      refine T_get xr_106_8 hO7 rfl (v := .ref 504) rfl (pc' := 11) rfl ?_
      have h2063 := (hF2059.1 504 (by omega)).trans ((hf2054.1 504 (by omega)).trans (hO504))
      refine T_get xr_106_11 h2063 rfl (v := .int (iI nc)) rfl (pc' := 14) rfl ?_
      refine T_zicmp_gt xr_106_14 (t := 110) (pc' := 17) rfl rfl (fun c2064 => ?_) (fun c2064 => ?_)
      · skip
        have c2064 : nc < nx := c2064
        refine T_p xr_106_110 xn_106 (pc' := 111) (ls' := [(2, .int (iI nx)), (0, .ref 527), (1, .ref B)]) (st' := [.ref 527]) rfl ?_
        refine T_p xr_106_111 xn_106 (pc' := 112) (ls' := [(2, .int (iI nx)), (0, .ref 527), (1, .ref B)]) (st' := [.ref 527, .ref 527]) rfl ?_
        refine T_get xr_106_112 hO7 rfl (v := .ref 528) rfl (pc' := 115) rfl ?_
        refine T_p xr_106_115 xn_106 (pc' := 116) (ls' := [(2, .int (iI nx)), (0, .ref 527), (1, .ref B)]) (st' := [.int (iI 0), .ref 528, .ref 527]) rfl ?_
        refine T_ziald xr_106_116 hvs1 (pc' := 117) rfl ?_
        refine T_put xr_106_117 hO7 rfl (Nat.le_of_ble_eq_true rfl) rfl (fs' := [.ref 501, .ref 504, .int (iI (vs1 0)), .int (iI (-1)), .ref 528, .ref 529, .int (iI hg1)]) rfl (pc' := 120) rfl (fun S2065 h2066 n2067 e2068 => ?_)
        refine T_p xr_106_120 xn_106 (pc' := 121) (ls' := [(2, .int (iI nx)), (0, .ref 527), (1, .ref B)]) (st' := [.int (iI 0)]) rfl ?_
        refine T_iret xr_106_121 xf_106.2.2 rfl ?_
        refine hQ _ _ ?_
        have h2069 := (n2067 528 (by decide)).trans (hvs1)
        have h2070 := (n2067 529 (by decide)).trans (hpl1)
        obtain ⟨hv0, hXe⟩ := hE (show nx = nc + 1 by omega)
        have hRR : (X_wk G (fun w => gD G w 6 0) (fun w => gD G w 7 0) N nc) = (0, -1, V 0) := hXe
        exact ⟨vs1, pl1, hg1, by rw [hRR], by rw [hRR]; exact (show _ = _ from by rw [← hv0]; exact h2066), h2069, h2070, (((X_Fr.rf).tr (X_Fr.mono ⟨hf2054.1, hf2054.2⟩ (fun q hq => (by omega)))).tr (X_Fr.mono ⟨hF2059.1, hF2059.2⟩ (fun q hq => (by omega)))).tr (X_Fr.of n2067 e2068 (by omega))⟩
      · skip
        have c2064 : ¬ (nc < nx) := c2064
        obtain ⟨hW, hXn⟩ := hI (show nx ≤ nc by omega)
        have hwA := X_wn_A hR (show 1 ≤ nx ∧ nx ≤ nc by omega)
        have hnp : nx < nc → nP nx = N 3 nx := fun z => (hnd nx (by omega) z).2.2.2.1
        refine T_p xr_106_17 xn_106 (pc' := 18) (ls' := [(2, .int (iI nx)), (0, .ref 527), (1, .ref B)]) (st' := [.int (iI nx)]) rfl ?_
        refine T_p xr_106_18 xn_106 (pc' := 19) (ls' := [(2, .int (iI nx)), (0, .ref 527), (1, .ref B)]) (st' := [.ref 527, .int (iI nx)]) rfl ?_
        refine T_get xr_106_19 hO7 rfl (v := .ref 504) rfl (pc' := 22) rfl ?_
        refine T_get xr_106_22 h2063 rfl (v := .int (iI nc)) rfl (pc' := 25) rfl ?_
        refine T_zicmp_ge xr_106_25 (t := 40) (pc' := 28) rfl rfl (fun c2071 => ?_) (fun c2071 => ?_)
        · skip
          have c2071 : nc ≤ nx := c2071
          refine T_p xr_106_40 xn_106 (pc' := 41) (ls' := [(2, .int (iI nx)), (0, .ref 527), (1, .ref B)]) (st' := [.int (iI (-1))]) rfl ?_
          refine T_ie (y := iI (X_wn N nc nx)) (by unfold X_wn; first | rw [if_pos (by omega), hnp (by omega)] | rw [if_neg (by omega)]) ?_
          refine T_p xr_106_41 xn_106 (pc' := 42) (ls' := [(3, .int (iI (X_wn N nc nx))), (2, .int (iI nx)), (0, .ref 527), (1, .ref B)]) (st' := []) rfl ?_
          refine T_p xr_106_42 xn_106 (pc' := 43) (ls' := [(3, .int (iI (X_wn N nc nx))), (2, .int (iI nx)), (0, .ref 527), (1, .ref B)]) (st' := [.int (iI nx)]) rfl ?_
          refine T_p xr_106_43 xn_106 (pc' := 44) (ls' := [(3, .int (iI (X_wn N nc nx))), (2, .int (iI nx)), (0, .ref 527), (1, .ref B)]) (st' := [.int (iI 1), .int (iI nx)]) rfl ?_
          refine T_zisub xr_106_44 (z := nx - 1) rfl (pc' := 45) rfl ?_
          refine T_p xr_106_45 xn_106 (pc' := 47) (ls' := [(4, .int (iI (nx - 1))), (3, .int (iI (X_wn N nc nx))), (2, .int (iI nx)), (0, .ref 527), (1, .ref B)]) (st' := []) rfl ?_
          refine T_p xr_106_47 xn_106 (pc' := 48) (ls' := [(4, .int (iI (nx - 1))), (3, .int (iI (X_wn N nc nx))), (2, .int (iI nx)), (0, .ref 527), (1, .ref B)]) (st' := [.int (iI 0)]) rfl ?_
          refine T_p xr_106_48 xn_106 (pc' := 50) (ls' := [(5, .int (iI 0)), (4, .int (iI (nx - 1))), (3, .int (iI (X_wn N nc nx))), (2, .int (iI nx)), (0, .ref 527), (1, .ref B)]) (st' := []) rfl ?_
          have L2072 : ∀ (m2074 : Nat) (S2077 : X_S) (lv : Int) (n : Int) (V1 : Int → Int) (hg2 : Int) (vs2 : Int → Int) (pl2 : Int → Int) (hO72 : S2077.1 527 = .inr (9, [.ref 501, .ref 504, .int (iI 0), .int (iI (-1)), .ref 528, .ref 529, .int (iI hg2)])) (hvs2 : S2077.1 528 = .inl (.int, 30, .inl fun k : Nat => iI (vs2 (k : Int)))) (hpl2 : S2077.1 529 = .inl (.int, 16, .inl fun k : Nat => iI (pl2 (k : Int)))) (hF2076 : X_Fr (fun q => 527 ≤ q ∧ q ≤ 529) S2062 S2077) (hlv : 0 ≤ lv ∧ lv ≤ 30) (hln : -1 ≤ n ∧ n + lv ≤ nx - 1) (hA : X_An N (nx - 1) n) (hAo : X_An N n (X_wn N nc nx)) (hX2 : X_wi G (fun w => gD G w 6 0) (fun w => gD G w 7 0) N nc (X_wn N nc nx) (31 - lv).toNat n V1 = X_wi G (fun w => gD G w 6 0) (fun w => gD G w 7 0) N nc (X_wn N nc nx) 31 (nx - 1) V) (hW2 : X_Wr N nx n V1 vs2) (hm2075 : 30 - lv < m2074), X_T sc 106 (50, [(5, .int (iI lv)), (4, .int (iI n)), (3, .int (iI (X_wn N nc nx))), (2, .int (iI nx)), (0, .ref 527), (1, .ref B)], [], S2077) Q := by
            intro m2074
            induction m2074 with
            | zero =>
              intro S2077 lv n V1 hg2 vs2 pl2 hO72 hvs2 hpl2 hF2076 hlv hln hA hAo hX2 hW2 hm2075
              exact (show False by omega).elim
            | succ m2074 ih2073 =>
              intro S2077 lv n V1 hg2 vs2 pl2 hO72 hvs2 hpl2 hF2076 hlv hln hA hAo hX2 hW2 hm2075
              refine T_p xr_106_50 xn_106 (pc' := 52) (ls' := [(5, .int (iI lv)), (4, .int (iI n)), (3, .int (iI (X_wn N nc nx))), (2, .int (iI nx)), (0, .ref 527), (1, .ref B)]) (st' := [.int (iI lv)]) rfl ?_
              refine T_p xr_106_52 xn_106 (pc' := 54) (ls' := [(5, .int (iI lv)), (4, .int (iI n)), (3, .int (iI (X_wn N nc nx))), (2, .int (iI nx)), (0, .ref 527), (1, .ref B)]) (st' := [.int (iI 30), .int (iI lv)]) rfl ?_
              refine T_zicmp_ge xr_106_54 (t := 104) (pc' := 57) rfl rfl (fun c2078 => ?_) (fun c2078 => ?_)
              · skip
                have c2078 : 30 ≤ lv := c2078
                refine T_ziinc xr_106_104 xn_106 (a := nx) (z := nx + 1) rfl (Nat.le_of_ble_eq_true rfl) (by omega) (ls' := [(2, .int (iI (nx + 1))), (5, .int (iI lv)), (4, .int (iI n)), (3, .int (iI (X_wn N nc nx))), (0, .ref 527), (1, .ref B)]) rfl (pc' := 107) rfl ?_
                refine T_p xr_106_107 xn_106 (pc' := 6) (ls' := [(2, .int (iI (nx + 1))), (5, .int (iI lv)), (4, .int (iI n)), (3, .int (iI (X_wn N nc nx))), (0, .ref 527), (1, .ref B)]) (st' := []) rfl ?_
                have hno : n = X_wn N nc nx := by
                  have h1 := hAo.le t0 (by omega) (by omega)
                  omega
                have hRI : X_wi G (fun w => gD G w 6 0) (fun w => gD G w 7 0) N nc (X_wn N nc nx) 31 (nx - 1) V = ((0, n), V1) := hX2.symm.trans (X_wi_e (by omega))
                have hXs := X_wo_s (show nx ≤ nc by omega) hRI
                rw [hXn] at hXs
                refine T_sub (ls := [(2, .int (iI (nx + 1))), (0, .ref 527), (1, .ref B)]) ⟨rfl, rfl, rfl, trivial⟩ rfl rfl ?_
                exact ih2056 S2077 (nx + 1) V1 hg2 vs2 pl2 hO72 hvs2 hpl2 (hF2059.tr ((X_Fr.rf).tr (X_Fr.mono ⟨hF2076.1, hF2076.2⟩ (fun q hq => (by omega))))) (by omega) (fun z => ⟨by
                      rw [show nx + 1 - 1 = nx by omega]
                      refine X_Wr.nx hW2 (by omega) ?_
                      rw [hno]; unfold X_wn; rw [if_pos (by omega)], hXs.symm⟩) (fun z => ⟨by
                      refine hW2 0 (Int.le_refl 0) (by omega) (fun y => ?_)
                      have hn1 : n = -1 := by rw [hno]; unfold X_wn; rw [if_neg (by omega)]
                      rw [hn1] at y
                      have := X_An_neg y
                      omega, by rw [hXs, z, show nc + 1 - (nc + 1) = 0 by omega]; rfl⟩) (by omega)
              · skip
                have c2078 : ¬ (30 ≤ lv) := c2078
                refine T_p xr_106_57 xn_106 (pc' := 59) (ls' := [(5, .int (iI lv)), (4, .int (iI n)), (3, .int (iI (X_wn N nc nx))), (2, .int (iI nx)), (0, .ref 527), (1, .ref B)]) (st' := [.int (iI n)]) rfl ?_
                refine T_p xr_106_59 xn_106 (pc' := 60) (ls' := [(5, .int (iI lv)), (4, .int (iI n)), (3, .int (iI (X_wn N nc nx))), (2, .int (iI nx)), (0, .ref 527), (1, .ref B)]) (st' := [.int (iI (X_wn N nc nx)), .int (iI n)]) rfl ?_
                refine T_zicmp_le xr_106_60 (t := 104) (pc' := 63) rfl rfl (fun c2079 => ?_) (fun c2079 => ?_)
                · skip
                  have c2079 : n ≤ (X_wn N nc nx) := c2079
                  refine T_ziinc xr_106_104 xn_106 (a := nx) (z := nx + 1) rfl (Nat.le_of_ble_eq_true rfl) (by omega) (ls' := [(2, .int (iI (nx + 1))), (5, .int (iI lv)), (4, .int (iI n)), (3, .int (iI (X_wn N nc nx))), (0, .ref 527), (1, .ref B)]) rfl (pc' := 107) rfl ?_
                  refine T_p xr_106_107 xn_106 (pc' := 6) (ls' := [(2, .int (iI (nx + 1))), (5, .int (iI lv)), (4, .int (iI n)), (3, .int (iI (X_wn N nc nx))), (0, .ref 527), (1, .ref B)]) (st' := []) rfl ?_
                  have hno : n = X_wn N nc nx := by
                    have h1 := hAo.le t0 (by omega) (by omega)
                    omega
                  have hRI : X_wi G (fun w => gD G w 6 0) (fun w => gD G w 7 0) N nc (X_wn N nc nx) 31 (nx - 1) V = ((0, n), V1) := hX2.symm.trans (X_wi_e (by omega))
                  have hXs := X_wo_s (show nx ≤ nc by omega) hRI
                  rw [hXn] at hXs
                  refine T_sub (ls := [(2, .int (iI (nx + 1))), (0, .ref 527), (1, .ref B)]) ⟨rfl, rfl, rfl, trivial⟩ rfl rfl ?_
                  exact ih2056 S2077 (nx + 1) V1 hg2 vs2 pl2 hO72 hvs2 hpl2 (hF2059.tr ((X_Fr.rf).tr (X_Fr.mono ⟨hF2076.1, hF2076.2⟩ (fun q hq => (by omega))))) (by omega) (fun z => ⟨by
                        rw [show nx + 1 - 1 = nx by omega]
                        refine X_Wr.nx hW2 (by omega) ?_
                        rw [hno]; unfold X_wn; rw [if_pos (by omega)], hXs.symm⟩) (fun z => ⟨by
                        refine hW2 0 (Int.le_refl 0) (by omega) (fun y => ?_)
                        have hn1 : n = -1 := by rw [hno]; unfold X_wn; rw [if_neg (by omega)]
                        rw [hn1] at y
                        have := X_An_neg y
                        omega, by rw [hXs, z, show nc + 1 - (nc + 1) = 0 by omega]; rfl⟩) (by omega)
                · skip
                  have c2079 : ¬ (n ≤ (X_wn N nc nx)) := c2079
                  refine T_p xr_106_63 xn_106 (pc' := 64) (ls' := [(5, .int (iI lv)), (4, .int (iI n)), (3, .int (iI (X_wn N nc nx))), (2, .int (iI nx)), (0, .ref 527), (1, .ref B)]) (st' := [.ref 527]) rfl ?_
                  refine T_p xr_106_64 xn_106 (pc' := 65) (ls' := [(5, .int (iI lv)), (4, .int (iI n)), (3, .int (iI (X_wn N nc nx))), (2, .int (iI nx)), (0, .ref 527), (1, .ref B)]) (st' := [.ref B, .ref 527]) rfl ?_
                  refine T_p xr_106_65 xn_106 (pc' := 67) (ls' := [(5, .int (iI lv)), (4, .int (iI n)), (3, .int (iI (X_wn N nc nx))), (2, .int (iI nx)), (0, .ref 527), (1, .ref B)]) (st' := [.int (iI n), .ref B, .ref 527]) rfl ?_
                  refine T_cv (S := S2077) (q := 527) xr_106_67 xf_107.1 xf_107.2.1 xn_107 (as := [.ref B, .int (iI n)]) (r := []) rfl hO72 (Nat.le_of_ble_eq_true rfl) (Nat.le_of_ble_eq_true rfl) (pc' := 70) rfl (ls' := [(0, .ref 527), (1, .ref B), (2, .int (iI n))]) rfl ?_
                  have h2080 := (hF2076.1 505 (by omega)).trans ((hF2059.1 505 (by omega)).trans ((hf2054.1 505 (by omega)).trans (hA505)))
                  have h2081 := (hF2076.1 506 (by omega)).trans ((hF2059.1 506 (by omega)).trans ((hf2054.1 506 (by omega)).trans (hA506)))
                  have h2082 := (hF2076.1 507 (by omega)).trans ((hF2059.1 507 (by omega)).trans ((hf2054.1 507 (by omega)).trans (hA507)))
                  have h2083 := (hF2076.1 508 (by omega)).trans ((hF2059.1 508 (by omega)).trans ((hf2054.1 508 (by omega)).trans (hA508)))
                  have h2084 := (hF2076.1 509 (by omega)).trans ((hF2059.1 509 (by omega)).trans ((hf2054.1 509 (by omega)).trans (hA509)))
                  have h2085 := (hF2076.1 510 (by omega)).trans ((hF2059.1 510 (by omega)).trans ((hf2054.1 510 (by omega)).trans (hA510)))
                  have h2086 := (hF2076.1 501 (by omega)).trans ((hF2059.1 501 (by omega)).trans ((hf2054.1 501 (by omega)).trans (hO501)))
                  have h2087 := (hF2076.1 504 (by omega)).trans (h2063)
                  have h2088 := (hF2076.1 B (by omega)).trans ((hF2059.1 B (by omega)).trans ((hf2054.1 B (by omega)).trans (hb0)))
                  have h2089 := (hF2076.1 (B + 1) (by omega)).trans ((hF2059.1 (B + 1) (by omega)).trans ((hf2054.1 (B + 1) (by omega)).trans (hb1)))
                  have h2090 := (hF2076.1 (B + 2) (by omega)).trans ((hF2059.1 (B + 2) (by omega)).trans ((hf2054.1 (B + 2) (by omega)).trans (hb2)))
                  have h2091 := (hF2076.1 (B + 3) (by omega)).trans ((hF2059.1 (B + 3) (by omega)).trans ((hf2054.1 (B + 3) (by omega)).trans (hb3)))
                  have h2092 := (hF2076.1 (B + 4) (by omega)).trans ((hF2059.1 (B + 4) (by omega)).trans ((hf2054.1 (B + 4) (by omega)).trans (hb4)))
                  have h2093 := (hF2076.1 (B + 5) (by omega)).trans ((hF2059.1 (B + 5) (by omega)).trans ((hf2054.1 (B + 5) (by omega)).trans (hb5)))
                  have hs2094 : C_ws S2077 B (gD G) (gW G) := C_ws.fr (P := fun q => 501 ≤ q ∧ q ≤ 529) hs ((((X_Fr.rf).tr (X_Fr.mono ⟨hf2054.1, hf2054.2⟩ (fun q hq => (by omega)))).tr (X_Fr.mono ⟨hF2059.1, hF2059.2⟩ (fun q hq => (by omega)))).tr (X_Fr.mono ⟨hF2076.1, hF2076.2⟩ (fun q hq => (by omega)))) (fun k h1 h2 => by omega)
                  have h2095 := (hF2076.1 502 (by omega)).trans ((hF2059.1 502 (by omega)).trans ((hf2054.1 502 (by omega)).trans (hA502)))
                  refine T_mono (c_workNode sc S2077 nW nF nL nP nH nC vs2 pl2 B rc rn kn G tn nc N n V1 0 (-1) hg2 h2086 h2087 hO72 h2080 h2081 h2082 h2083 h2084 h2085 hvs2 hpl2 hB ⟨h2088, h2089, h2090, h2091, h2092, ⟨f, h2093, hf⟩, ⟨by omega, by omega⟩, ⟨by omega, by omega⟩, ⟨by omega, by omega⟩⟩ hs2094 hG hGs h2095 hR (by omega) hnd hch (fun h g1 g2 g3 => by have hc := X_ch_ev hR (show 1 ≤ nx ∧ nx ≤ nc by omega) hA (by omega) (by omega) g3; have hc2 := X_lc_r (N := N) (p := n) (h := h) nc.toNat; exact hW2 _ (by omega) hc.2.1 hc.2.2)) (fun v2096 S2097 h2098 => ?_)
                  rcases h2098 with ⟨vs2099, pl2100, h2101, hv2102, hp2103, hp2104, ho2105, ha2106, ha2107, hf2108⟩
                  rw [hv2102]
                  have hcr2109 := X_ev_r (G := G) (bo := (fun w => gD G w 6 0)) (va := (fun w => gD G w 7 0)) (V := V1) (N := N) (nc := nc) (n := n)
                  show X_T sc 106 (70, [(5, .int (iI lv)), (4, .int (iI n)), (3, .int (iI (X_wn N nc nx))), (2, .int (iI nx)), (0, .ref 527), (1, .ref B)], [.int (iI ((X_ev G (fun w => gD G w 6 0) (fun w => gD G w 7 0) N nc V1 n).1))], S2097) _
                  refine T_p xr_106_70 xn_106 (pc' := 72) (ls' := [(6, .int (iI ((X_ev G (fun w => gD G w 6 0) (fun w => gD G w 7 0) N nc V1 n).1))), (5, .int (iI lv)), (4, .int (iI n)), (3, .int (iI (X_wn N nc nx))), (2, .int (iI nx)), (0, .ref 527), (1, .ref B)]) (st' := []) rfl ?_
                  refine T_p xr_106_72 xn_106 (pc' := 74) (ls' := [(6, .int (iI ((X_ev G (fun w => gD G w 6 0) (fun w => gD G w 7 0) N nc V1 n).1))), (5, .int (iI lv)), (4, .int (iI n)), (3, .int (iI (X_wn N nc nx))), (2, .int (iI nx)), (0, .ref 527), (1, .ref B)]) (st' := [.int (iI ((X_ev G (fun w => gD G w 6 0) (fun w => gD G w 7 0) N nc V1 n).1))]) rfl ?_
                  refine T_zif_eq xr_106_74 (t := 86) (pc' := 77) rfl rfl (fun c2110 => ?_) (fun c2110 => ?_)
                  · skip
                    have c2110 : ((X_ev G (fun w => gD G w 6 0) (fun w => gD G w 7 0) N nc V1 n).1) = 0 := c2110
                    refine T_p xr_106_86 xn_106 (pc' := 87) (ls' := [(6, .int (iI ((X_ev G (fun w => gD G w 6 0) (fun w => gD G w 7 0) N nc V1 n).1))), (5, .int (iI lv)), (4, .int (iI n)), (3, .int (iI (X_wn N nc nx))), (2, .int (iI nx)), (0, .ref 527), (1, .ref B)]) (st' := [.ref 527]) rfl ?_
                    refine T_get xr_106_87 ho2105 rfl (v := .ref 504) rfl (pc' := 90) rfl ?_
                    have h2111 := (hf2108.1 504 (by omega)).trans (h2087)
                    refine T_get xr_106_90 h2111 rfl (v := .ref 508) rfl (pc' := 93) rfl ?_
                    refine T_p xr_106_93 xn_106 (pc' := 95) (ls' := [(6, .int (iI ((X_ev G (fun w => gD G w 6 0) (fun w => gD G w 7 0) N nc V1 n).1))), (5, .int (iI lv)), (4, .int (iI n)), (3, .int (iI (X_wn N nc nx))), (2, .int (iI nx)), (0, .ref 527), (1, .ref B)]) (st' := [.int (iI n), .ref 508]) rfl ?_
                    have h2112 := (hf2108.1 508 (by omega)).trans (h2083)
                    refine T_ziald xr_106_95 h2112 (pc' := 96) rfl ?_
                    refine T_ie (y := iI (N 3 n)) (by rw [(hnd n (by omega) (by omega)).2.2.2.1]) ?_
                    refine T_p xr_106_96 xn_106 (pc' := 98) (ls' := [(4, .int (iI (N 3 n))), (6, .int (iI ((X_ev G (fun w => gD G w 6 0) (fun w => gD G w 7 0) N nc V1 n).1))), (5, .int (iI lv)), (3, .int (iI (X_wn N nc nx))), (2, .int (iI nx)), (0, .ref 527), (1, .ref B)]) (st' := []) rfl ?_
                    refine T_ziinc xr_106_98 xn_106 (a := lv) (z := lv + 1) rfl (Nat.le_of_ble_eq_true rfl) (by omega) (ls' := [(5, .int (iI (lv + 1))), (4, .int (iI (N 3 n))), (6, .int (iI ((X_ev G (fun w => gD G w 6 0) (fun w => gD G w 7 0) N nc V1 n).1))), (3, .int (iI (X_wn N nc nx))), (2, .int (iI nx)), (0, .ref 527), (1, .ref B)]) rfl (pc' := 101) rfl ?_
                    refine T_p xr_106_101 xn_106 (pc' := 50) (ls' := [(5, .int (iI (lv + 1))), (4, .int (iI (N 3 n))), (6, .int (iI ((X_ev G (fun w => gD G w 6 0) (fun w => gD G w 7 0) N nc V1 n).1))), (3, .int (iI (X_wn N nc nx))), (2, .int (iI nx)), (0, .ref 527), (1, .ref B)]) (st' := []) rfl ?_
                    refine T_sub (ls := [(5, .int (iI (lv + 1))), (4, .int (iI (N 3 n))), (3, .int (iI (X_wn N nc nx))), (2, .int (iI nx)), (0, .ref 527), (1, .ref B)]) ⟨rfl, rfl, rfl, rfl, rfl, rfl, trivial⟩ rfl rfl ?_
                    exact ih2073 S2097 (lv + 1) (N 3 n) (X_ug V1 n (X_ev G (fun w => gD G w 6 0) (fun w => gD G w 7 0) N nc V1 n).2) h2101 vs2099 pl2100 ho2105 ha2106 ha2107 (hF2076.tr ((X_Fr.rf).tr (X_Fr.mono ⟨hf2108.1, hf2108.2⟩ (fun q hq => (by omega))))) (by omega) (by have := t0 n (by omega) (by omega); omega) (X_An.tr hA (X_An.up (by omega) X_An.rf) t0 (by omega)) (hAo.dn (by omega)).2 (by
                          rw [← hX2, show (31 - lv).toNat = (31 - (lv + 1)).toNat + 1 by omega, X_wi_s (by omega) (by assumption)]) (X_Wr.st hW2 (by omega) (hp2103 (by assumption)) hp2104) (by omega)
                  · skip
                    have c2110 : ¬ (((X_ev G (fun w => gD G w 6 0) (fun w => gD G w 7 0) N nc V1 n).1) = 0) := c2110
                    refine T_p xr_106_77 xn_106 (pc' := 78) (ls' := [(6, .int (iI ((X_ev G (fun w => gD G w 6 0) (fun w => gD G w 7 0) N nc V1 n).1))), (5, .int (iI lv)), (4, .int (iI n)), (3, .int (iI (X_wn N nc nx))), (2, .int (iI nx)), (0, .ref 527), (1, .ref B)]) (st' := [.ref 527]) rfl ?_
                    refine T_p xr_106_78 xn_106 (pc' := 80) (ls' := [(6, .int (iI ((X_ev G (fun w => gD G w 6 0) (fun w => gD G w 7 0) N nc V1 n).1))), (5, .int (iI lv)), (4, .int (iI n)), (3, .int (iI (X_wn N nc nx))), (2, .int (iI nx)), (0, .ref 527), (1, .ref B)]) (st' := [.int (iI n), .ref 527]) rfl ?_
                    refine T_put xr_106_80 ho2105 rfl (Nat.le_of_ble_eq_true rfl) rfl (fs' := [.ref 501, .ref 504, .int (iI 0), .int (iI n), .ref 528, .ref 529, .int (iI h2101)]) rfl (pc' := 83) rfl (fun S2113 h2114 n2115 e2116 => ?_)
                    refine T_p xr_106_83 xn_106 (pc' := 85) (ls' := [(6, .int (iI ((X_ev G (fun w => gD G w 6 0) (fun w => gD G w 7 0) N nc V1 n).1))), (5, .int (iI lv)), (4, .int (iI n)), (3, .int (iI (X_wn N nc nx))), (2, .int (iI nx)), (0, .ref 527), (1, .ref B)]) (st' := [.int (iI ((X_ev G (fun w => gD G w 6 0) (fun w => gD G w 7 0) N nc V1 n).1))]) rfl ?_
                    refine T_iret xr_106_85 xf_106.2.2 rfl ?_
                    refine hQ _ _ ?_
                    have h2117 := (n2115 528 (by decide)).trans (ha2106)
                    have h2118 := (n2115 529 (by decide)).trans (ha2107)
                    have hRI : X_wi G (fun w => gD G w 6 0) (fun w => gD G w 7 0) N nc (X_wn N nc nx) 31 (nx - 1) V = (((X_ev G (fun w => gD G w 6 0) (fun w => gD G w 7 0) N nc V1 n).1, n), V1) := hX2.symm.trans (by rw [show (31 - lv).toNat = (31 - (lv + 1)).toNat + 1 by omega, X_wi_x (by omega) (by assumption)])
                    have hRR : (X_wk G (fun w => gD G w 6 0) (fun w => gD G w 7 0) N nc) = ((X_ev G (fun w => gD G w 6 0) (fun w => gD G w 7 0) N nc V1 n).1, n, 0) := hXn.symm.trans (X_wo_x (show nx ≤ nc by omega) (by assumption) hRI)
                    exact ⟨vs2099, pl2100, h2101, by rw [hRR], by rw [hRR]; exact h2114, h2117, h2118, (((((X_Fr.rf).tr (X_Fr.mono ⟨hf2054.1, hf2054.2⟩ (fun q hq => (by omega)))).tr (X_Fr.mono ⟨hF2059.1, hF2059.2⟩ (fun q hq => (by omega)))).tr (X_Fr.mono ⟨hF2076.1, hF2076.2⟩ (fun q hq => (by omega)))).tr (X_Fr.mono ⟨hf2108.1, hf2108.2⟩ (fun q hq => (by omega)))).tr (X_Fr.of n2115 e2116 (by omega))⟩
          exact L2072 ((30 : Int) + 1).toNat S2062 0 (nx - 1) V hg1 vs1 pl1 hO7 hvs1 hpl1 ((X_Fr.rf)) (by omega) (by omega) X_An.rf hwA.1 rfl hW (by omega)
        · skip
          have c2071 : ¬ (nc ≤ nx) := c2071
          refine T_p xr_106_28 xn_106 (pc' := 29) (ls' := [(2, .int (iI nx)), (0, .ref 527), (1, .ref B)]) (st' := [.ref 527]) rfl ?_
          refine T_get xr_106_29 hO7 rfl (v := .ref 504) rfl (pc' := 32) rfl ?_
          refine T_get xr_106_32 h2063 rfl (v := .ref 508) rfl (pc' := 35) rfl ?_
          refine T_p xr_106_35 xn_106 (pc' := 36) (ls' := [(2, .int (iI nx)), (0, .ref 527), (1, .ref B)]) (st' := [.int (iI nx), .ref 508]) rfl ?_
          have h2119 := (hF2059.1 508 (by omega)).trans ((hf2054.1 508 (by omega)).trans (hA508))
          refine T_ziald xr_106_36 h2119 (pc' := 37) rfl ?_
          refine T_p xr_106_37 xn_106 (pc' := 41) (ls' := [(2, .int (iI nx)), (0, .ref 527), (1, .ref B)]) (st' := [.int (iI (nP nx))]) rfl ?_
          refine T_ie (y := iI (X_wn N nc nx)) (by unfold X_wn; first | rw [if_pos (by omega), hnp (by omega)] | rw [if_neg (by omega)]) ?_
          refine T_p xr_106_41 xn_106 (pc' := 42) (ls' := [(3, .int (iI (X_wn N nc nx))), (2, .int (iI nx)), (0, .ref 527), (1, .ref B)]) (st' := []) rfl ?_
          refine T_p xr_106_42 xn_106 (pc' := 43) (ls' := [(3, .int (iI (X_wn N nc nx))), (2, .int (iI nx)), (0, .ref 527), (1, .ref B)]) (st' := [.int (iI nx)]) rfl ?_
          refine T_p xr_106_43 xn_106 (pc' := 44) (ls' := [(3, .int (iI (X_wn N nc nx))), (2, .int (iI nx)), (0, .ref 527), (1, .ref B)]) (st' := [.int (iI 1), .int (iI nx)]) rfl ?_
          refine T_zisub xr_106_44 (z := nx - 1) rfl (pc' := 45) rfl ?_
          refine T_p xr_106_45 xn_106 (pc' := 47) (ls' := [(4, .int (iI (nx - 1))), (3, .int (iI (X_wn N nc nx))), (2, .int (iI nx)), (0, .ref 527), (1, .ref B)]) (st' := []) rfl ?_
          refine T_p xr_106_47 xn_106 (pc' := 48) (ls' := [(4, .int (iI (nx - 1))), (3, .int (iI (X_wn N nc nx))), (2, .int (iI nx)), (0, .ref 527), (1, .ref B)]) (st' := [.int (iI 0)]) rfl ?_
          refine T_p xr_106_48 xn_106 (pc' := 50) (ls' := [(5, .int (iI 0)), (4, .int (iI (nx - 1))), (3, .int (iI (X_wn N nc nx))), (2, .int (iI nx)), (0, .ref 527), (1, .ref B)]) (st' := []) rfl ?_
          have L2120 : ∀ (m2122 : Nat) (S2125 : X_S) (lv : Int) (n : Int) (V1 : Int → Int) (hg2 : Int) (vs2 : Int → Int) (pl2 : Int → Int) (hO72 : S2125.1 527 = .inr (9, [.ref 501, .ref 504, .int (iI 0), .int (iI (-1)), .ref 528, .ref 529, .int (iI hg2)])) (hvs2 : S2125.1 528 = .inl (.int, 30, .inl fun k : Nat => iI (vs2 (k : Int)))) (hpl2 : S2125.1 529 = .inl (.int, 16, .inl fun k : Nat => iI (pl2 (k : Int)))) (hF2124 : X_Fr (fun q => 527 ≤ q ∧ q ≤ 529) S2062 S2125) (hlv : 0 ≤ lv ∧ lv ≤ 30) (hln : -1 ≤ n ∧ n + lv ≤ nx - 1) (hA : X_An N (nx - 1) n) (hAo : X_An N n (X_wn N nc nx)) (hX2 : X_wi G (fun w => gD G w 6 0) (fun w => gD G w 7 0) N nc (X_wn N nc nx) (31 - lv).toNat n V1 = X_wi G (fun w => gD G w 6 0) (fun w => gD G w 7 0) N nc (X_wn N nc nx) 31 (nx - 1) V) (hW2 : X_Wr N nx n V1 vs2) (hm2123 : 30 - lv < m2122), X_T sc 106 (50, [(5, .int (iI lv)), (4, .int (iI n)), (3, .int (iI (X_wn N nc nx))), (2, .int (iI nx)), (0, .ref 527), (1, .ref B)], [], S2125) Q := by
            intro m2122
            induction m2122 with
            | zero =>
              intro S2125 lv n V1 hg2 vs2 pl2 hO72 hvs2 hpl2 hF2124 hlv hln hA hAo hX2 hW2 hm2123
              exact (show False by omega).elim
            | succ m2122 ih2121 =>
              intro S2125 lv n V1 hg2 vs2 pl2 hO72 hvs2 hpl2 hF2124 hlv hln hA hAo hX2 hW2 hm2123
              refine T_p xr_106_50 xn_106 (pc' := 52) (ls' := [(5, .int (iI lv)), (4, .int (iI n)), (3, .int (iI (X_wn N nc nx))), (2, .int (iI nx)), (0, .ref 527), (1, .ref B)]) (st' := [.int (iI lv)]) rfl ?_
              refine T_p xr_106_52 xn_106 (pc' := 54) (ls' := [(5, .int (iI lv)), (4, .int (iI n)), (3, .int (iI (X_wn N nc nx))), (2, .int (iI nx)), (0, .ref 527), (1, .ref B)]) (st' := [.int (iI 30), .int (iI lv)]) rfl ?_
              refine T_zicmp_ge xr_106_54 (t := 104) (pc' := 57) rfl rfl (fun c2126 => ?_) (fun c2126 => ?_)
              · skip
                have c2126 : 30 ≤ lv := c2126
                refine T_ziinc xr_106_104 xn_106 (a := nx) (z := nx + 1) rfl (Nat.le_of_ble_eq_true rfl) (by omega) (ls' := [(2, .int (iI (nx + 1))), (5, .int (iI lv)), (4, .int (iI n)), (3, .int (iI (X_wn N nc nx))), (0, .ref 527), (1, .ref B)]) rfl (pc' := 107) rfl ?_
                refine T_p xr_106_107 xn_106 (pc' := 6) (ls' := [(2, .int (iI (nx + 1))), (5, .int (iI lv)), (4, .int (iI n)), (3, .int (iI (X_wn N nc nx))), (0, .ref 527), (1, .ref B)]) (st' := []) rfl ?_
                have hno : n = X_wn N nc nx := by
                  have h1 := hAo.le t0 (by omega) (by omega)
                  omega
                have hRI : X_wi G (fun w => gD G w 6 0) (fun w => gD G w 7 0) N nc (X_wn N nc nx) 31 (nx - 1) V = ((0, n), V1) := hX2.symm.trans (X_wi_e (by omega))
                have hXs := X_wo_s (show nx ≤ nc by omega) hRI
                rw [hXn] at hXs
                refine T_sub (ls := [(2, .int (iI (nx + 1))), (0, .ref 527), (1, .ref B)]) ⟨rfl, rfl, rfl, trivial⟩ rfl rfl ?_
                exact ih2056 S2125 (nx + 1) V1 hg2 vs2 pl2 hO72 hvs2 hpl2 (hF2059.tr ((X_Fr.rf).tr (X_Fr.mono ⟨hF2124.1, hF2124.2⟩ (fun q hq => (by omega))))) (by omega) (fun z => ⟨by
                      rw [show nx + 1 - 1 = nx by omega]
                      refine X_Wr.nx hW2 (by omega) ?_
                      rw [hno]; unfold X_wn; rw [if_pos (by omega)], hXs.symm⟩) (fun z => ⟨by
                      refine hW2 0 (Int.le_refl 0) (by omega) (fun y => ?_)
                      have hn1 : n = -1 := by rw [hno]; unfold X_wn; rw [if_neg (by omega)]
                      rw [hn1] at y
                      have := X_An_neg y
                      omega, by rw [hXs, z, show nc + 1 - (nc + 1) = 0 by omega]; rfl⟩) (by omega)
              · skip
                have c2126 : ¬ (30 ≤ lv) := c2126
                refine T_p xr_106_57 xn_106 (pc' := 59) (ls' := [(5, .int (iI lv)), (4, .int (iI n)), (3, .int (iI (X_wn N nc nx))), (2, .int (iI nx)), (0, .ref 527), (1, .ref B)]) (st' := [.int (iI n)]) rfl ?_
                refine T_p xr_106_59 xn_106 (pc' := 60) (ls' := [(5, .int (iI lv)), (4, .int (iI n)), (3, .int (iI (X_wn N nc nx))), (2, .int (iI nx)), (0, .ref 527), (1, .ref B)]) (st' := [.int (iI (X_wn N nc nx)), .int (iI n)]) rfl ?_
                refine T_zicmp_le xr_106_60 (t := 104) (pc' := 63) rfl rfl (fun c2127 => ?_) (fun c2127 => ?_)
                · skip
                  have c2127 : n ≤ (X_wn N nc nx) := c2127
                  refine T_ziinc xr_106_104 xn_106 (a := nx) (z := nx + 1) rfl (Nat.le_of_ble_eq_true rfl) (by omega) (ls' := [(2, .int (iI (nx + 1))), (5, .int (iI lv)), (4, .int (iI n)), (3, .int (iI (X_wn N nc nx))), (0, .ref 527), (1, .ref B)]) rfl (pc' := 107) rfl ?_
                  refine T_p xr_106_107 xn_106 (pc' := 6) (ls' := [(2, .int (iI (nx + 1))), (5, .int (iI lv)), (4, .int (iI n)), (3, .int (iI (X_wn N nc nx))), (0, .ref 527), (1, .ref B)]) (st' := []) rfl ?_
                  have hno : n = X_wn N nc nx := by
                    have h1 := hAo.le t0 (by omega) (by omega)
                    omega
                  have hRI : X_wi G (fun w => gD G w 6 0) (fun w => gD G w 7 0) N nc (X_wn N nc nx) 31 (nx - 1) V = ((0, n), V1) := hX2.symm.trans (X_wi_e (by omega))
                  have hXs := X_wo_s (show nx ≤ nc by omega) hRI
                  rw [hXn] at hXs
                  refine T_sub (ls := [(2, .int (iI (nx + 1))), (0, .ref 527), (1, .ref B)]) ⟨rfl, rfl, rfl, trivial⟩ rfl rfl ?_
                  exact ih2056 S2125 (nx + 1) V1 hg2 vs2 pl2 hO72 hvs2 hpl2 (hF2059.tr ((X_Fr.rf).tr (X_Fr.mono ⟨hF2124.1, hF2124.2⟩ (fun q hq => (by omega))))) (by omega) (fun z => ⟨by
                        rw [show nx + 1 - 1 = nx by omega]
                        refine X_Wr.nx hW2 (by omega) ?_
                        rw [hno]; unfold X_wn; rw [if_pos (by omega)], hXs.symm⟩) (fun z => ⟨by
                        refine hW2 0 (Int.le_refl 0) (by omega) (fun y => ?_)
                        have hn1 : n = -1 := by rw [hno]; unfold X_wn; rw [if_neg (by omega)]
                        rw [hn1] at y
                        have := X_An_neg y
                        omega, by rw [hXs, z, show nc + 1 - (nc + 1) = 0 by omega]; rfl⟩) (by omega)
                · skip
                  have c2127 : ¬ (n ≤ (X_wn N nc nx)) := c2127
                  refine T_p xr_106_63 xn_106 (pc' := 64) (ls' := [(5, .int (iI lv)), (4, .int (iI n)), (3, .int (iI (X_wn N nc nx))), (2, .int (iI nx)), (0, .ref 527), (1, .ref B)]) (st' := [.ref 527]) rfl ?_
                  refine T_p xr_106_64 xn_106 (pc' := 65) (ls' := [(5, .int (iI lv)), (4, .int (iI n)), (3, .int (iI (X_wn N nc nx))), (2, .int (iI nx)), (0, .ref 527), (1, .ref B)]) (st' := [.ref B, .ref 527]) rfl ?_
                  refine T_p xr_106_65 xn_106 (pc' := 67) (ls' := [(5, .int (iI lv)), (4, .int (iI n)), (3, .int (iI (X_wn N nc nx))), (2, .int (iI nx)), (0, .ref 527), (1, .ref B)]) (st' := [.int (iI n), .ref B, .ref 527]) rfl ?_
                  refine T_cv (S := S2125) (q := 527) xr_106_67 xf_107.1 xf_107.2.1 xn_107 (as := [.ref B, .int (iI n)]) (r := []) rfl hO72 (Nat.le_of_ble_eq_true rfl) (Nat.le_of_ble_eq_true rfl) (pc' := 70) rfl (ls' := [(0, .ref 527), (1, .ref B), (2, .int (iI n))]) rfl ?_
                  have h2128 := (hF2124.1 505 (by omega)).trans ((hF2059.1 505 (by omega)).trans ((hf2054.1 505 (by omega)).trans (hA505)))
                  have h2129 := (hF2124.1 506 (by omega)).trans ((hF2059.1 506 (by omega)).trans ((hf2054.1 506 (by omega)).trans (hA506)))
                  have h2130 := (hF2124.1 507 (by omega)).trans ((hF2059.1 507 (by omega)).trans ((hf2054.1 507 (by omega)).trans (hA507)))
                  have h2131 := (hF2124.1 508 (by omega)).trans (h2119)
                  have h2132 := (hF2124.1 509 (by omega)).trans ((hF2059.1 509 (by omega)).trans ((hf2054.1 509 (by omega)).trans (hA509)))
                  have h2133 := (hF2124.1 510 (by omega)).trans ((hF2059.1 510 (by omega)).trans ((hf2054.1 510 (by omega)).trans (hA510)))
                  have h2134 := (hF2124.1 501 (by omega)).trans ((hF2059.1 501 (by omega)).trans ((hf2054.1 501 (by omega)).trans (hO501)))
                  have h2135 := (hF2124.1 504 (by omega)).trans (h2063)
                  have h2136 := (hF2124.1 B (by omega)).trans ((hF2059.1 B (by omega)).trans ((hf2054.1 B (by omega)).trans (hb0)))
                  have h2137 := (hF2124.1 (B + 1) (by omega)).trans ((hF2059.1 (B + 1) (by omega)).trans ((hf2054.1 (B + 1) (by omega)).trans (hb1)))
                  have h2138 := (hF2124.1 (B + 2) (by omega)).trans ((hF2059.1 (B + 2) (by omega)).trans ((hf2054.1 (B + 2) (by omega)).trans (hb2)))
                  have h2139 := (hF2124.1 (B + 3) (by omega)).trans ((hF2059.1 (B + 3) (by omega)).trans ((hf2054.1 (B + 3) (by omega)).trans (hb3)))
                  have h2140 := (hF2124.1 (B + 4) (by omega)).trans ((hF2059.1 (B + 4) (by omega)).trans ((hf2054.1 (B + 4) (by omega)).trans (hb4)))
                  have h2141 := (hF2124.1 (B + 5) (by omega)).trans ((hF2059.1 (B + 5) (by omega)).trans ((hf2054.1 (B + 5) (by omega)).trans (hb5)))
                  have hs2142 : C_ws S2125 B (gD G) (gW G) := C_ws.fr (P := fun q => 501 ≤ q ∧ q ≤ 529) hs ((((X_Fr.rf).tr (X_Fr.mono ⟨hf2054.1, hf2054.2⟩ (fun q hq => (by omega)))).tr (X_Fr.mono ⟨hF2059.1, hF2059.2⟩ (fun q hq => (by omega)))).tr (X_Fr.mono ⟨hF2124.1, hF2124.2⟩ (fun q hq => (by omega)))) (fun k h1 h2 => by omega)
                  have h2143 := (hF2124.1 502 (by omega)).trans ((hF2059.1 502 (by omega)).trans ((hf2054.1 502 (by omega)).trans (hA502)))
                  refine T_mono (c_workNode sc S2125 nW nF nL nP nH nC vs2 pl2 B rc rn kn G tn nc N n V1 0 (-1) hg2 h2134 h2135 hO72 h2128 h2129 h2130 h2131 h2132 h2133 hvs2 hpl2 hB ⟨h2136, h2137, h2138, h2139, h2140, ⟨f, h2141, hf⟩, ⟨by omega, by omega⟩, ⟨by omega, by omega⟩, ⟨by omega, by omega⟩⟩ hs2142 hG hGs h2143 hR (by omega) hnd hch (fun h g1 g2 g3 => by have hc := X_ch_ev hR (show 1 ≤ nx ∧ nx ≤ nc by omega) hA (by omega) (by omega) g3; have hc2 := X_lc_r (N := N) (p := n) (h := h) nc.toNat; exact hW2 _ (by omega) hc.2.1 hc.2.2)) (fun v2144 S2145 h2146 => ?_)
                  rcases h2146 with ⟨vs2147, pl2148, h2149, hv2150, hp2151, hp2152, ho2153, ha2154, ha2155, hf2156⟩
                  rw [hv2150]
                  have hcr2157 := X_ev_r (G := G) (bo := (fun w => gD G w 6 0)) (va := (fun w => gD G w 7 0)) (V := V1) (N := N) (nc := nc) (n := n)
                  show X_T sc 106 (70, [(5, .int (iI lv)), (4, .int (iI n)), (3, .int (iI (X_wn N nc nx))), (2, .int (iI nx)), (0, .ref 527), (1, .ref B)], [.int (iI ((X_ev G (fun w => gD G w 6 0) (fun w => gD G w 7 0) N nc V1 n).1))], S2145) _
                  refine T_p xr_106_70 xn_106 (pc' := 72) (ls' := [(6, .int (iI ((X_ev G (fun w => gD G w 6 0) (fun w => gD G w 7 0) N nc V1 n).1))), (5, .int (iI lv)), (4, .int (iI n)), (3, .int (iI (X_wn N nc nx))), (2, .int (iI nx)), (0, .ref 527), (1, .ref B)]) (st' := []) rfl ?_
                  refine T_p xr_106_72 xn_106 (pc' := 74) (ls' := [(6, .int (iI ((X_ev G (fun w => gD G w 6 0) (fun w => gD G w 7 0) N nc V1 n).1))), (5, .int (iI lv)), (4, .int (iI n)), (3, .int (iI (X_wn N nc nx))), (2, .int (iI nx)), (0, .ref 527), (1, .ref B)]) (st' := [.int (iI ((X_ev G (fun w => gD G w 6 0) (fun w => gD G w 7 0) N nc V1 n).1))]) rfl ?_
                  refine T_zif_eq xr_106_74 (t := 86) (pc' := 77) rfl rfl (fun c2158 => ?_) (fun c2158 => ?_)
                  · skip
                    have c2158 : ((X_ev G (fun w => gD G w 6 0) (fun w => gD G w 7 0) N nc V1 n).1) = 0 := c2158
                    refine T_p xr_106_86 xn_106 (pc' := 87) (ls' := [(6, .int (iI ((X_ev G (fun w => gD G w 6 0) (fun w => gD G w 7 0) N nc V1 n).1))), (5, .int (iI lv)), (4, .int (iI n)), (3, .int (iI (X_wn N nc nx))), (2, .int (iI nx)), (0, .ref 527), (1, .ref B)]) (st' := [.ref 527]) rfl ?_
                    refine T_get xr_106_87 ho2153 rfl (v := .ref 504) rfl (pc' := 90) rfl ?_
                    have h2159 := (hf2156.1 504 (by omega)).trans (h2135)
                    refine T_get xr_106_90 h2159 rfl (v := .ref 508) rfl (pc' := 93) rfl ?_
                    refine T_p xr_106_93 xn_106 (pc' := 95) (ls' := [(6, .int (iI ((X_ev G (fun w => gD G w 6 0) (fun w => gD G w 7 0) N nc V1 n).1))), (5, .int (iI lv)), (4, .int (iI n)), (3, .int (iI (X_wn N nc nx))), (2, .int (iI nx)), (0, .ref 527), (1, .ref B)]) (st' := [.int (iI n), .ref 508]) rfl ?_
                    have h2160 := (hf2156.1 508 (by omega)).trans (h2131)
                    refine T_ziald xr_106_95 h2160 (pc' := 96) rfl ?_
                    refine T_ie (y := iI (N 3 n)) (by rw [(hnd n (by omega) (by omega)).2.2.2.1]) ?_
                    refine T_p xr_106_96 xn_106 (pc' := 98) (ls' := [(4, .int (iI (N 3 n))), (6, .int (iI ((X_ev G (fun w => gD G w 6 0) (fun w => gD G w 7 0) N nc V1 n).1))), (5, .int (iI lv)), (3, .int (iI (X_wn N nc nx))), (2, .int (iI nx)), (0, .ref 527), (1, .ref B)]) (st' := []) rfl ?_
                    refine T_ziinc xr_106_98 xn_106 (a := lv) (z := lv + 1) rfl (Nat.le_of_ble_eq_true rfl) (by omega) (ls' := [(5, .int (iI (lv + 1))), (4, .int (iI (N 3 n))), (6, .int (iI ((X_ev G (fun w => gD G w 6 0) (fun w => gD G w 7 0) N nc V1 n).1))), (3, .int (iI (X_wn N nc nx))), (2, .int (iI nx)), (0, .ref 527), (1, .ref B)]) rfl (pc' := 101) rfl ?_
                    refine T_p xr_106_101 xn_106 (pc' := 50) (ls' := [(5, .int (iI (lv + 1))), (4, .int (iI (N 3 n))), (6, .int (iI ((X_ev G (fun w => gD G w 6 0) (fun w => gD G w 7 0) N nc V1 n).1))), (3, .int (iI (X_wn N nc nx))), (2, .int (iI nx)), (0, .ref 527), (1, .ref B)]) (st' := []) rfl ?_
                    refine T_sub (ls := [(5, .int (iI (lv + 1))), (4, .int (iI (N 3 n))), (3, .int (iI (X_wn N nc nx))), (2, .int (iI nx)), (0, .ref 527), (1, .ref B)]) ⟨rfl, rfl, rfl, rfl, rfl, rfl, trivial⟩ rfl rfl ?_
                    exact ih2121 S2145 (lv + 1) (N 3 n) (X_ug V1 n (X_ev G (fun w => gD G w 6 0) (fun w => gD G w 7 0) N nc V1 n).2) h2149 vs2147 pl2148 ho2153 ha2154 ha2155 (hF2124.tr ((X_Fr.rf).tr (X_Fr.mono ⟨hf2156.1, hf2156.2⟩ (fun q hq => (by omega))))) (by omega) (by have := t0 n (by omega) (by omega); omega) (X_An.tr hA (X_An.up (by omega) X_An.rf) t0 (by omega)) (hAo.dn (by omega)).2 (by
                          rw [← hX2, show (31 - lv).toNat = (31 - (lv + 1)).toNat + 1 by omega, X_wi_s (by omega) (by assumption)]) (X_Wr.st hW2 (by omega) (hp2151 (by assumption)) hp2152) (by omega)
                  · skip
                    have c2158 : ¬ (((X_ev G (fun w => gD G w 6 0) (fun w => gD G w 7 0) N nc V1 n).1) = 0) := c2158
                    refine T_p xr_106_77 xn_106 (pc' := 78) (ls' := [(6, .int (iI ((X_ev G (fun w => gD G w 6 0) (fun w => gD G w 7 0) N nc V1 n).1))), (5, .int (iI lv)), (4, .int (iI n)), (3, .int (iI (X_wn N nc nx))), (2, .int (iI nx)), (0, .ref 527), (1, .ref B)]) (st' := [.ref 527]) rfl ?_
                    refine T_p xr_106_78 xn_106 (pc' := 80) (ls' := [(6, .int (iI ((X_ev G (fun w => gD G w 6 0) (fun w => gD G w 7 0) N nc V1 n).1))), (5, .int (iI lv)), (4, .int (iI n)), (3, .int (iI (X_wn N nc nx))), (2, .int (iI nx)), (0, .ref 527), (1, .ref B)]) (st' := [.int (iI n), .ref 527]) rfl ?_
                    refine T_put xr_106_80 ho2153 rfl (Nat.le_of_ble_eq_true rfl) rfl (fs' := [.ref 501, .ref 504, .int (iI 0), .int (iI n), .ref 528, .ref 529, .int (iI h2149)]) rfl (pc' := 83) rfl (fun S2161 h2162 n2163 e2164 => ?_)
                    refine T_p xr_106_83 xn_106 (pc' := 85) (ls' := [(6, .int (iI ((X_ev G (fun w => gD G w 6 0) (fun w => gD G w 7 0) N nc V1 n).1))), (5, .int (iI lv)), (4, .int (iI n)), (3, .int (iI (X_wn N nc nx))), (2, .int (iI nx)), (0, .ref 527), (1, .ref B)]) (st' := [.int (iI ((X_ev G (fun w => gD G w 6 0) (fun w => gD G w 7 0) N nc V1 n).1))]) rfl ?_
                    refine T_iret xr_106_85 xf_106.2.2 rfl ?_
                    refine hQ _ _ ?_
                    have h2165 := (n2163 528 (by decide)).trans (ha2154)
                    have h2166 := (n2163 529 (by decide)).trans (ha2155)
                    have hRI : X_wi G (fun w => gD G w 6 0) (fun w => gD G w 7 0) N nc (X_wn N nc nx) 31 (nx - 1) V = (((X_ev G (fun w => gD G w 6 0) (fun w => gD G w 7 0) N nc V1 n).1, n), V1) := hX2.symm.trans (by rw [show (31 - lv).toNat = (31 - (lv + 1)).toNat + 1 by omega, X_wi_x (by omega) (by assumption)])
                    have hRR : (X_wk G (fun w => gD G w 6 0) (fun w => gD G w 7 0) N nc) = ((X_ev G (fun w => gD G w 6 0) (fun w => gD G w 7 0) N nc V1 n).1, n, 0) := hXn.symm.trans (X_wo_x (show nx ≤ nc by omega) (by assumption) hRI)
                    exact ⟨vs2147, pl2148, h2149, by rw [hRR], by rw [hRR]; exact h2162, h2165, h2166, (((((X_Fr.rf).tr (X_Fr.mono ⟨hf2054.1, hf2054.2⟩ (fun q hq => (by omega)))).tr (X_Fr.mono ⟨hF2059.1, hF2059.2⟩ (fun q hq => (by omega)))).tr (X_Fr.mono ⟨hF2124.1, hF2124.2⟩ (fun q hq => (by omega)))).tr (X_Fr.mono ⟨hf2156.1, hf2156.2⟩ (fun q hq => (by omega)))).tr (X_Fr.of n2163 e2164 (by omega))⟩
          exact L2120 ((30 : Int) + 1).toNat S2062 0 (nx - 1) V hg1 vs1 pl1 hO7 hvs1 hpl1 ((X_Fr.rf)) (by omega) (by omega) X_An.rf hwA.1 rfl hW (by omega)
  exact L2055 ((nc + 1) + 1).toNat S2050 1 (fun _ => 0) hgt vs pl ho2053 h2060 h2061 ((X_Fr.rf)) (by omega) (fun _ => ⟨fun m h1 h2 h3 => absurd (by rw [show m = 1 - 1 by omega]; exact X_An.rf) h3, by rw [show nc + 1 - 1 = nc by omega]; rfl⟩) (fun z => absurd z (by omega)) (by omega)
