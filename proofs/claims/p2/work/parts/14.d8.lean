theorem xr_41_0 : X_row 41 0 = some (0, (.aload_n 0, 1), (0, 0, 0)) := by decide +kernel
theorem xr_41_1 : X_row 41 1 = some (1, (.getfield 9, 3), (2, 3, 24)) := by decide +kernel
theorem xr_41_4 : X_row 41 4 = some (4, (.bipush 30, 2), (0, 0, 0)) := by decide +kernel
theorem xr_41_6 : X_row 41 6 = some (6, (.if_icmp .ge 54, 3), (0, 0, 0)) := by decide +kernel
theorem xr_41_9 : X_row 41 9 = some (9, (.aload_n 0, 1), (0, 0, 0)) := by decide +kernel
theorem xr_41_10 : X_row 41 10 = some (10, (.getfield 15, 3), (2, 4, 26)) := by decide +kernel
theorem xr_41_13 : X_row 41 13 = some (13, (.aload_n 0, 1), (0, 0, 0)) := by decide +kernel
theorem xr_41_14 : X_row 41 14 = some (14, (.getfield 9, 3), (2, 3, 24)) := by decide +kernel
theorem xr_41_17 : X_row 41 17 = some (17, (.iload_n 1, 1), (0, 0, 0)) := by decide +kernel
theorem xr_41_18 : X_row 41 18 = some (18, (.iastore, 1), (0, 0, 0)) := by decide +kernel
theorem xr_41_19 : X_row 41 19 = some (19, (.aload_n 0, 1), (0, 0, 0)) := by decide +kernel
theorem xr_41_20 : X_row 41 20 = some (20, (.getfield 19, 3), (2, 5, 28)) := by decide +kernel
theorem xr_41_23 : X_row 41 23 = some (23, (.aload_n 0, 1), (0, 0, 0)) := by decide +kernel
theorem xr_41_24 : X_row 41 24 = some (24, (.getfield 9, 3), (2, 3, 24)) := by decide +kernel
theorem xr_41_27 : X_row 41 27 = some (27, (.iload_n 2, 1), (0, 0, 0)) := by decide +kernel
theorem xr_41_28 : X_row 41 28 = some (28, (.iastore, 1), (0, 0, 0)) := by decide +kernel
theorem xr_41_29 : X_row 41 29 = some (29, (.aload_n 0, 1), (0, 0, 0)) := by decide +kernel
theorem xr_41_30 : X_row 41 30 = some (30, (.getfield 22, 3), (2, 6, 30)) := by decide +kernel
theorem xr_41_33 : X_row 41 33 = some (33, (.aload_n 0, 1), (0, 0, 0)) := by decide +kernel
theorem xr_41_34 : X_row 41 34 = some (34, (.getfield 9, 3), (2, 3, 24)) := by decide +kernel
theorem xr_41_37 : X_row 41 37 = some (37, (.iload_n 3, 1), (0, 0, 0)) := by decide +kernel
theorem xr_41_38 : X_row 41 38 = some (38, (.iastore, 1), (0, 0, 0)) := by decide +kernel
theorem xr_41_39 : X_row 41 39 = some (39, (.aload_n 0, 1), (0, 0, 0)) := by decide +kernel
theorem xr_41_40 : X_row 41 40 = some (40, (.getfield 25, 3), (2, 7, 32)) := by decide +kernel
theorem xr_41_43 : X_row 41 43 = some (43, (.aload_n 0, 1), (0, 0, 0)) := by decide +kernel
theorem xr_41_44 : X_row 41 44 = some (44, (.getfield 9, 3), (2, 3, 24)) := by decide +kernel
theorem xr_41_47 : X_row 41 47 = some (47, (.iload 4, 2), (0, 0, 0)) := by decide +kernel
theorem xr_41_49 : X_row 41 49 = some (49, (.iastore, 1), (0, 0, 0)) := by decide +kernel
theorem xr_41_50 : X_row 41 50 = some (50, (.aload_n 0, 1), (0, 0, 0)) := by decide +kernel
theorem xr_41_51 : X_row 41 51 = some (51, (.dup, 1), (0, 0, 0)) := by decide +kernel
theorem xr_41_52 : X_row 41 52 = some (52, (.getfield 9, 3), (2, 3, 24)) := by decide +kernel
theorem xr_41_55 : X_row 41 55 = some (55, (.iconst 1, 1), (0, 0, 0)) := by decide +kernel
theorem xr_41_56 : X_row 41 56 = some (56, (.iadd, 1), (0, 0, 0)) := by decide +kernel
theorem xr_41_57 : X_row 41 57 = some (57, (.putfield 9, 3), (2, 3, 24)) := by decide +kernel
theorem xr_41_60 : X_row 41 60 = some (60, (.return_, 1), (0, 0, 0)) := by decide +kernel
theorem xr_42_0 : X_row 42 0 = some (0, (.aload_n 0, 1), (0, 0, 0)) := by decide +kernel
theorem xr_42_1 : X_row 42 1 = some (1, (.getfield 9, 3), (2, 3, 24)) := by decide +kernel
theorem xr_42_4 : X_row 42 4 = some (4, (.ifCond .le 39, 3), (0, 0, 0)) := by decide +kernel
theorem xr_42_7 : X_row 42 7 = some (7, (.aload_n 0, 1), (0, 0, 0)) := by decide +kernel
theorem xr_42_8 : X_row 42 8 = some (8, (.getfield 28, 3), (2, 8, 34)) := by decide +kernel
theorem xr_42_11 : X_row 42 11 = some (11, (.aload_n 0, 1), (0, 0, 0)) := by decide +kernel
theorem xr_42_12 : X_row 42 12 = some (12, (.getfield 9, 3), (2, 3, 24)) := by decide +kernel
theorem xr_42_15 : X_row 42 15 = some (15, (.iconst 1, 1), (0, 0, 0)) := by decide +kernel
theorem xr_42_16 : X_row 42 16 = some (16, (.isub, 1), (0, 0, 0)) := by decide +kernel
theorem xr_42_17 : X_row 42 17 = some (17, (.iload_n 1, 1), (0, 0, 0)) := by decide +kernel
theorem xr_42_18 : X_row 42 18 = some (18, (.iastore, 1), (0, 0, 0)) := by decide +kernel
theorem xr_42_19 : X_row 42 19 = some (19, (.aload_n 0, 1), (0, 0, 0)) := by decide +kernel
theorem xr_42_20 : X_row 42 20 = some (20, (.getfield 31, 3), (2, 9, 36)) := by decide +kernel
theorem xr_42_23 : X_row 42 23 = some (23, (.aload_n 0, 1), (0, 0, 0)) := by decide +kernel
theorem xr_42_24 : X_row 42 24 = some (24, (.getfield 9, 3), (2, 3, 24)) := by decide +kernel
theorem xr_42_27 : X_row 42 27 = some (27, (.iconst 1, 1), (0, 0, 0)) := by decide +kernel
theorem xr_42_28 : X_row 42 28 = some (28, (.isub, 1), (0, 0, 0)) := by decide +kernel
theorem xr_42_29 : X_row 42 29 = some (29, (.iload_n 2, 1), (0, 0, 0)) := by decide +kernel
theorem xr_42_30 : X_row 42 30 = some (30, (.iastore, 1), (0, 0, 0)) := by decide +kernel
theorem xr_42_31 : X_row 42 31 = some (31, (.aload_n 0, 1), (0, 0, 0)) := by decide +kernel
theorem xr_42_32 : X_row 42 32 = some (32, (.getfield 34, 3), (2, 10, 38)) := by decide +kernel
theorem xr_42_35 : X_row 42 35 = some (35, (.aload_n 0, 1), (0, 0, 0)) := by decide +kernel
theorem xr_42_36 : X_row 42 36 = some (36, (.getfield 9, 3), (2, 3, 24)) := by decide +kernel
theorem xr_42_39 : X_row 42 39 = some (39, (.iconst 1, 1), (0, 0, 0)) := by decide +kernel
theorem xr_42_40 : X_row 42 40 = some (40, (.isub, 1), (0, 0, 0)) := by decide +kernel
theorem xr_42_41 : X_row 42 41 = some (41, (.lload_n 3, 1), (0, 0, 0)) := by decide +kernel
theorem xr_42_42 : X_row 42 42 = some (42, (.lastore, 1), (0, 0, 0)) := by decide +kernel
theorem xr_42_43 : X_row 42 43 = some (43, (.return_, 1), (0, 0, 0)) := by decide +kernel
theorem xr_46_0 : X_row 46 0 = some (0, (.aload_n 0, 1), (0, 0, 0)) := by decide +kernel
theorem xr_46_1 : X_row 46 1 = some (1, (.getfield 44, 3), (2, 0, 18)) := by decide +kernel
theorem xr_46_4 : X_row 46 4 = some (4, (.getfield 98, 3), (1, 0, 17)) := by decide +kernel
theorem xr_46_7 : X_row 46 7 = some (7, (.getfield 123, 3), (0, 7, 13)) := by decide +kernel
theorem xr_46_10 : X_row 46 10 = some (10, (.iload_n 1, 1), (0, 0, 0)) := by decide +kernel
theorem xr_46_11 : X_row 46 11 = some (11, (.aaload, 1), (0, 0, 0)) := by decide +kernel
theorem xr_46_12 : X_row 46 12 = some (12, (.astore 5, 2), (0, 0, 0)) := by decide +kernel
theorem xr_46_14 : X_row 46 14 = some (14, (.lload_n 3, 1), (0, 0, 0)) := by decide +kernel
theorem xr_46_15 : X_row 46 15 = some (15, (.lstore 6, 2), (0, 0, 0)) := by decide +kernel
theorem xr_46_17 : X_row 46 17 = some (17, (.aload 5, 2), (0, 0, 0)) := by decide +kernel
theorem xr_46_19 : X_row 46 19 = some (19, (.getfield 149, 3), (8, 4, 3)) := by decide +kernel
theorem xr_46_22 : X_row 46 22 = some (22, (.iconst 1, 1), (0, 0, 0)) := by decide +kernel
theorem xr_46_23 : X_row 46 23 = some (23, (.isub, 1), (0, 0, 0)) := by decide +kernel
theorem xr_46_24 : X_row 46 24 = some (24, (.istore 8, 2), (0, 0, 0)) := by decide +kernel
theorem xr_46_26 : X_row 46 26 = some (26, (.iload 8, 2), (0, 0, 0)) := by decide +kernel
theorem xr_46_28 : X_row 46 28 = some (28, (.ifCond .lt 119, 3), (0, 0, 0)) := by decide +kernel
theorem xr_46_31 : X_row 46 31 = some (31, (.aload_n 0, 1), (0, 0, 0)) := by decide +kernel
theorem xr_46_32 : X_row 46 32 = some (32, (.getfield 38, 3), (2, 11, 40)) := by decide +kernel
theorem xr_46_35 : X_row 46 35 = some (35, (.iload 8, 2), (0, 0, 0)) := by decide +kernel
theorem xr_46_37 : X_row 46 37 = some (37, (.iaload, 1), (0, 0, 0)) := by decide +kernel
theorem xr_46_38 : X_row 46 38 = some (38, (.istore 9, 2), (0, 0, 0)) := by decide +kernel
theorem xr_46_40 : X_row 46 40 = some (40, (.aload_n 0, 1), (0, 0, 0)) := by decide +kernel
theorem xr_46_41 : X_row 46 41 = some (41, (.getfield 41, 3), (2, 12, 42)) := by decide +kernel
theorem xr_46_44 : X_row 46 44 = some (44, (.iload 8, 2), (0, 0, 0)) := by decide +kernel
theorem xr_46_46 : X_row 46 46 = some (46, (.iaload, 1), (0, 0, 0)) := by decide +kernel
theorem xr_46_47 : X_row 46 47 = some (47, (.istore 10, 2), (0, 0, 0)) := by decide +kernel
theorem xr_46_49 : X_row 46 49 = some (49, (.aload_n 0, 1), (0, 0, 0)) := by decide +kernel
theorem xr_46_50 : X_row 46 50 = some (50, (.getfield 44, 3), (2, 0, 18)) := by decide +kernel
theorem xr_46_53 : X_row 46 53 = some (53, (.iload 9, 2), (0, 0, 0)) := by decide +kernel
theorem xr_46_55 : X_row 46 55 = some (55, (.iload 10, 2), (0, 0, 0)) := by decide +kernel
theorem xr_46_57 : X_row 46 57 = some (57, (.iload_n 1, 1), (0, 0, 0)) := by decide +kernel
theorem xr_46_58 : X_row 46 58 = some (58, (.iload 8, 2), (0, 0, 0)) := by decide +kernel
theorem xr_46_60 : X_row 46 60 = some (60, (.invokevirtual 138, 3), (27, 24, 0)) := by decide +kernel
theorem xr_46_63 : X_row 46 63 = some (63, (.lstore 11, 2), (0, 0, 0)) := by decide +kernel
theorem xr_46_65 : X_row 46 65 = some (65, (.lload 11, 2), (0, 0, 0)) := by decide +kernel
theorem xr_46_67 : X_row 46 67 = some (67, (.lconst 0, 1), (0, 0, 0)) := by decide +kernel
theorem xr_46_68 : X_row 46 68 = some (68, (.lcmp, 1), (0, 0, 0)) := by decide +kernel
theorem xr_46_69 : X_row 46 69 = some (69, (.ifCond .le 7, 3), (0, 0, 0)) := by decide +kernel
theorem xr_46_72 : X_row 46 72 = some (72, (.iconst 1, 1), (0, 0, 0)) := by decide +kernel
theorem xr_46_73 : X_row 46 73 = some (73, (.goto 4, 3), (0, 0, 0)) := by decide +kernel
theorem xr_46_76 : X_row 46 76 = some (76, (.iconst 0, 1), (0, 0, 0)) := by decide +kernel
theorem xr_46_77 : X_row 46 77 = some (77, (.istore 13, 2), (0, 0, 0)) := by decide +kernel
theorem xr_46_79 : X_row 46 79 = some (79, (.aload_n 0, 1), (0, 0, 0)) := by decide +kernel
theorem xr_46_80 : X_row 46 80 = some (80, (.iload 9, 2), (0, 0, 0)) := by decide +kernel
theorem xr_46_82 : X_row 46 82 = some (82, (.iload 10, 2), (0, 0, 0)) := by decide +kernel
theorem xr_46_84 : X_row 46 84 = some (84, (.iload_n 2, 1), (0, 0, 0)) := by decide +kernel
theorem xr_46_85 : X_row 46 85 = some (85, (.iload 8, 2), (0, 0, 0)) := by decide +kernel
theorem xr_46_87 : X_row 46 87 = some (87, (.invokevirtual 66, 3), (41, 2, 0)) := by decide +kernel
theorem xr_46_90 : X_row 46 90 = some (90, (.aload_n 0, 1), (0, 0, 0)) := by decide +kernel
theorem xr_46_91 : X_row 46 91 = some (91, (.aload 5, 2), (0, 0, 0)) := by decide +kernel
theorem xr_46_93 : X_row 46 93 = some (93, (.getfield 151, 3), (8, 11, 7)) := by decide +kernel
theorem xr_46_96 : X_row 46 96 = some (96, (.iload 8, 2), (0, 0, 0)) := by decide +kernel
theorem xr_46_98 : X_row 46 98 = some (98, (.iaload, 1), (0, 0, 0)) := by decide +kernel
theorem xr_46_99 : X_row 46 99 = some (99, (.aload 5, 2), (0, 0, 0)) := by decide +kernel
theorem xr_46_101 : X_row 46 101 = some (101, (.getfield 154, 3), (8, 12, 9)) := by decide +kernel
theorem xr_46_104 : X_row 46 104 = some (104, (.iload 8, 2), (0, 0, 0)) := by decide +kernel
theorem xr_46_106 : X_row 46 106 = some (106, (.iaload, 1), (0, 0, 0)) := by decide +kernel
theorem xr_46_107 : X_row 46 107 = some (107, (.iload 13, 2), (0, 0, 0)) := by decide +kernel
theorem xr_46_109 : X_row 46 109 = some (109, (.ifCond .eq 11, 3), (0, 0, 0)) := by decide +kernel
theorem xr_46_112 : X_row 46 112 = some (112, (.lload 6, 2), (0, 0, 0)) := by decide +kernel
theorem xr_46_114 : X_row 46 114 = some (114, (.lload 11, 2), (0, 0, 0)) := by decide +kernel
theorem xr_46_116 : X_row 46 116 = some (116, (.lrem, 1), (0, 0, 0)) := by decide +kernel
theorem xr_46_117 : X_row 46 117 = some (117, (.goto 5, 3), (0, 0, 0)) := by decide +kernel
theorem xr_46_120 : X_row 46 120 = some (120, (.lload 6, 2), (0, 0, 0)) := by decide +kernel
theorem xr_46_122 : X_row 46 122 = some (122, (.invokevirtual 70, 3), (42, 4, 0)) := by decide +kernel
theorem xr_46_125 : X_row 46 125 = some (125, (.iload 13, 2), (0, 0, 0)) := by decide +kernel
theorem xr_46_127 : X_row 46 127 = some (127, (.ifCond .eq 11, 3), (0, 0, 0)) := by decide +kernel
theorem xr_46_130 : X_row 46 130 = some (130, (.lload 6, 2), (0, 0, 0)) := by decide +kernel
theorem xr_46_132 : X_row 46 132 = some (132, (.lload 11, 2), (0, 0, 0)) := by decide +kernel
theorem xr_46_134 : X_row 46 134 = some (134, (.ldiv, 1), (0, 0, 0)) := by decide +kernel
theorem xr_46_135 : X_row 46 135 = some (135, (.goto 4, 3), (0, 0, 0)) := by decide +kernel
theorem xr_46_138 : X_row 46 138 = some (138, (.lconst 0, 1), (0, 0, 0)) := by decide +kernel
theorem xr_46_139 : X_row 46 139 = some (139, (.lstore 6, 2), (0, 0, 0)) := by decide +kernel
theorem xr_46_141 : X_row 46 141 = some (141, (.iinc 8 (-1), 3), (0, 0, 0)) := by decide +kernel
theorem xr_46_144 : X_row 46 144 = some (144, (.goto (-118), 3), (0, 0, 0)) := by decide +kernel
theorem xr_46_147 : X_row 46 147 = some (147, (.return_, 1), (0, 0, 0)) := by decide +kernel
theorem xn_41 : X_nL 41 = 5 := by decide +kernel
theorem xf_41 : X_na 41 = 4 ∧ X_ci 41 = 2 ∧ X_rt 41 = none := by decide +kernel
theorem xn_42 : X_nL 42 = 5 := by decide +kernel
theorem xf_42 : X_na 42 = 3 ∧ X_ci 42 = 2 ∧ X_rt 42 = none := by decide +kernel
theorem xn_46 : X_nL 46 = 14 := by decide +kernel
theorem xf_46 : X_na 46 = 3 ∧ X_ci 46 = 2 ∧ X_rt 46 = none := by decide +kernel
set_option maxHeartbeats 1600000 in
theorem c_fillWord (sc : X_Sc) (S : X_S) (oK : Int → Int64) (oW : Int → Int64) (oA : Int → Int64) (oH : Int → Int64) (fF : Int → Int) (fE : Int → Int) (fP : Int → Int) (fH : Int → Int) (fW : Int → Int) (fK : Int → Int) (fN : Int → Int64) (hF : Int → Int) (hE : Int → Int) (B : Nat) (rc : Int) (rn : Int → Int64) (kn : Int → Int64) (G : X_G) (tn : Int) (fl : Int) (wt : Int) (w : Int) (node : Int) (l : Nat) (HF : Int → Int) (HE : Int → Int) (St : Int → X_It) (hO511 : S.1 511 = .inr (1, [.ref B, .ref 501, .int (iI fl), .ref 512, .ref 513, .ref 514, .ref 515, .ref 516])) (hO517 : S.1 517 = .inr (2, [.ref 511, .ref 501, .ref 504, .int (iI wt), .ref 518, .ref 519, .ref 520, .ref 521, .ref 522, .ref 523, .ref 524, .ref 525, .ref 526])) (hA512 : S.1 512 = .inl (.long, 5115, .inr (.inl fun k : Nat => oK (k : Int)))) (hA513 : S.1 513 = .inl (.long, 13950, .inr (.inl fun k : Nat => oW (k : Int)))) (hA514 : S.1 514 = .inl (.long, 465, .inr (.inl fun k : Nat => oA (k : Int)))) (hA515 : S.1 515 = .inl (.long, 55800, .inr (.inl fun k : Nat => oH (k : Int)))) (hA518 : S.1 518 = .inl (.int, 30, .inl fun k : Nat => iI (fF (k : Int)))) (hA519 : S.1 519 = .inl (.int, 30, .inl fun k : Nat => iI (fE (k : Int)))) (hA520 : S.1 520 = .inl (.int, 30, .inl fun k : Nat => iI (fP (k : Int)))) (hA521 : S.1 521 = .inl (.int, 30, .inl fun k : Nat => iI (fH (k : Int)))) (hA522 : S.1 522 = .inl (.int, 30, .inl fun k : Nat => iI (fW (k : Int)))) (hA523 : S.1 523 = .inl (.int, 30, .inl fun k : Nat => iI (fK (k : Int)))) (hA524 : S.1 524 = .inl (.long, 30, .inr (.inl fun k : Nat => fN (k : Int)))) (hA525 : S.1 525 = .inl (.int, 4, .inl fun k : Nat => iI (hF (k : Int)))) (hA526 : S.1 526 = .inl (.int, 4, .inl fun k : Nat => iI (hE (k : Int)))) (hB : B = 4 ∨ B = 250) (hb : C_bk S B rc (gk G) (gw G) rn (gl G) kn (ga G)) (hs : C_ws S B (gD G) (gW G)) (hG : X_Gok G) (hw : 0 ≤ w ∧ w < gw G) (htn : 0 ≤ tn ∧ tn ≤ 30) (hcht : X_cht G (-2) tn oK oW oA oH) (hst : F_st G wt St fF fE fP fH fW fK fN) (hA : ∀ h, 0 ≤ h → h < gD G w 4 0 → hF h = HF h ∧ hE h = HE h) (hx : ∀ x, 0 ≤ x → x < gD G w 4 0 → (0 ≤ HF x ∧ HF x < HE x ∧ HE x ≤ tn) ∧ 0 < X_Hh G w x (HF x) (HE x)) (hwt : 0 ≤ wt ∧ wt + gD G w 4 0 ≤ 30) (hlm : l ≤ 9223372036854775807) : X_T sc 46 (0, [(0, .ref 517), (1, .int (iI w)), (2, .int (iI node)), (3, .long (iL (l : Int)))], [], S) (fun v S' => ∃ (r1 : Int) (St1 : Int → X_It) (fF1 : Int → Int) (fE1 : Int → Int) (fP1 : Int → Int) (fH1 : Int → Int) (fW1 : Int → Int) (fK1 : Int → Int) (fN1 : Int → Int64), v = none ∧ X_pus G w node HF HE (gD G w 4 0).toNat l (wt, St) = (r1, St1) ∧ F_st G r1 St1 fF1 fE1 fP1 fH1 fW1 fK1 fN1 ∧ S'.1 517 = .inr (2, [.ref 511, .ref 501, .ref 504, .int (iI r1), .ref 518, .ref 519, .ref 520, .ref 521, .ref 522, .ref 523, .ref 524, .ref 525, .ref 526]) ∧ S'.1 518 = .inl (.int, 30, .inl fun k : Nat => iI (fF1 (k : Int))) ∧ S'.1 519 = .inl (.int, 30, .inl fun k : Nat => iI (fE1 (k : Int))) ∧ S'.1 520 = .inl (.int, 30, .inl fun k : Nat => iI (fP1 (k : Int))) ∧ S'.1 521 = .inl (.int, 30, .inl fun k : Nat => iI (fH1 (k : Int))) ∧ S'.1 522 = .inl (.int, 30, .inl fun k : Nat => iI (fW1 (k : Int))) ∧ S'.1 523 = .inl (.int, 30, .inl fun k : Nat => iI (fK1 (k : Int))) ∧ S'.1 524 = .inl (.long, 30, .inr (.inl fun k : Nat => fN1 (k : Int))) ∧ (X_Fr (fun q => q = 518 ∨ q = 519 ∨ q = 520 ∨ q = 521 ∨ q = 522 ∨ q = 523 ∨ q = 524 ∨ q = 517) S S')) := by
  obtain ⟨hb0, hb1, hb2, hb3, hb4, ⟨f, hb5, hf⟩, ⟨hrc, hrcb⟩, ⟨hkc, hkcb⟩, ⟨hwc, hwcb⟩⟩ := id hb
  have hgw := hG.2.2.2 w hw.1 hw.2
  have hsz := hgw.1
  have hho := hgw.2.1
  refine X_QI (fun Q hQ => ?_)
  refine T_p xr_46_0 xn_46 (pc' := 1) (ls' := [(0, .ref 517), (1, .int (iI w)), (2, .int (iI node)), (3, .long (iL (l : Int)))]) (st' := [.ref 517]) rfl ?_
  refine T_get xr_46_1 hO517 rfl (v := .ref 511) rfl (pc' := 4) rfl ?_
  refine T_get xr_46_4 hO511 rfl (v := .ref B) rfl (pc' := 7) rfl ?_
  refine T_get xr_46_7 hb0 rfl (v := .ref (B + 5)) rfl (pc' := 10) rfl ?_
  refine T_p xr_46_10 xn_46 (pc' := 11) (ls' := [(0, .ref 517), (1, .int (iI w)), (2, .int (iI node)), (3, .long (iL (l : Int)))]) (st' := [.int (iI w), .ref (B + 5)]) rfl ?_
  have hwaw := hs w (by omega) (by omega)
  obtain ⟨aw, haaw⟩ : ∃ z : Nat, z = B + 6 + 8 * (w : Int).toNat := ⟨_, rfl⟩
  rw [← haaw] at hwaw
  obtain ⟨⟨_, _⟩, ⟨_, _⟩, ⟨_, _⟩, ⟨_, _⟩, ⟨_, _⟩, ⟨_, _⟩, ⟨_, _⟩, ⟨_, _⟩⟩ := id hwaw.2
  refine T_zaald xr_46_11 hb5 (w := aw) (by rw [haaw]; exact hf _ (by omega)) (pc' := 12) rfl ?_
  refine T_p xr_46_12 xn_46 (pc' := 14) (ls' := [(5, .ref aw), (0, .ref 517), (1, .int (iI w)), (2, .int (iI node)), (3, .long (iL (l : Int)))]) (st' := []) rfl ?_
  refine T_p xr_46_14 xn_46 (pc' := 15) (ls' := [(5, .ref aw), (0, .ref 517), (1, .int (iI w)), (2, .int (iI node)), (3, .long (iL (l : Int)))]) (st' := [.long (iL (l : Int))]) rfl ?_
  refine T_p xr_46_15 xn_46 (pc' := 17) (ls' := [(6, .long (iL (l : Int))), (5, .ref aw), (0, .ref 517), (1, .int (iI w)), (2, .int (iI node)), (3, .long (iL (l : Int)))]) (st' := []) rfl ?_
  refine T_p xr_46_17 xn_46 (pc' := 19) (ls' := [(6, .long (iL (l : Int))), (5, .ref aw), (0, .ref 517), (1, .int (iI w)), (2, .int (iI node)), (3, .long (iL (l : Int)))]) (st' := [.ref aw]) rfl ?_
  refine T_get xr_46_19 hwaw.1.1 rfl (v := .int (iI ((gD G) w 4 0))) rfl (pc' := 22) rfl ?_
  refine T_p xr_46_22 xn_46 (pc' := 23) (ls' := [(6, .long (iL (l : Int))), (5, .ref aw), (0, .ref 517), (1, .int (iI w)), (2, .int (iI node)), (3, .long (iL (l : Int)))]) (st' := [.int (iI 1), .int (iI ((gD G) w 4 0))]) rfl ?_
  refine T_zisub xr_46_23 (z := ((gD G) w 4 0) - 1) rfl (pc' := 24) rfl ?_
  refine T_p xr_46_24 xn_46 (pc' := 26) (ls' := [(8, .int (iI (((gD G) w 4 0) - 1))), (6, .long (iL (l : Int))), (5, .ref aw), (0, .ref 517), (1, .int (iI w)), (2, .int (iI node)), (3, .long (iL (l : Int)))]) (st' := []) rfl ?_
  have L1223 : ∀ (m1225 : Nat) (S1228 : X_S) (h : Int) (l1 : Nat) (wt1 : Int) (St1 : Int → X_It) (fF1 : Int → Int) (fE1 : Int → Int) (fP1 : Int → Int) (fH1 : Int → Int) (fW1 : Int → Int) (fK1 : Int → Int) (fN1 : Int → Int64) (hO1 : S1228.1 517 = .inr (2, [.ref 511, .ref 501, .ref 504, .int (iI wt1), .ref 518, .ref 519, .ref 520, .ref 521, .ref 522, .ref 523, .ref 524, .ref 525, .ref 526])) (hfF1 : S1228.1 518 = .inl (.int, 30, .inl fun k : Nat => iI (fF1 (k : Int)))) (hfE1 : S1228.1 519 = .inl (.int, 30, .inl fun k : Nat => iI (fE1 (k : Int)))) (hfP1 : S1228.1 520 = .inl (.int, 30, .inl fun k : Nat => iI (fP1 (k : Int)))) (hfH1 : S1228.1 521 = .inl (.int, 30, .inl fun k : Nat => iI (fH1 (k : Int)))) (hfW1 : S1228.1 522 = .inl (.int, 30, .inl fun k : Nat => iI (fW1 (k : Int)))) (hfK1 : S1228.1 523 = .inl (.int, 30, .inl fun k : Nat => iI (fK1 (k : Int)))) (hfN1 : S1228.1 524 = .inl (.long, 30, .inr (.inl fun k : Nat => fN1 (k : Int)))) (hF1227 : X_Fr (fun q => 517 ≤ q ∧ q ≤ 524) S S1228) (hh : -1 ≤ h ∧ h < gD G w 4 0) (hl1m : l1 ≤ 9223372036854775807) (hP : X_pus G w node HF HE (h + 1).toNat l1 (wt1, St1) = X_pus G w node HF HE (gD G w 4 0).toNat l (wt, St)) (hst1 : F_st G wt1 St1 fF1 fE1 fP1 fH1 fW1 fK1 fN1) (hwt1 : 0 ≤ wt1 ∧ wt1 + h + 1 ≤ 30) (hm1226 : h + 1 < m1225), X_T sc 46 (26, [(8, .int (iI h)), (6, .long (iL (l1 : Int))), (5, .ref aw), (0, .ref 517), (1, .int (iI w)), (2, .int (iI node))], [], S1228) Q := by
    intro m1225
    induction m1225 with
    | zero =>
      intro S1228 h l1 wt1 St1 fF1 fE1 fP1 fH1 fW1 fK1 fN1 hO1 hfF1 hfE1 hfP1 hfH1 hfW1 hfK1 hfN1 hF1227 hh hl1m hP hst1 hwt1 hm1226
      exact (show False by omega).elim
    | succ m1225 ih1224 =>
      intro S1228 h l1 wt1 St1 fF1 fE1 fP1 fH1 fW1 fK1 fN1 hO1 hfF1 hfE1 hfP1 hfH1 hfW1 hfK1 hfN1 hF1227 hh hl1m hP hst1 hwt1 hm1226
      refine T_p xr_46_26 xn_46 (pc' := 28) (ls' := [(8, .int (iI h)), (6, .long (iL (l1 : Int))), (5, .ref aw), (0, .ref 517), (1, .int (iI w)), (2, .int (iI node))]) (st' := [.int (iI h)]) rfl ?_
      refine T_zif_lt xr_46_28 (t := 147) (pc' := 31) rfl rfl (fun c1229 => ?_) (fun c1229 => ?_)
      · skip
        have c1229 : h < 0 := c1229
        refine T_vret xr_46_147 xf_46.2.2 ?_
        refine hQ _ _ ?_
        rw [show (h + 1).toNat = 0 by omega] at hP
        exact ⟨wt1, St1, fF1, fE1, fP1, fH1, fW1, fK1, fN1, rfl, hP.symm, hst1, hO1, hfF1, hfE1, hfP1, hfH1, hfW1, hfK1, hfN1, (X_Fr.rf).tr (X_Fr.mono ⟨hF1227.1, hF1227.2⟩ (fun q hq => (by omega)))⟩
      · skip
        have c1229 : ¬ (h < 0) := c1229
        have hxh := hx h (by omega) (by omega)
        have hHp := hxh.2
        have hAh := hA h (by omega) (by omega)
        refine T_p xr_46_31 xn_46 (pc' := 32) (ls' := [(8, .int (iI h)), (6, .long (iL (l1 : Int))), (5, .ref aw), (0, .ref 517), (1, .int (iI w)), (2, .int (iI node))]) (st' := [.ref 517]) rfl ?_
        refine T_get xr_46_32 hO1 rfl (v := .ref 525) rfl (pc' := 35) rfl ?_
        refine T_p xr_46_35 xn_46 (pc' := 37) (ls' := [(8, .int (iI h)), (6, .long (iL (l1 : Int))), (5, .ref aw), (0, .ref 517), (1, .int (iI w)), (2, .int (iI node))]) (st' := [.int (iI h), .ref 525]) rfl ?_
        have h1230 := (hF1227.1 525 (by omega)).trans (hA525)
        refine T_ziald xr_46_37 h1230 (pc' := 38) rfl ?_
        refine T_ie (y := iI (HF h)) (by rw [hAh.1]) ?_
        refine T_p xr_46_38 xn_46 (pc' := 40) (ls' := [(9, .int (iI (HF h))), (8, .int (iI h)), (6, .long (iL (l1 : Int))), (5, .ref aw), (0, .ref 517), (1, .int (iI w)), (2, .int (iI node))]) (st' := []) rfl ?_
        refine T_p xr_46_40 xn_46 (pc' := 41) (ls' := [(9, .int (iI (HF h))), (8, .int (iI h)), (6, .long (iL (l1 : Int))), (5, .ref aw), (0, .ref 517), (1, .int (iI w)), (2, .int (iI node))]) (st' := [.ref 517]) rfl ?_
        refine T_get xr_46_41 hO1 rfl (v := .ref 526) rfl (pc' := 44) rfl ?_
        refine T_p xr_46_44 xn_46 (pc' := 46) (ls' := [(9, .int (iI (HF h))), (8, .int (iI h)), (6, .long (iL (l1 : Int))), (5, .ref aw), (0, .ref 517), (1, .int (iI w)), (2, .int (iI node))]) (st' := [.int (iI h), .ref 526]) rfl ?_
        have h1231 := (hF1227.1 526 (by omega)).trans (hA526)
        refine T_ziald xr_46_46 h1231 (pc' := 47) rfl ?_
        refine T_ie (y := iI (HE h)) (by rw [hAh.2]) ?_
        refine T_p xr_46_47 xn_46 (pc' := 49) (ls' := [(10, .int (iI (HE h))), (9, .int (iI (HF h))), (8, .int (iI h)), (6, .long (iL (l1 : Int))), (5, .ref aw), (0, .ref 517), (1, .int (iI w)), (2, .int (iI node))]) (st' := []) rfl ?_
        refine T_p xr_46_49 xn_46 (pc' := 50) (ls' := [(10, .int (iI (HE h))), (9, .int (iI (HF h))), (8, .int (iI h)), (6, .long (iL (l1 : Int))), (5, .ref aw), (0, .ref 517), (1, .int (iI w)), (2, .int (iI node))]) (st' := [.ref 517]) rfl ?_
        refine T_get xr_46_50 hO1 rfl (v := .ref 511) rfl (pc' := 53) rfl ?_
        refine T_p xr_46_53 xn_46 (pc' := 55) (ls' := [(10, .int (iI (HE h))), (9, .int (iI (HF h))), (8, .int (iI h)), (6, .long (iL (l1 : Int))), (5, .ref aw), (0, .ref 517), (1, .int (iI w)), (2, .int (iI node))]) (st' := [.int (iI (HF h)), .ref 511]) rfl ?_
        refine T_p xr_46_55 xn_46 (pc' := 57) (ls' := [(10, .int (iI (HE h))), (9, .int (iI (HF h))), (8, .int (iI h)), (6, .long (iL (l1 : Int))), (5, .ref aw), (0, .ref 517), (1, .int (iI w)), (2, .int (iI node))]) (st' := [.int (iI (HE h)), .int (iI (HF h)), .ref 511]) rfl ?_
        refine T_p xr_46_57 xn_46 (pc' := 58) (ls' := [(10, .int (iI (HE h))), (9, .int (iI (HF h))), (8, .int (iI h)), (6, .long (iL (l1 : Int))), (5, .ref aw), (0, .ref 517), (1, .int (iI w)), (2, .int (iI node))]) (st' := [.int (iI w), .int (iI (HE h)), .int (iI (HF h)), .ref 511]) rfl ?_
        refine T_p xr_46_58 xn_46 (pc' := 60) (ls' := [(10, .int (iI (HE h))), (9, .int (iI (HF h))), (8, .int (iI h)), (6, .long (iL (l1 : Int))), (5, .ref aw), (0, .ref 517), (1, .int (iI w)), (2, .int (iI node))]) (st' := [.int (iI h), .int (iI w), .int (iI (HE h)), .int (iI (HF h)), .ref 511]) rfl ?_
        have h1232 := (hF1227.1 511 (by omega)).trans (hO511)
        refine T_cv (S := S1228) (q := 511) xr_46_60 xf_27.1 xf_27.2.1 xn_27 (as := [.int (iI (HF h)), .int (iI (HE h)), .int (iI w), .int (iI h)]) (r := []) rfl h1232 (Nat.le_of_ble_eq_true rfl) (Nat.le_of_ble_eq_true rfl) (pc' := 63) rfl (ls' := [(0, .ref 511), (1, .int (iI (HF h))), (2, .int (iI (HE h))), (3, .int (iI w)), (4, .int (iI h))]) rfl ?_
        refine T_p xr_27_0 xn_27 (pc' := 1) (ls' := [(0, .ref 511), (1, .int (iI (HF h))), (2, .int (iI (HE h))), (3, .int (iI w)), (4, .int (iI h))]) (st' := [.ref 511]) rfl ?_
        refine T_get xr_27_1 h1232 rfl (v := .ref 515) rfl (pc' := 4) rfl ?_
        refine T_p xr_27_4 xn_27 (pc' := 5) (ls' := [(0, .ref 511), (1, .int (iI (HF h))), (2, .int (iI (HE h))), (3, .int (iI w)), (4, .int (iI h))]) (st' := [.int (iI (HF h)), .ref 515]) rfl ?_
        refine T_p xr_27_5 xn_27 (pc' := 6) (ls' := [(0, .ref 511), (1, .int (iI (HF h))), (2, .int (iI (HE h))), (3, .int (iI w)), (4, .int (iI h))]) (st' := [.int (iI (HE h)), .int (iI (HF h)), .ref 515]) rfl ?_
        refine T_cs xr_27_6 (by decide) xf_24.1 xn_24 (as := [.int (iI (HF h)), .int (iI (HE h))]) (r := [.ref 515]) rfl (Nat.le_of_ble_eq_true rfl) (Nat.le_of_ble_eq_true rfl) (pc' := 9) rfl (ls' := [(0, .int (iI (HF h))), (1, .int (iI (HE h)))]) rfl ?_
        refine T_mono (c_rowOf sc S1228 (HF h) (HE h) (by omega)) (fun v1233 S1234 h1235 => ?_)
        rcases h1235 with ⟨hv1236, hf1237⟩
        rw [hv1236]
        rw [hf1237]
        have hr1238 := X_ro_r (i := (HF h)) (j := (HE h)) (by omega) (by omega) (by omega)
        show X_T sc 27 (9, [(0, .ref 511), (1, .int (iI (HF h))), (2, .int (iI (HE h))), (3, .int (iI w)), (4, .int (iI h))], [.int (iI (X_ro (HF h) (HE h))), .ref 515], S1228) _
        refine T_p xr_27_9 xn_27 (pc' := 11) (ls' := [(0, .ref 511), (1, .int (iI (HF h))), (2, .int (iI (HE h))), (3, .int (iI w)), (4, .int (iI h))]) (st' := [.int (iI 30), .int (iI (X_ro (HF h) (HE h))), .ref 515]) rfl ?_
        refine T_zimul xr_27_11 (z := (X_ro (HF h) (HE h)) * 30) rfl (pc' := 12) rfl ?_
        refine T_p xr_27_12 xn_27 (pc' := 13) (ls' := [(0, .ref 511), (1, .int (iI (HF h))), (2, .int (iI (HE h))), (3, .int (iI w)), (4, .int (iI h))]) (st' := [.int (iI w), .int (iI ((X_ro (HF h) (HE h)) * 30)), .ref 515]) rfl ?_
        refine T_ziadd xr_27_13 (z := ((X_ro (HF h) (HE h)) * 30) + w) rfl (pc' := 14) rfl ?_
        refine T_p xr_27_14 xn_27 (pc' := 15) (ls' := [(0, .ref 511), (1, .int (iI (HF h))), (2, .int (iI (HE h))), (3, .int (iI w)), (4, .int (iI h))]) (st' := [.int (iI 4), .int (iI (((X_ro (HF h) (HE h)) * 30) + w)), .ref 515]) rfl ?_
        refine T_zimul xr_27_15 (z := (((X_ro (HF h) (HE h)) * 30) + w) * 4) rfl (pc' := 16) rfl ?_
        refine T_p xr_27_16 xn_27 (pc' := 18) (ls' := [(0, .ref 511), (1, .int (iI (HF h))), (2, .int (iI (HE h))), (3, .int (iI w)), (4, .int (iI h))]) (st' := [.int (iI h), .int (iI ((((X_ro (HF h) (HE h)) * 30) + w) * 4)), .ref 515]) rfl ?_
        refine T_ziadd xr_27_18 (z := ((((X_ro (HF h) (HE h)) * 30) + w) * 4) + h) rfl (pc' := 19) rfl ?_
        have h1239 := (hF1227.1 515 (by omega)).trans (hA515)
        refine T_zlald xr_27_19 h1239 (pc' := 20) rfl ?_
        refine T_le (y := (X_st (-2) (X_Hh G w h (HF h) (HE h)))) ((hcht (HF h) (HE h) hxh.1.1 hxh.1.2.1 hxh.1.2.2).hh hw hgw (by omega) (by omega)) ?_
        refine T_lret xr_27_20 xf_27.2.2 rfl ?_
        show X_T sc 46 (63, [(10, .int (iI (HE h))), (9, .int (iI (HF h))), (8, .int (iI h)), (6, .long (iL (l1 : Int))), (5, .ref aw), (0, .ref 517), (1, .int (iI w)), (2, .int (iI node))], [.long (X_st (-2) (X_Hh G w h (HF h) (HE h)))], S1228) _
        refine T_p xr_46_63 xn_46 (pc' := 65) (ls' := [(11, .long (X_st (-2) (X_Hh G w h (HF h) (HE h)))), (10, .int (iI (HE h))), (9, .int (iI (HF h))), (8, .int (iI h)), (6, .long (iL (l1 : Int))), (5, .ref aw), (0, .ref 517), (1, .int (iI w)), (2, .int (iI node))]) (st' := []) rfl ?_
        have J1240 : X_T sc 46 (77, [(11, .long (X_st (-2) (X_Hh G w h (HF h) (HE h)))), (10, .int (iI (HE h))), (9, .int (iI (HF h))), (8, .int (iI h)), (6, .long (iL (l1 : Int))), (5, .ref aw), (0, .ref 517), (1, .int (iI w)), (2, .int (iI node))], [.int (iI (bI (X_Hh G w h (HF h) (HE h) ≤ 9223372036854775807)))], S1228) Q := by
          refine T_p xr_46_77 xn_46 (pc' := 79) (ls' := [(13, .int (iI (bI (X_Hh G w h (HF h) (HE h) ≤ 9223372036854775807)))), (11, .long (X_st (-2) (X_Hh G w h (HF h) (HE h)))), (10, .int (iI (HE h))), (9, .int (iI (HF h))), (8, .int (iI h)), (6, .long (iL (l1 : Int))), (5, .ref aw), (0, .ref 517), (1, .int (iI w)), (2, .int (iI node))]) (st' := []) rfl ?_
          refine T_p xr_46_79 xn_46 (pc' := 80) (ls' := [(13, .int (iI (bI (X_Hh G w h (HF h) (HE h) ≤ 9223372036854775807)))), (11, .long (X_st (-2) (X_Hh G w h (HF h) (HE h)))), (10, .int (iI (HE h))), (9, .int (iI (HF h))), (8, .int (iI h)), (6, .long (iL (l1 : Int))), (5, .ref aw), (0, .ref 517), (1, .int (iI w)), (2, .int (iI node))]) (st' := [.ref 517]) rfl ?_
          refine T_p xr_46_80 xn_46 (pc' := 82) (ls' := [(13, .int (iI (bI (X_Hh G w h (HF h) (HE h) ≤ 9223372036854775807)))), (11, .long (X_st (-2) (X_Hh G w h (HF h) (HE h)))), (10, .int (iI (HE h))), (9, .int (iI (HF h))), (8, .int (iI h)), (6, .long (iL (l1 : Int))), (5, .ref aw), (0, .ref 517), (1, .int (iI w)), (2, .int (iI node))]) (st' := [.int (iI (HF h)), .ref 517]) rfl ?_
          refine T_p xr_46_82 xn_46 (pc' := 84) (ls' := [(13, .int (iI (bI (X_Hh G w h (HF h) (HE h) ≤ 9223372036854775807)))), (11, .long (X_st (-2) (X_Hh G w h (HF h) (HE h)))), (10, .int (iI (HE h))), (9, .int (iI (HF h))), (8, .int (iI h)), (6, .long (iL (l1 : Int))), (5, .ref aw), (0, .ref 517), (1, .int (iI w)), (2, .int (iI node))]) (st' := [.int (iI (HE h)), .int (iI (HF h)), .ref 517]) rfl ?_
          refine T_p xr_46_84 xn_46 (pc' := 85) (ls' := [(13, .int (iI (bI (X_Hh G w h (HF h) (HE h) ≤ 9223372036854775807)))), (11, .long (X_st (-2) (X_Hh G w h (HF h) (HE h)))), (10, .int (iI (HE h))), (9, .int (iI (HF h))), (8, .int (iI h)), (6, .long (iL (l1 : Int))), (5, .ref aw), (0, .ref 517), (1, .int (iI w)), (2, .int (iI node))]) (st' := [.int (iI node), .int (iI (HE h)), .int (iI (HF h)), .ref 517]) rfl ?_
          refine T_p xr_46_85 xn_46 (pc' := 87) (ls' := [(13, .int (iI (bI (X_Hh G w h (HF h) (HE h) ≤ 9223372036854775807)))), (11, .long (X_st (-2) (X_Hh G w h (HF h) (HE h)))), (10, .int (iI (HE h))), (9, .int (iI (HF h))), (8, .int (iI h)), (6, .long (iL (l1 : Int))), (5, .ref aw), (0, .ref 517), (1, .int (iI w)), (2, .int (iI node))]) (st' := [.int (iI h), .int (iI node), .int (iI (HE h)), .int (iI (HF h)), .ref 517]) rfl ?_
          refine T_cv (S := S1228) (q := 517) xr_46_87 xf_41.1 xf_41.2.1 xn_41 (as := [.int (iI (HF h)), .int (iI (HE h)), .int (iI node), .int (iI h)]) (r := []) rfl hO1 (Nat.le_of_ble_eq_true rfl) (Nat.le_of_ble_eq_true rfl) (pc' := 90) rfl (ls' := [(0, .ref 517), (1, .int (iI (HF h))), (2, .int (iI (HE h))), (3, .int (iI node)), (4, .int (iI h))]) rfl ?_
          refine T_p xr_41_0 xn_41 (pc' := 1) (ls' := [(0, .ref 517), (1, .int (iI (HF h))), (2, .int (iI (HE h))), (3, .int (iI node)), (4, .int (iI h))]) (st' := [.ref 517]) rfl ?_
          refine T_get xr_41_1 hO1 rfl (v := .int (iI wt1)) rfl (pc' := 4) rfl ?_
          refine T_p xr_41_4 xn_41 (pc' := 6) (ls' := [(0, .ref 517), (1, .int (iI (HF h))), (2, .int (iI (HE h))), (3, .int (iI node)), (4, .int (iI h))]) (st' := [.int (iI 30), .int (iI wt1)]) rfl ?_
          refine T_zicmp_ge xr_41_6 (t := 60) (pc' := 9) rfl rfl (fun c1241 => ?_) (fun c1241 => ?_)
          · skip
            have c1241 : 30 ≤ wt1 := c1241
            exact (show False by omega).elim
          · skip
            have c1241 : ¬ (30 ≤ wt1) := c1241
            refine T_p xr_41_9 xn_41 (pc' := 10) (ls' := [(0, .ref 517), (1, .int (iI (HF h))), (2, .int (iI (HE h))), (3, .int (iI node)), (4, .int (iI h))]) (st' := [.ref 517]) rfl ?_
            refine T_get xr_41_10 hO1 rfl (v := .ref 518) rfl (pc' := 13) rfl ?_
            refine T_p xr_41_13 xn_41 (pc' := 14) (ls' := [(0, .ref 517), (1, .int (iI (HF h))), (2, .int (iI (HE h))), (3, .int (iI node)), (4, .int (iI h))]) (st' := [.ref 517, .ref 518]) rfl ?_
            refine T_get xr_41_14 hO1 rfl (v := .int (iI wt1)) rfl (pc' := 17) rfl ?_
            refine T_p xr_41_17 xn_41 (pc' := 18) (ls' := [(0, .ref 517), (1, .int (iI (HF h))), (2, .int (iI (HE h))), (3, .int (iI node)), (4, .int (iI h))]) (st' := [.int (iI (HF h)), .int (iI wt1), .ref 518]) rfl ?_
            refine T_ziast xr_41_18 hfF1 (pc' := 19) rfl (fun S1242 h1243 n1244 e1245 => ?_)
            refine T_p xr_41_19 xn_41 (pc' := 20) (ls' := [(0, .ref 517), (1, .int (iI (HF h))), (2, .int (iI (HE h))), (3, .int (iI node)), (4, .int (iI h))]) (st' := [.ref 517]) rfl ?_
            have h1246 := (n1244 517 (by decide)).trans (hO1)
            refine T_get xr_41_20 h1246 rfl (v := .ref 519) rfl (pc' := 23) rfl ?_
            refine T_p xr_41_23 xn_41 (pc' := 24) (ls' := [(0, .ref 517), (1, .int (iI (HF h))), (2, .int (iI (HE h))), (3, .int (iI node)), (4, .int (iI h))]) (st' := [.ref 517, .ref 519]) rfl ?_
            refine T_get xr_41_24 h1246 rfl (v := .int (iI wt1)) rfl (pc' := 27) rfl ?_
            refine T_p xr_41_27 xn_41 (pc' := 28) (ls' := [(0, .ref 517), (1, .int (iI (HF h))), (2, .int (iI (HE h))), (3, .int (iI node)), (4, .int (iI h))]) (st' := [.int (iI (HE h)), .int (iI wt1), .ref 519]) rfl ?_
            have h1247 := (n1244 519 (by decide)).trans (hfE1)
            refine T_ziast xr_41_28 h1247 (pc' := 29) rfl (fun S1248 h1249 n1250 e1251 => ?_)
            refine T_p xr_41_29 xn_41 (pc' := 30) (ls' := [(0, .ref 517), (1, .int (iI (HF h))), (2, .int (iI (HE h))), (3, .int (iI node)), (4, .int (iI h))]) (st' := [.ref 517]) rfl ?_
            have h1252 := (n1250 517 (by decide)).trans (h1246)
            refine T_get xr_41_30 h1252 rfl (v := .ref 520) rfl (pc' := 33) rfl ?_
            refine T_p xr_41_33 xn_41 (pc' := 34) (ls' := [(0, .ref 517), (1, .int (iI (HF h))), (2, .int (iI (HE h))), (3, .int (iI node)), (4, .int (iI h))]) (st' := [.ref 517, .ref 520]) rfl ?_
            refine T_get xr_41_34 h1252 rfl (v := .int (iI wt1)) rfl (pc' := 37) rfl ?_
            refine T_p xr_41_37 xn_41 (pc' := 38) (ls' := [(0, .ref 517), (1, .int (iI (HF h))), (2, .int (iI (HE h))), (3, .int (iI node)), (4, .int (iI h))]) (st' := [.int (iI node), .int (iI wt1), .ref 520]) rfl ?_
            have h1253 := (n1250 520 (by decide)).trans ((n1244 520 (by decide)).trans (hfP1))
            refine T_ziast xr_41_38 h1253 (pc' := 39) rfl (fun S1254 h1255 n1256 e1257 => ?_)
            refine T_p xr_41_39 xn_41 (pc' := 40) (ls' := [(0, .ref 517), (1, .int (iI (HF h))), (2, .int (iI (HE h))), (3, .int (iI node)), (4, .int (iI h))]) (st' := [.ref 517]) rfl ?_
            have h1258 := (n1256 517 (by decide)).trans (h1252)
            refine T_get xr_41_40 h1258 rfl (v := .ref 521) rfl (pc' := 43) rfl ?_
            refine T_p xr_41_43 xn_41 (pc' := 44) (ls' := [(0, .ref 517), (1, .int (iI (HF h))), (2, .int (iI (HE h))), (3, .int (iI node)), (4, .int (iI h))]) (st' := [.ref 517, .ref 521]) rfl ?_
            refine T_get xr_41_44 h1258 rfl (v := .int (iI wt1)) rfl (pc' := 47) rfl ?_
            refine T_p xr_41_47 xn_41 (pc' := 49) (ls' := [(0, .ref 517), (1, .int (iI (HF h))), (2, .int (iI (HE h))), (3, .int (iI node)), (4, .int (iI h))]) (st' := [.int (iI h), .int (iI wt1), .ref 521]) rfl ?_
            have h1259 := (n1256 521 (by decide)).trans ((n1250 521 (by decide)).trans ((n1244 521 (by decide)).trans (hfH1)))
            refine T_ziast xr_41_49 h1259 (pc' := 50) rfl (fun S1260 h1261 n1262 e1263 => ?_)
            refine T_p xr_41_50 xn_41 (pc' := 51) (ls' := [(0, .ref 517), (1, .int (iI (HF h))), (2, .int (iI (HE h))), (3, .int (iI node)), (4, .int (iI h))]) (st' := [.ref 517]) rfl ?_
            refine T_p xr_41_51 xn_41 (pc' := 52) (ls' := [(0, .ref 517), (1, .int (iI (HF h))), (2, .int (iI (HE h))), (3, .int (iI node)), (4, .int (iI h))]) (st' := [.ref 517, .ref 517]) rfl ?_
            have h1264 := (n1262 517 (by decide)).trans (h1258)
            refine T_get xr_41_52 h1264 rfl (v := .int (iI wt1)) rfl (pc' := 55) rfl ?_
            refine T_p xr_41_55 xn_41 (pc' := 56) (ls' := [(0, .ref 517), (1, .int (iI (HF h))), (2, .int (iI (HE h))), (3, .int (iI node)), (4, .int (iI h))]) (st' := [.int (iI 1), .int (iI wt1), .ref 517]) rfl ?_
            refine T_ziadd xr_41_56 (z := wt1 + 1) rfl (pc' := 57) rfl ?_
            refine T_put xr_41_57 h1264 rfl (Nat.le_of_ble_eq_true rfl) rfl (fs' := [.ref 511, .ref 501, .ref 504, .int (iI (wt1 + 1)), .ref 518, .ref 519, .ref 520, .ref 521, .ref 522, .ref 523, .ref 524, .ref 525, .ref 526]) rfl (pc' := 60) rfl (fun S1265 h1266 n1267 e1268 => ?_)
            refine T_vret xr_41_60 xf_41.2.2 ?_
            show X_T sc 46 (90, [(13, .int (iI (bI (X_Hh G w h (HF h) (HE h) ≤ 9223372036854775807)))), (11, .long (X_st (-2) (X_Hh G w h (HF h) (HE h)))), (10, .int (iI (HE h))), (9, .int (iI (HF h))), (8, .int (iI h)), (6, .long (iL (l1 : Int))), (5, .ref aw), (0, .ref 517), (1, .int (iI w)), (2, .int (iI node))], [], S1265) _
            refine T_p xr_46_90 xn_46 (pc' := 91) (ls' := [(13, .int (iI (bI (X_Hh G w h (HF h) (HE h) ≤ 9223372036854775807)))), (11, .long (X_st (-2) (X_Hh G w h (HF h) (HE h)))), (10, .int (iI (HE h))), (9, .int (iI (HF h))), (8, .int (iI h)), (6, .long (iL (l1 : Int))), (5, .ref aw), (0, .ref 517), (1, .int (iI w)), (2, .int (iI node))]) (st' := [.ref 517]) rfl ?_
            refine T_p xr_46_91 xn_46 (pc' := 93) (ls' := [(13, .int (iI (bI (X_Hh G w h (HF h) (HE h) ≤ 9223372036854775807)))), (11, .long (X_st (-2) (X_Hh G w h (HF h) (HE h)))), (10, .int (iI (HE h))), (9, .int (iI (HF h))), (8, .int (iI h)), (6, .long (iL (l1 : Int))), (5, .ref aw), (0, .ref 517), (1, .int (iI w)), (2, .int (iI node))]) (st' := [.ref aw, .ref 517]) rfl ?_
            have h1269 := (n1267 aw (by omega)).trans ((n1262 aw (by omega)).trans ((n1256 aw (by omega)).trans ((n1250 aw (by omega)).trans ((n1244 aw (by omega)).trans ((hF1227.1 aw (by omega)).trans (hwaw.1.1))))))
            refine T_get xr_46_93 h1269 rfl (v := .ref (aw + 4)) rfl (pc' := 96) rfl ?_
            refine T_p xr_46_96 xn_46 (pc' := 98) (ls' := [(13, .int (iI (bI (X_Hh G w h (HF h) (HE h) ≤ 9223372036854775807)))), (11, .long (X_st (-2) (X_Hh G w h (HF h) (HE h)))), (10, .int (iI (HE h))), (9, .int (iI (HF h))), (8, .int (iI h)), (6, .long (iL (l1 : Int))), (5, .ref aw), (0, .ref 517), (1, .int (iI w)), (2, .int (iI node))]) (st' := [.int (iI h), .ref (aw + 4), .ref 517]) rfl ?_
            have h1270 := (n1267 (aw + 4) (by omega)).trans ((n1262 (aw + 4) (by omega)).trans ((n1256 (aw + 4) (by omega)).trans ((n1250 (aw + 4) (by omega)).trans ((n1244 (aw + 4) (by omega)).trans ((hF1227.1 (aw + 4) (by omega)).trans (hwaw.1.2.2.2.2.1))))))
            refine T_ziald xr_46_98 h1270 (pc' := 99) rfl ?_
            refine T_p xr_46_99 xn_46 (pc' := 101) (ls' := [(13, .int (iI (bI (X_Hh G w h (HF h) (HE h) ≤ 9223372036854775807)))), (11, .long (X_st (-2) (X_Hh G w h (HF h) (HE h)))), (10, .int (iI (HE h))), (9, .int (iI (HF h))), (8, .int (iI h)), (6, .long (iL (l1 : Int))), (5, .ref aw), (0, .ref 517), (1, .int (iI w)), (2, .int (iI node))]) (st' := [.ref aw, .int (iI (((gD G) w 10) h)), .ref 517]) rfl ?_
            refine T_get xr_46_101 h1269 rfl (v := .ref (aw + 5)) rfl (pc' := 104) rfl ?_
            refine T_p xr_46_104 xn_46 (pc' := 106) (ls' := [(13, .int (iI (bI (X_Hh G w h (HF h) (HE h) ≤ 9223372036854775807)))), (11, .long (X_st (-2) (X_Hh G w h (HF h) (HE h)))), (10, .int (iI (HE h))), (9, .int (iI (HF h))), (8, .int (iI h)), (6, .long (iL (l1 : Int))), (5, .ref aw), (0, .ref 517), (1, .int (iI w)), (2, .int (iI node))]) (st' := [.int (iI h), .ref (aw + 5), .int (iI (((gD G) w 10) h)), .ref 517]) rfl ?_
            have h1271 := (n1267 (aw + 5) (by omega)).trans ((n1262 (aw + 5) (by omega)).trans ((n1256 (aw + 5) (by omega)).trans ((n1250 (aw + 5) (by omega)).trans ((n1244 (aw + 5) (by omega)).trans ((hF1227.1 (aw + 5) (by omega)).trans (hwaw.1.2.2.2.2.2.1))))))
            refine T_ziald xr_46_106 h1271 (pc' := 107) rfl ?_
            refine T_p xr_46_107 xn_46 (pc' := 109) (ls' := [(13, .int (iI (bI (X_Hh G w h (HF h) (HE h) ≤ 9223372036854775807)))), (11, .long (X_st (-2) (X_Hh G w h (HF h) (HE h)))), (10, .int (iI (HE h))), (9, .int (iI (HF h))), (8, .int (iI h)), (6, .long (iL (l1 : Int))), (5, .ref aw), (0, .ref 517), (1, .int (iI w)), (2, .int (iI node))]) (st' := [.int (iI (bI (X_Hh G w h (HF h) (HE h) ≤ 9223372036854775807))), .int (iI (((gD G) w 11) h)), .int (iI (((gD G) w 10) h)), .ref 517]) rfl ?_
            refine T_bif_eq xr_46_109 (t := 120) (pc' := 112) rfl rfl (fun c1272 => ?_) (fun c1272 => ?_)
            · skip
              have c1272 : ¬ (X_Hh G w h (HF h) (HE h) ≤ 9223372036854775807) := c1272
              refine T_p xr_46_120 xn_46 (pc' := 122) (ls' := [(13, .int (iI (bI (X_Hh G w h (HF h) (HE h) ≤ 9223372036854775807)))), (11, .long (X_st (-2) (X_Hh G w h (HF h) (HE h)))), (10, .int (iI (HE h))), (9, .int (iI (HF h))), (8, .int (iI h)), (6, .long (iL (l1 : Int))), (5, .ref aw), (0, .ref 517), (1, .int (iI w)), (2, .int (iI node))]) (st' := [.long (iL (l1 : Int)), .int (iI (((gD G) w 11) h)), .int (iI (((gD G) w 10) h)), .ref 517]) rfl ?_
              refine T_le (y := (iL ((l1 % X_Hh G w h (HF h) (HE h) : Nat) : Int))) (by rw [Nat.mod_eq_of_lt (show l1 < X_Hh G w h (HF h) (HE h) by omega)]) ?_
              refine T_cv (S := S1265) (q := 517) xr_46_122 xf_42.1 xf_42.2.1 xn_42 (as := [.int (iI (((gD G) w 10) h)), .int (iI (((gD G) w 11) h)), .long (iL ((l1 % X_Hh G w h (HF h) (HE h) : Nat) : Int))]) (r := []) rfl h1266 (Nat.le_of_ble_eq_true rfl) (Nat.le_of_ble_eq_true rfl) (pc' := 125) rfl (ls' := [(0, .ref 517), (1, .int (iI (((gD G) w 10) h))), (2, .int (iI (((gD G) w 11) h))), (3, .long (iL ((l1 % X_Hh G w h (HF h) (HE h) : Nat) : Int)))]) rfl ?_
              refine T_p xr_42_0 xn_42 (pc' := 1) (ls' := [(0, .ref 517), (1, .int (iI (((gD G) w 10) h))), (2, .int (iI (((gD G) w 11) h))), (3, .long (iL ((l1 % X_Hh G w h (HF h) (HE h) : Nat) : Int)))]) (st' := [.ref 517]) rfl ?_
              refine T_get xr_42_1 h1266 rfl (v := .int (iI (wt1 + 1))) rfl (pc' := 4) rfl ?_
              refine T_zif_le xr_42_4 (t := 43) (pc' := 7) rfl rfl (fun c1273 => ?_) (fun c1273 => ?_)
              · skip
                have c1273 : (wt1 + 1) ≤ 0 := c1273
                exact (show False by omega).elim
              · skip
                have c1273 : ¬ ((wt1 + 1) ≤ 0) := c1273
                refine T_p xr_42_7 xn_42 (pc' := 8) (ls' := [(0, .ref 517), (1, .int (iI (((gD G) w 10) h))), (2, .int (iI (((gD G) w 11) h))), (3, .long (iL ((l1 % X_Hh G w h (HF h) (HE h) : Nat) : Int)))]) (st' := [.ref 517]) rfl ?_
                refine T_get xr_42_8 h1266 rfl (v := .ref 522) rfl (pc' := 11) rfl ?_
                refine T_p xr_42_11 xn_42 (pc' := 12) (ls' := [(0, .ref 517), (1, .int (iI (((gD G) w 10) h))), (2, .int (iI (((gD G) w 11) h))), (3, .long (iL ((l1 % X_Hh G w h (HF h) (HE h) : Nat) : Int)))]) (st' := [.ref 517, .ref 522]) rfl ?_
                refine T_get xr_42_12 h1266 rfl (v := .int (iI (wt1 + 1))) rfl (pc' := 15) rfl ?_
                refine T_p xr_42_15 xn_42 (pc' := 16) (ls' := [(0, .ref 517), (1, .int (iI (((gD G) w 10) h))), (2, .int (iI (((gD G) w 11) h))), (3, .long (iL ((l1 % X_Hh G w h (HF h) (HE h) : Nat) : Int)))]) (st' := [.int (iI 1), .int (iI (wt1 + 1)), .ref 522]) rfl ?_
                refine T_zisub xr_42_16 (z := wt1) (by omega) (pc' := 17) rfl ?_
                refine T_p xr_42_17 xn_42 (pc' := 18) (ls' := [(0, .ref 517), (1, .int (iI (((gD G) w 10) h))), (2, .int (iI (((gD G) w 11) h))), (3, .long (iL ((l1 % X_Hh G w h (HF h) (HE h) : Nat) : Int)))]) (st' := [.int (iI (((gD G) w 10) h)), .int (iI wt1), .ref 522]) rfl ?_
                have h1274 := (n1267 522 (by decide)).trans ((n1262 522 (by decide)).trans ((n1256 522 (by decide)).trans ((n1250 522 (by decide)).trans ((n1244 522 (by decide)).trans (hfW1)))))
                refine T_ziast xr_42_18 h1274 (pc' := 19) rfl (fun S1275 h1276 n1277 e1278 => ?_)
                refine T_p xr_42_19 xn_42 (pc' := 20) (ls' := [(0, .ref 517), (1, .int (iI (((gD G) w 10) h))), (2, .int (iI (((gD G) w 11) h))), (3, .long (iL ((l1 % X_Hh G w h (HF h) (HE h) : Nat) : Int)))]) (st' := [.ref 517]) rfl ?_
                have h1279 := (n1277 517 (by decide)).trans (h1266)
                refine T_get xr_42_20 h1279 rfl (v := .ref 523) rfl (pc' := 23) rfl ?_
                refine T_p xr_42_23 xn_42 (pc' := 24) (ls' := [(0, .ref 517), (1, .int (iI (((gD G) w 10) h))), (2, .int (iI (((gD G) w 11) h))), (3, .long (iL ((l1 % X_Hh G w h (HF h) (HE h) : Nat) : Int)))]) (st' := [.ref 517, .ref 523]) rfl ?_
                refine T_get xr_42_24 h1279 rfl (v := .int (iI (wt1 + 1))) rfl (pc' := 27) rfl ?_
                refine T_p xr_42_27 xn_42 (pc' := 28) (ls' := [(0, .ref 517), (1, .int (iI (((gD G) w 10) h))), (2, .int (iI (((gD G) w 11) h))), (3, .long (iL ((l1 % X_Hh G w h (HF h) (HE h) : Nat) : Int)))]) (st' := [.int (iI 1), .int (iI (wt1 + 1)), .ref 523]) rfl ?_
                refine T_zisub xr_42_28 (z := wt1) (by omega) (pc' := 29) rfl ?_
                refine T_p xr_42_29 xn_42 (pc' := 30) (ls' := [(0, .ref 517), (1, .int (iI (((gD G) w 10) h))), (2, .int (iI (((gD G) w 11) h))), (3, .long (iL ((l1 % X_Hh G w h (HF h) (HE h) : Nat) : Int)))]) (st' := [.int (iI (((gD G) w 11) h)), .int (iI wt1), .ref 523]) rfl ?_
                have h1280 := (n1277 523 (by decide)).trans ((n1267 523 (by decide)).trans ((n1262 523 (by decide)).trans ((n1256 523 (by decide)).trans ((n1250 523 (by decide)).trans ((n1244 523 (by decide)).trans (hfK1))))))
                refine T_ziast xr_42_30 h1280 (pc' := 31) rfl (fun S1281 h1282 n1283 e1284 => ?_)
                refine T_p xr_42_31 xn_42 (pc' := 32) (ls' := [(0, .ref 517), (1, .int (iI (((gD G) w 10) h))), (2, .int (iI (((gD G) w 11) h))), (3, .long (iL ((l1 % X_Hh G w h (HF h) (HE h) : Nat) : Int)))]) (st' := [.ref 517]) rfl ?_
                have h1285 := (n1283 517 (by decide)).trans (h1279)
                refine T_get xr_42_32 h1285 rfl (v := .ref 524) rfl (pc' := 35) rfl ?_
                refine T_p xr_42_35 xn_42 (pc' := 36) (ls' := [(0, .ref 517), (1, .int (iI (((gD G) w 10) h))), (2, .int (iI (((gD G) w 11) h))), (3, .long (iL ((l1 % X_Hh G w h (HF h) (HE h) : Nat) : Int)))]) (st' := [.ref 517, .ref 524]) rfl ?_
                refine T_get xr_42_36 h1285 rfl (v := .int (iI (wt1 + 1))) rfl (pc' := 39) rfl ?_
                refine T_p xr_42_39 xn_42 (pc' := 40) (ls' := [(0, .ref 517), (1, .int (iI (((gD G) w 10) h))), (2, .int (iI (((gD G) w 11) h))), (3, .long (iL ((l1 % X_Hh G w h (HF h) (HE h) : Nat) : Int)))]) (st' := [.int (iI 1), .int (iI (wt1 + 1)), .ref 524]) rfl ?_
                refine T_zisub xr_42_40 (z := wt1) (by omega) (pc' := 41) rfl ?_
                refine T_p xr_42_41 xn_42 (pc' := 42) (ls' := [(0, .ref 517), (1, .int (iI (((gD G) w 10) h))), (2, .int (iI (((gD G) w 11) h))), (3, .long (iL ((l1 % X_Hh G w h (HF h) (HE h) : Nat) : Int)))]) (st' := [.long (iL ((l1 % X_Hh G w h (HF h) (HE h) : Nat) : Int)), .int (iI wt1), .ref 524]) rfl ?_
                have h1286 := (n1283 524 (by decide)).trans ((n1277 524 (by decide)).trans ((n1267 524 (by decide)).trans ((n1262 524 (by decide)).trans ((n1256 524 (by decide)).trans ((n1250 524 (by decide)).trans ((n1244 524 (by decide)).trans (hfN1)))))))
                refine T_zlast xr_42_42 h1286 (pc' := 43) rfl (fun S1287 h1288 n1289 e1290 => ?_)
                refine T_vret xr_42_43 xf_42.2.2 ?_
                show X_T sc 46 (125, [(13, .int (iI (bI (X_Hh G w h (HF h) (HE h) ≤ 9223372036854775807)))), (11, .long (X_st (-2) (X_Hh G w h (HF h) (HE h)))), (10, .int (iI (HE h))), (9, .int (iI (HF h))), (8, .int (iI h)), (6, .long (iL (l1 : Int))), (5, .ref aw), (0, .ref 517), (1, .int (iI w)), (2, .int (iI node))], [], S1287) _
                refine T_p xr_46_125 xn_46 (pc' := 127) (ls' := [(13, .int (iI (bI (X_Hh G w h (HF h) (HE h) ≤ 9223372036854775807)))), (11, .long (X_st (-2) (X_Hh G w h (HF h) (HE h)))), (10, .int (iI (HE h))), (9, .int (iI (HF h))), (8, .int (iI h)), (6, .long (iL (l1 : Int))), (5, .ref aw), (0, .ref 517), (1, .int (iI w)), (2, .int (iI node))]) (st' := [.int (iI (bI (X_Hh G w h (HF h) (HE h) ≤ 9223372036854775807)))]) rfl ?_
                refine T_bif_eq xr_46_127 (t := 138) (pc' := 130) rfl rfl (fun c1291 => ?_) (fun c1291 => ?_)
                · skip
                  have c1291 : ¬ (X_Hh G w h (HF h) (HE h) ≤ 9223372036854775807) := c1291
                  refine T_p xr_46_138 xn_46 (pc' := 139) (ls' := [(13, .int (iI (bI (X_Hh G w h (HF h) (HE h) ≤ 9223372036854775807)))), (11, .long (X_st (-2) (X_Hh G w h (HF h) (HE h)))), (10, .int (iI (HE h))), (9, .int (iI (HF h))), (8, .int (iI h)), (6, .long (iL (l1 : Int))), (5, .ref aw), (0, .ref 517), (1, .int (iI w)), (2, .int (iI node))]) (st' := [.long (iL 0)]) rfl ?_
                  refine T_le (y := (iL ((l1 / X_Hh G w h (HF h) (HE h) : Nat) : Int))) (by rw [Nat.div_eq_of_lt (show l1 < X_Hh G w h (HF h) (HE h) by omega)]; rfl) ?_
                  refine T_p xr_46_139 xn_46 (pc' := 141) (ls' := [(6, .long (iL ((l1 / X_Hh G w h (HF h) (HE h) : Nat) : Int))), (13, .int (iI (bI (X_Hh G w h (HF h) (HE h) ≤ 9223372036854775807)))), (11, .long (X_st (-2) (X_Hh G w h (HF h) (HE h)))), (10, .int (iI (HE h))), (9, .int (iI (HF h))), (8, .int (iI h)), (5, .ref aw), (0, .ref 517), (1, .int (iI w)), (2, .int (iI node))]) (st' := []) rfl ?_
                  refine T_ziinc xr_46_141 xn_46 (a := h) (z := h - 1) rfl (Nat.le_of_ble_eq_true rfl) (by omega) (ls' := [(8, .int (iI (h - 1))), (6, .long (iL ((l1 / X_Hh G w h (HF h) (HE h) : Nat) : Int))), (13, .int (iI (bI (X_Hh G w h (HF h) (HE h) ≤ 9223372036854775807)))), (11, .long (X_st (-2) (X_Hh G w h (HF h) (HE h)))), (10, .int (iI (HE h))), (9, .int (iI (HF h))), (5, .ref aw), (0, .ref 517), (1, .int (iI w)), (2, .int (iI node))]) rfl (pc' := 144) rfl ?_
                  refine T_p xr_46_144 xn_46 (pc' := 26) (ls' := [(8, .int (iI (h - 1))), (6, .long (iL ((l1 / X_Hh G w h (HF h) (HE h) : Nat) : Int))), (13, .int (iI (bI (X_Hh G w h (HF h) (HE h) ≤ 9223372036854775807)))), (11, .long (X_st (-2) (X_Hh G w h (HF h) (HE h)))), (10, .int (iI (HE h))), (9, .int (iI (HF h))), (5, .ref aw), (0, .ref 517), (1, .int (iI w)), (2, .int (iI node))]) (st' := []) rfl ?_
                  have h1292 := (n1289 517 (by decide)).trans (h1285)
                  have h1293 := (n1289 518 (by decide)).trans ((n1283 518 (by decide)).trans ((n1277 518 (by decide)).trans ((n1267 518 (by decide)).trans ((n1262 518 (by decide)).trans ((n1256 518 (by decide)).trans ((n1250 518 (by decide)).trans (h1243)))))))
                  have h1294 := (n1289 519 (by decide)).trans ((n1283 519 (by decide)).trans ((n1277 519 (by decide)).trans ((n1267 519 (by decide)).trans ((n1262 519 (by decide)).trans ((n1256 519 (by decide)).trans (h1249))))))
                  have h1295 := (n1289 520 (by decide)).trans ((n1283 520 (by decide)).trans ((n1277 520 (by decide)).trans ((n1267 520 (by decide)).trans ((n1262 520 (by decide)).trans (h1255)))))
                  have h1296 := (n1289 521 (by decide)).trans ((n1283 521 (by decide)).trans ((n1277 521 (by decide)).trans ((n1267 521 (by decide)).trans (h1261))))
                  have h1297 := (n1289 522 (by decide)).trans ((n1283 522 (by decide)).trans (h1276))
                  have h1298 := (n1289 523 (by decide)).trans (h1282)
                  refine T_sub (ls := [(8, .int (iI (h - 1))), (6, .long (iL ((l1 / X_Hh G w h (HF h) (HE h) : Nat) : Int))), (5, .ref aw), (0, .ref 517), (1, .int (iI w)), (2, .int (iI node))]) ⟨rfl, rfl, rfl, rfl, rfl, rfl, trivial⟩ rfl rfl ?_
                  exact ih1224 S1287 (h - 1) (l1 / X_Hh G w h (HF h) (HE h)) (wt1 + 1) (X_ug St1 wt1 (HF h, HE h, node, h, gD G w 9 h, w, X_eh G w h, l1 % X_Hh G w h (HF h) (HE h))) (X_ug fF1 wt1 (HF h)) (X_ug fE1 wt1 (HE h)) (X_ug fP1 wt1 node) (X_ug fH1 wt1 h) (X_ug fW1 wt1 (((gD G) w 10) h)) (X_ug fK1 wt1 (((gD G) w 11) h)) (X_ug fN1 wt1 (iL ((l1 % X_Hh G w h (HF h) (HE h) : Nat) : Int))) h1292 h1293 h1294 h1295 h1296 h1297 h1298 h1288 (hF1227.tr (((((((((X_Fr.rf).tr (X_Fr.of n1244 e1245 (by omega))).tr (X_Fr.of n1250 e1251 (by omega))).tr (X_Fr.of n1256 e1257 (by omega))).tr (X_Fr.of n1262 e1263 (by omega))).tr (X_Fr.of n1267 e1268 (by omega))).tr (X_Fr.of n1277 e1278 (by omega))).tr (X_Fr.of n1283 e1284 (by omega))).tr (X_Fr.of n1289 e1290 (by omega)))) (by omega) (Nat.le_trans (Nat.div_le_self _ _) hl1m) (by
                        rw [X_pus_s (show 0 ≤ h by omega)] at hP
                        rw [show (h - 1 + 1).toNat = h.toNat by omega]
                        exact hP) (F_st.push hst1 rfl rfl rfl rfl ⟨rfl, rfl, rfl, rfl, (hgw.bits (show 0 ≤ h by omega) (by omega) hG).1, (hgw.bits (show 0 ≤ h by omega) (by omega) hG).2, rfl⟩ rfl rfl rfl) (by omega) (by omega)
                · skip
                  have c1291 : (X_Hh G w h (HF h) (HE h) ≤ 9223372036854775807) := c1291
                  exact (show False by first | contradiction | omega).elim
            · skip
              have c1272 : (X_Hh G w h (HF h) (HE h) ≤ 9223372036854775807) := c1272
              refine T_p xr_46_112 xn_46 (pc' := 114) (ls' := [(13, .int (iI (bI (X_Hh G w h (HF h) (HE h) ≤ 9223372036854775807)))), (11, .long (X_st (-2) (X_Hh G w h (HF h) (HE h)))), (10, .int (iI (HE h))), (9, .int (iI (HF h))), (8, .int (iI h)), (6, .long (iL (l1 : Int))), (5, .ref aw), (0, .ref 517), (1, .int (iI w)), (2, .int (iI node))]) (st' := [.long (iL (l1 : Int)), .int (iI (((gD G) w 11) h)), .int (iI (((gD G) w 10) h)), .ref 517]) rfl ?_
              refine T_p xr_46_114 xn_46 (pc' := 116) (ls' := [(13, .int (iI (bI (X_Hh G w h (HF h) (HE h) ≤ 9223372036854775807)))), (11, .long (X_st (-2) (X_Hh G w h (HF h) (HE h)))), (10, .int (iI (HE h))), (9, .int (iI (HF h))), (8, .int (iI h)), (6, .long (iL (l1 : Int))), (5, .ref aw), (0, .ref 517), (1, .int (iI w)), (2, .int (iI node))]) (st' := [.long (X_st (-2) (X_Hh G w h (HF h) (HE h))), .long (iL (l1 : Int)), .int (iI (((gD G) w 11) h)), .int (iI (((gD G) w 10) h)), .ref 517]) rfl ?_
              refine T_p xr_46_116 xn_46 (pc' := 117) (ls' := [(13, .int (iI (bI (X_Hh G w h (HF h) (HE h) ≤ 9223372036854775807)))), (11, .long (X_st (-2) (X_Hh G w h (HF h) (HE h)))), (10, .int (iI (HE h))), (9, .int (iI (HF h))), (8, .int (iI h)), (6, .long (iL (l1 : Int))), (5, .ref aw), (0, .ref 517), (1, .int (iI w)), (2, .int (iI node))]) (st' := .long ((iL (l1 : Int)) - (iL (l1 : Int)) / (X_st (-2) (X_Hh G w h (HF h) (HE h))) * (X_st (-2) (X_Hh G w h (HF h) (HE h)))) :: [.int (iI (((gD G) w 11) h)), .int (iI (((gD G) w 10) h)), .ref 517]) (by simp only [X_pstep, X_l2]; rw [if_neg (by exact fun z => absurd ((X_st_z (m := -2) (by omega)).mp z) (by omega))]) ?_
              refine T_p xr_46_117 xn_46 (pc' := 122) (ls' := [(13, .int (iI (bI (X_Hh G w h (HF h) (HE h) ≤ 9223372036854775807)))), (11, .long (X_st (-2) (X_Hh G w h (HF h) (HE h)))), (10, .int (iI (HE h))), (9, .int (iI (HF h))), (8, .int (iI h)), (6, .long (iL (l1 : Int))), (5, .ref aw), (0, .ref 517), (1, .int (iI w)), (2, .int (iI node))]) (st' := [.long ((iL (l1 : Int)) - (iL (l1 : Int)) / (X_st (-2) (X_Hh G w h (HF h) (HE h))) * (X_st (-2) (X_Hh G w h (HF h) (HE h)))), .int (iI (((gD G) w 11) h)), .int (iI (((gD G) w 10) h)), .ref 517]) rfl ?_
              refine T_le (y := (iL ((l1 % X_Hh G w h (HF h) (HE h) : Nat) : Int))) (by rw [X_st_lo (a := X_Hh G w h (HF h) (HE h)) (by assumption)]; exact (iL_rem hl1m ⟨hHp, by assumption⟩).1) ?_
              refine T_cv (S := S1265) (q := 517) xr_46_122 xf_42.1 xf_42.2.1 xn_42 (as := [.int (iI (((gD G) w 10) h)), .int (iI (((gD G) w 11) h)), .long (iL ((l1 % X_Hh G w h (HF h) (HE h) : Nat) : Int))]) (r := []) rfl h1266 (Nat.le_of_ble_eq_true rfl) (Nat.le_of_ble_eq_true rfl) (pc' := 125) rfl (ls' := [(0, .ref 517), (1, .int (iI (((gD G) w 10) h))), (2, .int (iI (((gD G) w 11) h))), (3, .long (iL ((l1 % X_Hh G w h (HF h) (HE h) : Nat) : Int)))]) rfl ?_
              refine T_p xr_42_0 xn_42 (pc' := 1) (ls' := [(0, .ref 517), (1, .int (iI (((gD G) w 10) h))), (2, .int (iI (((gD G) w 11) h))), (3, .long (iL ((l1 % X_Hh G w h (HF h) (HE h) : Nat) : Int)))]) (st' := [.ref 517]) rfl ?_
              refine T_get xr_42_1 h1266 rfl (v := .int (iI (wt1 + 1))) rfl (pc' := 4) rfl ?_
              refine T_zif_le xr_42_4 (t := 43) (pc' := 7) rfl rfl (fun c1299 => ?_) (fun c1299 => ?_)
              · skip
                have c1299 : (wt1 + 1) ≤ 0 := c1299
                exact (show False by omega).elim
              · skip
                have c1299 : ¬ ((wt1 + 1) ≤ 0) := c1299
                refine T_p xr_42_7 xn_42 (pc' := 8) (ls' := [(0, .ref 517), (1, .int (iI (((gD G) w 10) h))), (2, .int (iI (((gD G) w 11) h))), (3, .long (iL ((l1 % X_Hh G w h (HF h) (HE h) : Nat) : Int)))]) (st' := [.ref 517]) rfl ?_
                refine T_get xr_42_8 h1266 rfl (v := .ref 522) rfl (pc' := 11) rfl ?_
                refine T_p xr_42_11 xn_42 (pc' := 12) (ls' := [(0, .ref 517), (1, .int (iI (((gD G) w 10) h))), (2, .int (iI (((gD G) w 11) h))), (3, .long (iL ((l1 % X_Hh G w h (HF h) (HE h) : Nat) : Int)))]) (st' := [.ref 517, .ref 522]) rfl ?_
                refine T_get xr_42_12 h1266 rfl (v := .int (iI (wt1 + 1))) rfl (pc' := 15) rfl ?_
                refine T_p xr_42_15 xn_42 (pc' := 16) (ls' := [(0, .ref 517), (1, .int (iI (((gD G) w 10) h))), (2, .int (iI (((gD G) w 11) h))), (3, .long (iL ((l1 % X_Hh G w h (HF h) (HE h) : Nat) : Int)))]) (st' := [.int (iI 1), .int (iI (wt1 + 1)), .ref 522]) rfl ?_
                refine T_zisub xr_42_16 (z := wt1) (by omega) (pc' := 17) rfl ?_
                refine T_p xr_42_17 xn_42 (pc' := 18) (ls' := [(0, .ref 517), (1, .int (iI (((gD G) w 10) h))), (2, .int (iI (((gD G) w 11) h))), (3, .long (iL ((l1 % X_Hh G w h (HF h) (HE h) : Nat) : Int)))]) (st' := [.int (iI (((gD G) w 10) h)), .int (iI wt1), .ref 522]) rfl ?_
                have h1300 := (n1267 522 (by decide)).trans ((n1262 522 (by decide)).trans ((n1256 522 (by decide)).trans ((n1250 522 (by decide)).trans ((n1244 522 (by decide)).trans (hfW1)))))
                refine T_ziast xr_42_18 h1300 (pc' := 19) rfl (fun S1301 h1302 n1303 e1304 => ?_)
                refine T_p xr_42_19 xn_42 (pc' := 20) (ls' := [(0, .ref 517), (1, .int (iI (((gD G) w 10) h))), (2, .int (iI (((gD G) w 11) h))), (3, .long (iL ((l1 % X_Hh G w h (HF h) (HE h) : Nat) : Int)))]) (st' := [.ref 517]) rfl ?_
                have h1305 := (n1303 517 (by decide)).trans (h1266)
                refine T_get xr_42_20 h1305 rfl (v := .ref 523) rfl (pc' := 23) rfl ?_
                refine T_p xr_42_23 xn_42 (pc' := 24) (ls' := [(0, .ref 517), (1, .int (iI (((gD G) w 10) h))), (2, .int (iI (((gD G) w 11) h))), (3, .long (iL ((l1 % X_Hh G w h (HF h) (HE h) : Nat) : Int)))]) (st' := [.ref 517, .ref 523]) rfl ?_
                refine T_get xr_42_24 h1305 rfl (v := .int (iI (wt1 + 1))) rfl (pc' := 27) rfl ?_
                refine T_p xr_42_27 xn_42 (pc' := 28) (ls' := [(0, .ref 517), (1, .int (iI (((gD G) w 10) h))), (2, .int (iI (((gD G) w 11) h))), (3, .long (iL ((l1 % X_Hh G w h (HF h) (HE h) : Nat) : Int)))]) (st' := [.int (iI 1), .int (iI (wt1 + 1)), .ref 523]) rfl ?_
                refine T_zisub xr_42_28 (z := wt1) (by omega) (pc' := 29) rfl ?_
                refine T_p xr_42_29 xn_42 (pc' := 30) (ls' := [(0, .ref 517), (1, .int (iI (((gD G) w 10) h))), (2, .int (iI (((gD G) w 11) h))), (3, .long (iL ((l1 % X_Hh G w h (HF h) (HE h) : Nat) : Int)))]) (st' := [.int (iI (((gD G) w 11) h)), .int (iI wt1), .ref 523]) rfl ?_
                have h1306 := (n1303 523 (by decide)).trans ((n1267 523 (by decide)).trans ((n1262 523 (by decide)).trans ((n1256 523 (by decide)).trans ((n1250 523 (by decide)).trans ((n1244 523 (by decide)).trans (hfK1))))))
                refine T_ziast xr_42_30 h1306 (pc' := 31) rfl (fun S1307 h1308 n1309 e1310 => ?_)
                refine T_p xr_42_31 xn_42 (pc' := 32) (ls' := [(0, .ref 517), (1, .int (iI (((gD G) w 10) h))), (2, .int (iI (((gD G) w 11) h))), (3, .long (iL ((l1 % X_Hh G w h (HF h) (HE h) : Nat) : Int)))]) (st' := [.ref 517]) rfl ?_
                have h1311 := (n1309 517 (by decide)).trans (h1305)
                refine T_get xr_42_32 h1311 rfl (v := .ref 524) rfl (pc' := 35) rfl ?_
                refine T_p xr_42_35 xn_42 (pc' := 36) (ls' := [(0, .ref 517), (1, .int (iI (((gD G) w 10) h))), (2, .int (iI (((gD G) w 11) h))), (3, .long (iL ((l1 % X_Hh G w h (HF h) (HE h) : Nat) : Int)))]) (st' := [.ref 517, .ref 524]) rfl ?_
                refine T_get xr_42_36 h1311 rfl (v := .int (iI (wt1 + 1))) rfl (pc' := 39) rfl ?_
                refine T_p xr_42_39 xn_42 (pc' := 40) (ls' := [(0, .ref 517), (1, .int (iI (((gD G) w 10) h))), (2, .int (iI (((gD G) w 11) h))), (3, .long (iL ((l1 % X_Hh G w h (HF h) (HE h) : Nat) : Int)))]) (st' := [.int (iI 1), .int (iI (wt1 + 1)), .ref 524]) rfl ?_
                refine T_zisub xr_42_40 (z := wt1) (by omega) (pc' := 41) rfl ?_
                refine T_p xr_42_41 xn_42 (pc' := 42) (ls' := [(0, .ref 517), (1, .int (iI (((gD G) w 10) h))), (2, .int (iI (((gD G) w 11) h))), (3, .long (iL ((l1 % X_Hh G w h (HF h) (HE h) : Nat) : Int)))]) (st' := [.long (iL ((l1 % X_Hh G w h (HF h) (HE h) : Nat) : Int)), .int (iI wt1), .ref 524]) rfl ?_
                have h1312 := (n1309 524 (by decide)).trans ((n1303 524 (by decide)).trans ((n1267 524 (by decide)).trans ((n1262 524 (by decide)).trans ((n1256 524 (by decide)).trans ((n1250 524 (by decide)).trans ((n1244 524 (by decide)).trans (hfN1)))))))
                refine T_zlast xr_42_42 h1312 (pc' := 43) rfl (fun S1313 h1314 n1315 e1316 => ?_)
                refine T_vret xr_42_43 xf_42.2.2 ?_
                show X_T sc 46 (125, [(13, .int (iI (bI (X_Hh G w h (HF h) (HE h) ≤ 9223372036854775807)))), (11, .long (X_st (-2) (X_Hh G w h (HF h) (HE h)))), (10, .int (iI (HE h))), (9, .int (iI (HF h))), (8, .int (iI h)), (6, .long (iL (l1 : Int))), (5, .ref aw), (0, .ref 517), (1, .int (iI w)), (2, .int (iI node))], [], S1313) _
                refine T_p xr_46_125 xn_46 (pc' := 127) (ls' := [(13, .int (iI (bI (X_Hh G w h (HF h) (HE h) ≤ 9223372036854775807)))), (11, .long (X_st (-2) (X_Hh G w h (HF h) (HE h)))), (10, .int (iI (HE h))), (9, .int (iI (HF h))), (8, .int (iI h)), (6, .long (iL (l1 : Int))), (5, .ref aw), (0, .ref 517), (1, .int (iI w)), (2, .int (iI node))]) (st' := [.int (iI (bI (X_Hh G w h (HF h) (HE h) ≤ 9223372036854775807)))]) rfl ?_
                refine T_bif_eq xr_46_127 (t := 138) (pc' := 130) rfl rfl (fun c1317 => ?_) (fun c1317 => ?_)
                · skip
                  have c1317 : ¬ (X_Hh G w h (HF h) (HE h) ≤ 9223372036854775807) := c1317
                  exact (show False by first | contradiction | omega).elim
                · skip
                  have c1317 : (X_Hh G w h (HF h) (HE h) ≤ 9223372036854775807) := c1317
                  refine T_p xr_46_130 xn_46 (pc' := 132) (ls' := [(13, .int (iI (bI (X_Hh G w h (HF h) (HE h) ≤ 9223372036854775807)))), (11, .long (X_st (-2) (X_Hh G w h (HF h) (HE h)))), (10, .int (iI (HE h))), (9, .int (iI (HF h))), (8, .int (iI h)), (6, .long (iL (l1 : Int))), (5, .ref aw), (0, .ref 517), (1, .int (iI w)), (2, .int (iI node))]) (st' := [.long (iL (l1 : Int))]) rfl ?_
                  refine T_p xr_46_132 xn_46 (pc' := 134) (ls' := [(13, .int (iI (bI (X_Hh G w h (HF h) (HE h) ≤ 9223372036854775807)))), (11, .long (X_st (-2) (X_Hh G w h (HF h) (HE h)))), (10, .int (iI (HE h))), (9, .int (iI (HF h))), (8, .int (iI h)), (6, .long (iL (l1 : Int))), (5, .ref aw), (0, .ref 517), (1, .int (iI w)), (2, .int (iI node))]) (st' := [.long (X_st (-2) (X_Hh G w h (HF h) (HE h))), .long (iL (l1 : Int))]) rfl ?_
                  refine T_p xr_46_134 xn_46 (pc' := 135) (ls' := [(13, .int (iI (bI (X_Hh G w h (HF h) (HE h) ≤ 9223372036854775807)))), (11, .long (X_st (-2) (X_Hh G w h (HF h) (HE h)))), (10, .int (iI (HE h))), (9, .int (iI (HF h))), (8, .int (iI h)), (6, .long (iL (l1 : Int))), (5, .ref aw), (0, .ref 517), (1, .int (iI w)), (2, .int (iI node))]) (st' := .long ((iL (l1 : Int)) / (X_st (-2) (X_Hh G w h (HF h) (HE h)))) :: []) (by simp only [X_pstep, X_l2]; rw [if_neg (by exact fun z => absurd ((X_st_z (m := -2) (by omega)).mp z) (by omega))]) ?_
                  refine T_p xr_46_135 xn_46 (pc' := 139) (ls' := [(13, .int (iI (bI (X_Hh G w h (HF h) (HE h) ≤ 9223372036854775807)))), (11, .long (X_st (-2) (X_Hh G w h (HF h) (HE h)))), (10, .int (iI (HE h))), (9, .int (iI (HF h))), (8, .int (iI h)), (6, .long (iL (l1 : Int))), (5, .ref aw), (0, .ref 517), (1, .int (iI w)), (2, .int (iI node))]) (st' := [.long ((iL (l1 : Int)) / (X_st (-2) (X_Hh G w h (HF h) (HE h))))]) rfl ?_
                  refine T_le (y := (iL ((l1 / X_Hh G w h (HF h) (HE h) : Nat) : Int))) (by rw [X_st_lo (a := X_Hh G w h (HF h) (HE h)) (by assumption)]; exact (iL_rem hl1m ⟨hHp, by assumption⟩).2) ?_
                  refine T_p xr_46_139 xn_46 (pc' := 141) (ls' := [(6, .long (iL ((l1 / X_Hh G w h (HF h) (HE h) : Nat) : Int))), (13, .int (iI (bI (X_Hh G w h (HF h) (HE h) ≤ 9223372036854775807)))), (11, .long (X_st (-2) (X_Hh G w h (HF h) (HE h)))), (10, .int (iI (HE h))), (9, .int (iI (HF h))), (8, .int (iI h)), (5, .ref aw), (0, .ref 517), (1, .int (iI w)), (2, .int (iI node))]) (st' := []) rfl ?_
                  refine T_ziinc xr_46_141 xn_46 (a := h) (z := h - 1) rfl (Nat.le_of_ble_eq_true rfl) (by omega) (ls' := [(8, .int (iI (h - 1))), (6, .long (iL ((l1 / X_Hh G w h (HF h) (HE h) : Nat) : Int))), (13, .int (iI (bI (X_Hh G w h (HF h) (HE h) ≤ 9223372036854775807)))), (11, .long (X_st (-2) (X_Hh G w h (HF h) (HE h)))), (10, .int (iI (HE h))), (9, .int (iI (HF h))), (5, .ref aw), (0, .ref 517), (1, .int (iI w)), (2, .int (iI node))]) rfl (pc' := 144) rfl ?_
                  refine T_p xr_46_144 xn_46 (pc' := 26) (ls' := [(8, .int (iI (h - 1))), (6, .long (iL ((l1 / X_Hh G w h (HF h) (HE h) : Nat) : Int))), (13, .int (iI (bI (X_Hh G w h (HF h) (HE h) ≤ 9223372036854775807)))), (11, .long (X_st (-2) (X_Hh G w h (HF h) (HE h)))), (10, .int (iI (HE h))), (9, .int (iI (HF h))), (5, .ref aw), (0, .ref 517), (1, .int (iI w)), (2, .int (iI node))]) (st' := []) rfl ?_
                  have h1318 := (n1315 517 (by decide)).trans (h1311)
                  have h1319 := (n1315 518 (by decide)).trans ((n1309 518 (by decide)).trans ((n1303 518 (by decide)).trans ((n1267 518 (by decide)).trans ((n1262 518 (by decide)).trans ((n1256 518 (by decide)).trans ((n1250 518 (by decide)).trans (h1243)))))))
                  have h1320 := (n1315 519 (by decide)).trans ((n1309 519 (by decide)).trans ((n1303 519 (by decide)).trans ((n1267 519 (by decide)).trans ((n1262 519 (by decide)).trans ((n1256 519 (by decide)).trans (h1249))))))
                  have h1321 := (n1315 520 (by decide)).trans ((n1309 520 (by decide)).trans ((n1303 520 (by decide)).trans ((n1267 520 (by decide)).trans ((n1262 520 (by decide)).trans (h1255)))))
                  have h1322 := (n1315 521 (by decide)).trans ((n1309 521 (by decide)).trans ((n1303 521 (by decide)).trans ((n1267 521 (by decide)).trans (h1261))))
                  have h1323 := (n1315 522 (by decide)).trans ((n1309 522 (by decide)).trans (h1302))
                  have h1324 := (n1315 523 (by decide)).trans (h1308)
                  refine T_sub (ls := [(8, .int (iI (h - 1))), (6, .long (iL ((l1 / X_Hh G w h (HF h) (HE h) : Nat) : Int))), (5, .ref aw), (0, .ref 517), (1, .int (iI w)), (2, .int (iI node))]) ⟨rfl, rfl, rfl, rfl, rfl, rfl, trivial⟩ rfl rfl ?_
                  exact ih1224 S1313 (h - 1) (l1 / X_Hh G w h (HF h) (HE h)) (wt1 + 1) (X_ug St1 wt1 (HF h, HE h, node, h, gD G w 9 h, w, X_eh G w h, l1 % X_Hh G w h (HF h) (HE h))) (X_ug fF1 wt1 (HF h)) (X_ug fE1 wt1 (HE h)) (X_ug fP1 wt1 node) (X_ug fH1 wt1 h) (X_ug fW1 wt1 (((gD G) w 10) h)) (X_ug fK1 wt1 (((gD G) w 11) h)) (X_ug fN1 wt1 (iL ((l1 % X_Hh G w h (HF h) (HE h) : Nat) : Int))) h1318 h1319 h1320 h1321 h1322 h1323 h1324 h1314 (hF1227.tr (((((((((X_Fr.rf).tr (X_Fr.of n1244 e1245 (by omega))).tr (X_Fr.of n1250 e1251 (by omega))).tr (X_Fr.of n1256 e1257 (by omega))).tr (X_Fr.of n1262 e1263 (by omega))).tr (X_Fr.of n1267 e1268 (by omega))).tr (X_Fr.of n1303 e1304 (by omega))).tr (X_Fr.of n1309 e1310 (by omega))).tr (X_Fr.of n1315 e1316 (by omega)))) (by omega) (Nat.le_trans (Nat.div_le_self _ _) hl1m) (by
                        rw [X_pus_s (show 0 ≤ h by omega)] at hP
                        rw [show (h - 1 + 1).toNat = h.toNat by omega]
                        exact hP) (F_st.push hst1 rfl rfl rfl rfl ⟨rfl, rfl, rfl, rfl, (hgw.bits (show 0 ≤ h by omega) (by omega) hG).1, (hgw.bits (show 0 ≤ h by omega) (by omega) hG).2, rfl⟩ rfl rfl rfl) (by omega) (by omega)
        refine T_p xr_46_65 xn_46 (pc' := 67) (ls' := [(11, .long (X_st (-2) (X_Hh G w h (HF h) (HE h)))), (10, .int (iI (HE h))), (9, .int (iI (HF h))), (8, .int (iI h)), (6, .long (iL (l1 : Int))), (5, .ref aw), (0, .ref 517), (1, .int (iI w)), (2, .int (iI node))]) (st' := [.long (X_st (-2) (X_Hh G w h (HF h) (HE h)))]) rfl ?_
        refine T_p xr_46_67 xn_46 (pc' := 68) (ls' := [(11, .long (X_st (-2) (X_Hh G w h (HF h) (HE h)))), (10, .int (iI (HE h))), (9, .int (iI (HF h))), (8, .int (iI h)), (6, .long (iL (l1 : Int))), (5, .ref aw), (0, .ref 517), (1, .int (iI w)), (2, .int (iI node))]) (st' := [.long (iL 0), .long (X_st (-2) (X_Hh G w h (HF h) (HE h)))]) rfl ?_
        refine T_lc_le xr_46_68 xr_46_69 (t := 76) (pc' := 72) rfl rfl (fun c1325 => ?_) (fun c1325 => ?_)
        · skip
          have c1325 : (X_st (-2) (X_Hh G w h (HF h) (HE h))) ≤ (iL 0) := c1325
          refine T_p xr_46_76 xn_46 (pc' := 77) (ls' := [(11, .long (X_st (-2) (X_Hh G w h (HF h) (HE h)))), (10, .int (iI (HE h))), (9, .int (iI (HF h))), (8, .int (iI h)), (6, .long (iL (l1 : Int))), (5, .ref aw), (0, .ref 517), (1, .int (iI w)), (2, .int (iI node))]) (st' := [.int (iI 0)]) rfl ?_
          refine T_ie (y := iI (bI (X_Hh G w h (HF h) (HE h) ≤ 9223372036854775807))) (by rw [bI_f (by exact fun z => absurd (show X_st (-2) (X_Hh G w h (HF h) (HE h)) ≤ iL 0 by assumption) (by rw [X_st_lo z, iL_le (by omega) (by omega) (by omega) (by omega)]; omega))]) ?_
          exact J1240
        · skip
          have c1325 : ¬ ((X_st (-2) (X_Hh G w h (HF h) (HE h))) ≤ (iL 0)) := c1325
          refine T_p xr_46_72 xn_46 (pc' := 73) (ls' := [(11, .long (X_st (-2) (X_Hh G w h (HF h) (HE h)))), (10, .int (iI (HE h))), (9, .int (iI (HF h))), (8, .int (iI h)), (6, .long (iL (l1 : Int))), (5, .ref aw), (0, .ref 517), (1, .int (iI w)), (2, .int (iI node))]) (st' := [.int (iI 1)]) rfl ?_
          refine T_p xr_46_73 xn_46 (pc' := 77) (ls' := [(11, .long (X_st (-2) (X_Hh G w h (HF h) (HE h)))), (10, .int (iI (HE h))), (9, .int (iI (HF h))), (8, .int (iI h)), (6, .long (iL (l1 : Int))), (5, .ref aw), (0, .ref 517), (1, .int (iI w)), (2, .int (iI node))]) (st' := [.int (iI 1)]) rfl ?_
          refine T_ie (y := iI (bI (X_Hh G w h (HF h) (HE h) ≤ 9223372036854775807))) (by rw [bI_t (by exact Classical.byContradiction (fun z => absurd (show X_st (-2) (X_Hh G w h (HF h) (HE h)) ≤ iL 0 by rw [X_st_hi (by omega)]; decide) (by assumption)))]) ?_
          exact J1240
  refine T_sub (ls := [(8, .int (iI (((gD G) w 4 0) - 1))), (6, .long (iL (l : Int))), (5, .ref aw), (0, .ref 517), (1, .int (iI w)), (2, .int (iI node))]) ⟨rfl, rfl, rfl, rfl, rfl, rfl, trivial⟩ rfl rfl ?_
  exact L1223 ((gD G w 4 0) + 1).toNat S (((gD G) w 4 0) - 1) l wt St fF fE fP fH fW fK fN hO517 hA518 hA519 hA520 hA521 hA522 hA523 hA524 ((X_Fr.rf)) (by omega) hlm (by rw [show (gD G w 4 0 - 1 + 1).toNat = (gD G w 4 0).toNat by omega]) hst (by omega) (by omega)
