theorem xr_37_0 : X_row 37 0 = some (0, (.aload_n 0, 1), (0, 0, 0)) := by decide +kernel
theorem xr_37_1 : X_row 37 1 = some (1, (.getfield 9, 3), (2, 3, 24)) := by decide +kernel
theorem xr_37_4 : X_row 37 4 = some (4, (.bipush 30, 2), (0, 0, 0)) := by decide +kernel
theorem xr_37_6 : X_row 37 6 = some (6, (.if_icmp .ge 54, 3), (0, 0, 0)) := by decide +kernel
theorem xr_37_9 : X_row 37 9 = some (9, (.aload_n 0, 1), (0, 0, 0)) := by decide +kernel
theorem xr_37_10 : X_row 37 10 = some (10, (.getfield 15, 3), (2, 4, 26)) := by decide +kernel
theorem xr_37_13 : X_row 37 13 = some (13, (.aload_n 0, 1), (0, 0, 0)) := by decide +kernel
theorem xr_37_14 : X_row 37 14 = some (14, (.getfield 9, 3), (2, 3, 24)) := by decide +kernel
theorem xr_37_17 : X_row 37 17 = some (17, (.iload_n 1, 1), (0, 0, 0)) := by decide +kernel
theorem xr_37_18 : X_row 37 18 = some (18, (.iastore, 1), (0, 0, 0)) := by decide +kernel
theorem xr_37_19 : X_row 37 19 = some (19, (.aload_n 0, 1), (0, 0, 0)) := by decide +kernel
theorem xr_37_20 : X_row 37 20 = some (20, (.getfield 19, 3), (2, 5, 28)) := by decide +kernel
theorem xr_37_23 : X_row 37 23 = some (23, (.aload_n 0, 1), (0, 0, 0)) := by decide +kernel
theorem xr_37_24 : X_row 37 24 = some (24, (.getfield 9, 3), (2, 3, 24)) := by decide +kernel
theorem xr_37_27 : X_row 37 27 = some (27, (.iload_n 2, 1), (0, 0, 0)) := by decide +kernel
theorem xr_37_28 : X_row 37 28 = some (28, (.iastore, 1), (0, 0, 0)) := by decide +kernel
theorem xr_37_29 : X_row 37 29 = some (29, (.aload_n 0, 1), (0, 0, 0)) := by decide +kernel
theorem xr_37_30 : X_row 37 30 = some (30, (.getfield 22, 3), (2, 6, 30)) := by decide +kernel
theorem xr_37_33 : X_row 37 33 = some (33, (.aload_n 0, 1), (0, 0, 0)) := by decide +kernel
theorem xr_37_34 : X_row 37 34 = some (34, (.getfield 9, 3), (2, 3, 24)) := by decide +kernel
theorem xr_37_37 : X_row 37 37 = some (37, (.iload_n 3, 1), (0, 0, 0)) := by decide +kernel
theorem xr_37_38 : X_row 37 38 = some (38, (.iastore, 1), (0, 0, 0)) := by decide +kernel
theorem xr_37_39 : X_row 37 39 = some (39, (.aload_n 0, 1), (0, 0, 0)) := by decide +kernel
theorem xr_37_40 : X_row 37 40 = some (40, (.getfield 25, 3), (2, 7, 32)) := by decide +kernel
theorem xr_37_43 : X_row 37 43 = some (43, (.aload_n 0, 1), (0, 0, 0)) := by decide +kernel
theorem xr_37_44 : X_row 37 44 = some (44, (.getfield 9, 3), (2, 3, 24)) := by decide +kernel
theorem xr_37_47 : X_row 37 47 = some (47, (.iload 4, 2), (0, 0, 0)) := by decide +kernel
theorem xr_37_49 : X_row 37 49 = some (49, (.iastore, 1), (0, 0, 0)) := by decide +kernel
theorem xr_37_50 : X_row 37 50 = some (50, (.aload_n 0, 1), (0, 0, 0)) := by decide +kernel
theorem xr_37_51 : X_row 37 51 = some (51, (.dup, 1), (0, 0, 0)) := by decide +kernel
theorem xr_37_52 : X_row 37 52 = some (52, (.getfield 9, 3), (2, 3, 24)) := by decide +kernel
theorem xr_37_55 : X_row 37 55 = some (55, (.iconst 1, 1), (0, 0, 0)) := by decide +kernel
theorem xr_37_56 : X_row 37 56 = some (56, (.iadd, 1), (0, 0, 0)) := by decide +kernel
theorem xr_37_57 : X_row 37 57 = some (57, (.putfield 9, 3), (2, 3, 24)) := by decide +kernel
theorem xr_37_60 : X_row 37 60 = some (60, (.return_, 1), (0, 0, 0)) := by decide +kernel
theorem xr_38_0 : X_row 38 0 = some (0, (.aload_n 0, 1), (0, 0, 0)) := by decide +kernel
theorem xr_38_1 : X_row 38 1 = some (1, (.getfield 9, 3), (2, 3, 24)) := by decide +kernel
theorem xr_38_4 : X_row 38 4 = some (4, (.ifCond .le 39, 3), (0, 0, 0)) := by decide +kernel
theorem xr_38_7 : X_row 38 7 = some (7, (.aload_n 0, 1), (0, 0, 0)) := by decide +kernel
theorem xr_38_8 : X_row 38 8 = some (8, (.getfield 28, 3), (2, 8, 34)) := by decide +kernel
theorem xr_38_11 : X_row 38 11 = some (11, (.aload_n 0, 1), (0, 0, 0)) := by decide +kernel
theorem xr_38_12 : X_row 38 12 = some (12, (.getfield 9, 3), (2, 3, 24)) := by decide +kernel
theorem xr_38_15 : X_row 38 15 = some (15, (.iconst 1, 1), (0, 0, 0)) := by decide +kernel
theorem xr_38_16 : X_row 38 16 = some (16, (.isub, 1), (0, 0, 0)) := by decide +kernel
theorem xr_38_17 : X_row 38 17 = some (17, (.iload_n 1, 1), (0, 0, 0)) := by decide +kernel
theorem xr_38_18 : X_row 38 18 = some (18, (.iastore, 1), (0, 0, 0)) := by decide +kernel
theorem xr_38_19 : X_row 38 19 = some (19, (.aload_n 0, 1), (0, 0, 0)) := by decide +kernel
theorem xr_38_20 : X_row 38 20 = some (20, (.getfield 31, 3), (2, 9, 36)) := by decide +kernel
theorem xr_38_23 : X_row 38 23 = some (23, (.aload_n 0, 1), (0, 0, 0)) := by decide +kernel
theorem xr_38_24 : X_row 38 24 = some (24, (.getfield 9, 3), (2, 3, 24)) := by decide +kernel
theorem xr_38_27 : X_row 38 27 = some (27, (.iconst 1, 1), (0, 0, 0)) := by decide +kernel
theorem xr_38_28 : X_row 38 28 = some (28, (.isub, 1), (0, 0, 0)) := by decide +kernel
theorem xr_38_29 : X_row 38 29 = some (29, (.iload_n 2, 1), (0, 0, 0)) := by decide +kernel
theorem xr_38_30 : X_row 38 30 = some (30, (.iastore, 1), (0, 0, 0)) := by decide +kernel
theorem xr_38_31 : X_row 38 31 = some (31, (.aload_n 0, 1), (0, 0, 0)) := by decide +kernel
theorem xr_38_32 : X_row 38 32 = some (32, (.getfield 34, 3), (2, 10, 38)) := by decide +kernel
theorem xr_38_35 : X_row 38 35 = some (35, (.aload_n 0, 1), (0, 0, 0)) := by decide +kernel
theorem xr_38_36 : X_row 38 36 = some (36, (.getfield 9, 3), (2, 3, 24)) := by decide +kernel
theorem xr_38_39 : X_row 38 39 = some (39, (.iconst 1, 1), (0, 0, 0)) := by decide +kernel
theorem xr_38_40 : X_row 38 40 = some (40, (.isub, 1), (0, 0, 0)) := by decide +kernel
theorem xr_38_41 : X_row 38 41 = some (41, (.lload_n 3, 1), (0, 0, 0)) := by decide +kernel
theorem xr_38_42 : X_row 38 42 = some (42, (.lastore, 1), (0, 0, 0)) := by decide +kernel
theorem xr_38_43 : X_row 38 43 = some (43, (.return_, 1), (0, 0, 0)) := by decide +kernel
theorem xr_42_0 : X_row 42 0 = some (0, (.aload_n 0, 1), (0, 0, 0)) := by decide +kernel
theorem xr_42_1 : X_row 42 1 = some (1, (.getfield 44, 3), (2, 0, 18)) := by decide +kernel
theorem xr_42_4 : X_row 42 4 = some (4, (.getfield 98, 3), (1, 0, 17)) := by decide +kernel
theorem xr_42_7 : X_row 42 7 = some (7, (.getfield 123, 3), (0, 7, 13)) := by decide +kernel
theorem xr_42_10 : X_row 42 10 = some (10, (.iload_n 1, 1), (0, 0, 0)) := by decide +kernel
theorem xr_42_11 : X_row 42 11 = some (11, (.aaload, 1), (0, 0, 0)) := by decide +kernel
theorem xr_42_12 : X_row 42 12 = some (12, (.astore 5, 2), (0, 0, 0)) := by decide +kernel
theorem xr_42_14 : X_row 42 14 = some (14, (.lload_n 3, 1), (0, 0, 0)) := by decide +kernel
theorem xr_42_15 : X_row 42 15 = some (15, (.lstore 6, 2), (0, 0, 0)) := by decide +kernel
theorem xr_42_17 : X_row 42 17 = some (17, (.aload 5, 2), (0, 0, 0)) := by decide +kernel
theorem xr_42_19 : X_row 42 19 = some (19, (.getfield 149, 3), (8, 4, 3)) := by decide +kernel
theorem xr_42_22 : X_row 42 22 = some (22, (.iconst 1, 1), (0, 0, 0)) := by decide +kernel
theorem xr_42_23 : X_row 42 23 = some (23, (.isub, 1), (0, 0, 0)) := by decide +kernel
theorem xr_42_24 : X_row 42 24 = some (24, (.istore 8, 2), (0, 0, 0)) := by decide +kernel
theorem xr_42_26 : X_row 42 26 = some (26, (.iload 8, 2), (0, 0, 0)) := by decide +kernel
theorem xr_42_28 : X_row 42 28 = some (28, (.ifCond .lt 119, 3), (0, 0, 0)) := by decide +kernel
theorem xr_42_31 : X_row 42 31 = some (31, (.aload_n 0, 1), (0, 0, 0)) := by decide +kernel
theorem xr_42_32 : X_row 42 32 = some (32, (.getfield 38, 3), (2, 11, 40)) := by decide +kernel
theorem xr_42_35 : X_row 42 35 = some (35, (.iload 8, 2), (0, 0, 0)) := by decide +kernel
theorem xr_42_37 : X_row 42 37 = some (37, (.iaload, 1), (0, 0, 0)) := by decide +kernel
theorem xr_42_38 : X_row 42 38 = some (38, (.istore 9, 2), (0, 0, 0)) := by decide +kernel
theorem xr_42_40 : X_row 42 40 = some (40, (.aload_n 0, 1), (0, 0, 0)) := by decide +kernel
theorem xr_42_41 : X_row 42 41 = some (41, (.getfield 41, 3), (2, 12, 42)) := by decide +kernel
theorem xr_42_44 : X_row 42 44 = some (44, (.iload 8, 2), (0, 0, 0)) := by decide +kernel
theorem xr_42_46 : X_row 42 46 = some (46, (.iaload, 1), (0, 0, 0)) := by decide +kernel
theorem xr_42_47 : X_row 42 47 = some (47, (.istore 10, 2), (0, 0, 0)) := by decide +kernel
theorem xr_42_49 : X_row 42 49 = some (49, (.aload_n 0, 1), (0, 0, 0)) := by decide +kernel
theorem xr_42_50 : X_row 42 50 = some (50, (.getfield 44, 3), (2, 0, 18)) := by decide +kernel
theorem xr_42_53 : X_row 42 53 = some (53, (.iload 9, 2), (0, 0, 0)) := by decide +kernel
theorem xr_42_55 : X_row 42 55 = some (55, (.iload 10, 2), (0, 0, 0)) := by decide +kernel
theorem xr_42_57 : X_row 42 57 = some (57, (.iload_n 1, 1), (0, 0, 0)) := by decide +kernel
theorem xr_42_58 : X_row 42 58 = some (58, (.iload 8, 2), (0, 0, 0)) := by decide +kernel
theorem xr_42_60 : X_row 42 60 = some (60, (.invokevirtual 138, 3), (23, 24, 0)) := by decide +kernel
theorem xr_42_63 : X_row 42 63 = some (63, (.lstore 11, 2), (0, 0, 0)) := by decide +kernel
theorem xr_42_65 : X_row 42 65 = some (65, (.lload 11, 2), (0, 0, 0)) := by decide +kernel
theorem xr_42_67 : X_row 42 67 = some (67, (.lconst 0, 1), (0, 0, 0)) := by decide +kernel
theorem xr_42_68 : X_row 42 68 = some (68, (.lcmp, 1), (0, 0, 0)) := by decide +kernel
theorem xr_42_69 : X_row 42 69 = some (69, (.ifCond .le 7, 3), (0, 0, 0)) := by decide +kernel
theorem xr_42_72 : X_row 42 72 = some (72, (.iconst 1, 1), (0, 0, 0)) := by decide +kernel
theorem xr_42_73 : X_row 42 73 = some (73, (.goto 4, 3), (0, 0, 0)) := by decide +kernel
theorem xr_42_76 : X_row 42 76 = some (76, (.iconst 0, 1), (0, 0, 0)) := by decide +kernel
theorem xr_42_77 : X_row 42 77 = some (77, (.istore 13, 2), (0, 0, 0)) := by decide +kernel
theorem xr_42_79 : X_row 42 79 = some (79, (.aload_n 0, 1), (0, 0, 0)) := by decide +kernel
theorem xr_42_80 : X_row 42 80 = some (80, (.iload 9, 2), (0, 0, 0)) := by decide +kernel
theorem xr_42_82 : X_row 42 82 = some (82, (.iload 10, 2), (0, 0, 0)) := by decide +kernel
theorem xr_42_84 : X_row 42 84 = some (84, (.iload_n 2, 1), (0, 0, 0)) := by decide +kernel
theorem xr_42_85 : X_row 42 85 = some (85, (.iload 8, 2), (0, 0, 0)) := by decide +kernel
theorem xr_42_87 : X_row 42 87 = some (87, (.invokevirtual 66, 3), (37, 2, 0)) := by decide +kernel
theorem xr_42_90 : X_row 42 90 = some (90, (.aload_n 0, 1), (0, 0, 0)) := by decide +kernel
theorem xr_42_91 : X_row 42 91 = some (91, (.aload 5, 2), (0, 0, 0)) := by decide +kernel
theorem xr_42_93 : X_row 42 93 = some (93, (.getfield 151, 3), (8, 11, 7)) := by decide +kernel
theorem xr_42_96 : X_row 42 96 = some (96, (.iload 8, 2), (0, 0, 0)) := by decide +kernel
theorem xr_42_98 : X_row 42 98 = some (98, (.iaload, 1), (0, 0, 0)) := by decide +kernel
theorem xr_42_99 : X_row 42 99 = some (99, (.aload 5, 2), (0, 0, 0)) := by decide +kernel
theorem xr_42_101 : X_row 42 101 = some (101, (.getfield 154, 3), (8, 12, 9)) := by decide +kernel
theorem xr_42_104 : X_row 42 104 = some (104, (.iload 8, 2), (0, 0, 0)) := by decide +kernel
theorem xr_42_106 : X_row 42 106 = some (106, (.iaload, 1), (0, 0, 0)) := by decide +kernel
theorem xr_42_107 : X_row 42 107 = some (107, (.iload 13, 2), (0, 0, 0)) := by decide +kernel
theorem xr_42_109 : X_row 42 109 = some (109, (.ifCond .eq 11, 3), (0, 0, 0)) := by decide +kernel
theorem xr_42_112 : X_row 42 112 = some (112, (.lload 6, 2), (0, 0, 0)) := by decide +kernel
theorem xr_42_114 : X_row 42 114 = some (114, (.lload 11, 2), (0, 0, 0)) := by decide +kernel
theorem xr_42_116 : X_row 42 116 = some (116, (.lrem, 1), (0, 0, 0)) := by decide +kernel
theorem xr_42_117 : X_row 42 117 = some (117, (.goto 5, 3), (0, 0, 0)) := by decide +kernel
theorem xr_42_120 : X_row 42 120 = some (120, (.lload 6, 2), (0, 0, 0)) := by decide +kernel
theorem xr_42_122 : X_row 42 122 = some (122, (.invokevirtual 70, 3), (38, 4, 0)) := by decide +kernel
theorem xr_42_125 : X_row 42 125 = some (125, (.iload 13, 2), (0, 0, 0)) := by decide +kernel
theorem xr_42_127 : X_row 42 127 = some (127, (.ifCond .eq 11, 3), (0, 0, 0)) := by decide +kernel
theorem xr_42_130 : X_row 42 130 = some (130, (.lload 6, 2), (0, 0, 0)) := by decide +kernel
theorem xr_42_132 : X_row 42 132 = some (132, (.lload 11, 2), (0, 0, 0)) := by decide +kernel
theorem xr_42_134 : X_row 42 134 = some (134, (.ldiv, 1), (0, 0, 0)) := by decide +kernel
theorem xr_42_135 : X_row 42 135 = some (135, (.goto 4, 3), (0, 0, 0)) := by decide +kernel
theorem xr_42_138 : X_row 42 138 = some (138, (.lconst 0, 1), (0, 0, 0)) := by decide +kernel
theorem xr_42_139 : X_row 42 139 = some (139, (.lstore 6, 2), (0, 0, 0)) := by decide +kernel
theorem xr_42_141 : X_row 42 141 = some (141, (.iinc 8 (-1), 3), (0, 0, 0)) := by decide +kernel
theorem xr_42_144 : X_row 42 144 = some (144, (.goto (-118), 3), (0, 0, 0)) := by decide +kernel
theorem xr_42_147 : X_row 42 147 = some (147, (.return_, 1), (0, 0, 0)) := by decide +kernel
theorem xn_37 : X_nL 37 = 5 := by decide +kernel
theorem xf_37 : X_na 37 = 4 ∧ X_ci 37 = 2 ∧ X_rt 37 = none := by decide +kernel
theorem xn_38 : X_nL 38 = 5 := by decide +kernel
theorem xf_38 : X_na 38 = 3 ∧ X_ci 38 = 2 ∧ X_rt 38 = none := by decide +kernel
theorem xn_42 : X_nL 42 = 14 := by decide +kernel
theorem xf_42 : X_na 42 = 3 ∧ X_ci 42 = 2 ∧ X_rt 42 = none := by decide +kernel
set_option maxHeartbeats 1600000 in
theorem c_fillWord (sc : X_Sc) (S : X_S) (oK : Int → Int64) (oW : Int → Int64) (oA : Int → Int64) (oH : Int → Int64) (fF : Int → Int) (fE : Int → Int) (fP : Int → Int) (fH : Int → Int) (fW : Int → Int) (fK : Int → Int) (fN : Int → Int64) (hF : Int → Int) (hE : Int → Int) (B : Nat) (rc : Int) (rn : Int → Int64) (kn : Int → Int64) (G : X_G) (tn : Int) (fl : Int) (wt : Int) (w : Int) (node : Int) (l : Nat) (HF : Int → Int) (HE : Int → Int) (St : Int → X_It) (hO511 : S.1 511 = .inr (1, [.ref B, .ref 501, .int (iI fl), .ref 512, .ref 513, .ref 514, .ref 515, .ref 516])) (hO517 : S.1 517 = .inr (2, [.ref 511, .ref 501, .ref 504, .int (iI wt), .ref 518, .ref 519, .ref 520, .ref 521, .ref 522, .ref 523, .ref 524, .ref 525, .ref 526])) (hA512 : S.1 512 = .inl (.long, 5115, .inr (.inl fun k : Nat => oK (k : Int)))) (hA513 : S.1 513 = .inl (.long, 13950, .inr (.inl fun k : Nat => oW (k : Int)))) (hA514 : S.1 514 = .inl (.long, 465, .inr (.inl fun k : Nat => oA (k : Int)))) (hA515 : S.1 515 = .inl (.long, 55800, .inr (.inl fun k : Nat => oH (k : Int)))) (hA518 : S.1 518 = .inl (.int, 30, .inl fun k : Nat => iI (fF (k : Int)))) (hA519 : S.1 519 = .inl (.int, 30, .inl fun k : Nat => iI (fE (k : Int)))) (hA520 : S.1 520 = .inl (.int, 30, .inl fun k : Nat => iI (fP (k : Int)))) (hA521 : S.1 521 = .inl (.int, 30, .inl fun k : Nat => iI (fH (k : Int)))) (hA522 : S.1 522 = .inl (.int, 30, .inl fun k : Nat => iI (fW (k : Int)))) (hA523 : S.1 523 = .inl (.int, 30, .inl fun k : Nat => iI (fK (k : Int)))) (hA524 : S.1 524 = .inl (.long, 30, .inr (.inl fun k : Nat => fN (k : Int)))) (hA525 : S.1 525 = .inl (.int, 4, .inl fun k : Nat => iI (hF (k : Int)))) (hA526 : S.1 526 = .inl (.int, 4, .inl fun k : Nat => iI (hE (k : Int)))) (hB : B = 4 ∨ B = 250) (hb : C_bk S B rc (gk G) (gw G) rn (gl G) kn (ga G)) (hs : C_ws S B (gD G) (gW G)) (hG : X_Gok G) (hw : 0 ≤ w ∧ w < gw G) (htn : 0 ≤ tn ∧ tn ≤ 30) (hcht : X_cht G (-2) tn oK oW oA oH) (hst : F_st G wt St fF fE fP fH fW fK fN) (hA : ∀ h, 0 ≤ h → h < gD G w 4 0 → hF h = HF h ∧ hE h = HE h) (hx : ∀ x, 0 ≤ x → x < gD G w 4 0 → (0 ≤ HF x ∧ HF x < HE x ∧ HE x ≤ tn) ∧ 0 < X_Hh G w x (HF x) (HE x)) (hwt : 0 ≤ wt ∧ wt + gD G w 4 0 ≤ 30) (hlm : l ≤ 9223372036854775807) : X_T sc 42 (0, [(0, .ref 517), (1, .int (iI w)), (2, .int (iI node)), (3, .long (iL (l : Int)))], [], S) (fun v S' => ∃ (r1 : Int) (St1 : Int → X_It) (fF1 : Int → Int) (fE1 : Int → Int) (fP1 : Int → Int) (fH1 : Int → Int) (fW1 : Int → Int) (fK1 : Int → Int) (fN1 : Int → Int64), v = none ∧ X_pus G w node HF HE (gD G w 4 0).toNat l (wt, St) = (r1, St1) ∧ F_st G r1 St1 fF1 fE1 fP1 fH1 fW1 fK1 fN1 ∧ S'.1 517 = .inr (2, [.ref 511, .ref 501, .ref 504, .int (iI r1), .ref 518, .ref 519, .ref 520, .ref 521, .ref 522, .ref 523, .ref 524, .ref 525, .ref 526]) ∧ S'.1 518 = .inl (.int, 30, .inl fun k : Nat => iI (fF1 (k : Int))) ∧ S'.1 519 = .inl (.int, 30, .inl fun k : Nat => iI (fE1 (k : Int))) ∧ S'.1 520 = .inl (.int, 30, .inl fun k : Nat => iI (fP1 (k : Int))) ∧ S'.1 521 = .inl (.int, 30, .inl fun k : Nat => iI (fH1 (k : Int))) ∧ S'.1 522 = .inl (.int, 30, .inl fun k : Nat => iI (fW1 (k : Int))) ∧ S'.1 523 = .inl (.int, 30, .inl fun k : Nat => iI (fK1 (k : Int))) ∧ S'.1 524 = .inl (.long, 30, .inr (.inl fun k : Nat => fN1 (k : Int))) ∧ (X_Fr (fun q => q = 518 ∨ q = 519 ∨ q = 520 ∨ q = 521 ∨ q = 522 ∨ q = 523 ∨ q = 524 ∨ q = 517) S S')) := by
  obtain ⟨hb0, hb1, hb2, hb3, hb4, ⟨f, hb5, hf⟩, ⟨hrc, hrcb⟩, ⟨hkc, hkcb⟩, ⟨hwc, hwcb⟩⟩ := id hb
  have hgw := hG.2.2.2 w hw.1 hw.2
  have hsz := hgw.1
  have hho := hgw.2.1
  refine X_QI (fun Q hQ => ?_)
  refine T_p xr_42_0 xn_42 (pc' := 1) (ls' := [(0, .ref 517), (1, .int (iI w)), (2, .int (iI node)), (3, .long (iL (l : Int)))]) (st' := [.ref 517]) rfl ?_
  refine T_get xr_42_1 hO517 rfl (v := .ref 511) rfl (pc' := 4) rfl ?_
  refine T_get xr_42_4 hO511 rfl (v := .ref B) rfl (pc' := 7) rfl ?_
  refine T_get xr_42_7 hb0 rfl (v := .ref (B + 5)) rfl (pc' := 10) rfl ?_
  refine T_p xr_42_10 xn_42 (pc' := 11) (ls' := [(0, .ref 517), (1, .int (iI w)), (2, .int (iI node)), (3, .long (iL (l : Int)))]) (st' := [.int (iI w), .ref (B + 5)]) rfl ?_
  have hwaw := hs w (by omega) (by omega)
  obtain ⟨aw, haaw⟩ : ∃ z : Nat, z = B + 6 + 8 * (w : Int).toNat := ⟨_, rfl⟩
  rw [← haaw] at hwaw
  obtain ⟨⟨_, _⟩, ⟨_, _⟩, ⟨_, _⟩, ⟨_, _⟩, ⟨_, _⟩, ⟨_, _⟩, ⟨_, _⟩, ⟨_, _⟩⟩ := id hwaw.2
  refine T_zaald xr_42_11 hb5 (w := aw) (by rw [haaw]; exact hf _ (by omega)) (pc' := 12) rfl ?_
  refine T_p xr_42_12 xn_42 (pc' := 14) (ls' := [(5, .ref aw), (0, .ref 517), (1, .int (iI w)), (2, .int (iI node)), (3, .long (iL (l : Int)))]) (st' := []) rfl ?_
  refine T_p xr_42_14 xn_42 (pc' := 15) (ls' := [(5, .ref aw), (0, .ref 517), (1, .int (iI w)), (2, .int (iI node)), (3, .long (iL (l : Int)))]) (st' := [.long (iL (l : Int))]) rfl ?_
  refine T_p xr_42_15 xn_42 (pc' := 17) (ls' := [(6, .long (iL (l : Int))), (5, .ref aw), (0, .ref 517), (1, .int (iI w)), (2, .int (iI node)), (3, .long (iL (l : Int)))]) (st' := []) rfl ?_
  refine T_p xr_42_17 xn_42 (pc' := 19) (ls' := [(6, .long (iL (l : Int))), (5, .ref aw), (0, .ref 517), (1, .int (iI w)), (2, .int (iI node)), (3, .long (iL (l : Int)))]) (st' := [.ref aw]) rfl ?_
  refine T_get xr_42_19 hwaw.1.1 rfl (v := .int (iI ((gD G) w 4 0))) rfl (pc' := 22) rfl ?_
  refine T_p xr_42_22 xn_42 (pc' := 23) (ls' := [(6, .long (iL (l : Int))), (5, .ref aw), (0, .ref 517), (1, .int (iI w)), (2, .int (iI node)), (3, .long (iL (l : Int)))]) (st' := [.int (iI 1), .int (iI ((gD G) w 4 0))]) rfl ?_
  refine T_zisub xr_42_23 (z := ((gD G) w 4 0) - 1) rfl (pc' := 24) rfl ?_
  refine T_p xr_42_24 xn_42 (pc' := 26) (ls' := [(8, .int (iI (((gD G) w 4 0) - 1))), (6, .long (iL (l : Int))), (5, .ref aw), (0, .ref 517), (1, .int (iI w)), (2, .int (iI node)), (3, .long (iL (l : Int)))]) (st' := []) rfl ?_
  have L1122 : ∀ (m1124 : Nat) (S1127 : X_S) (h : Int) (l1 : Nat) (wt1 : Int) (St1 : Int → X_It) (fF1 : Int → Int) (fE1 : Int → Int) (fP1 : Int → Int) (fH1 : Int → Int) (fW1 : Int → Int) (fK1 : Int → Int) (fN1 : Int → Int64) (hO1 : S1127.1 517 = .inr (2, [.ref 511, .ref 501, .ref 504, .int (iI wt1), .ref 518, .ref 519, .ref 520, .ref 521, .ref 522, .ref 523, .ref 524, .ref 525, .ref 526])) (hfF1 : S1127.1 518 = .inl (.int, 30, .inl fun k : Nat => iI (fF1 (k : Int)))) (hfE1 : S1127.1 519 = .inl (.int, 30, .inl fun k : Nat => iI (fE1 (k : Int)))) (hfP1 : S1127.1 520 = .inl (.int, 30, .inl fun k : Nat => iI (fP1 (k : Int)))) (hfH1 : S1127.1 521 = .inl (.int, 30, .inl fun k : Nat => iI (fH1 (k : Int)))) (hfW1 : S1127.1 522 = .inl (.int, 30, .inl fun k : Nat => iI (fW1 (k : Int)))) (hfK1 : S1127.1 523 = .inl (.int, 30, .inl fun k : Nat => iI (fK1 (k : Int)))) (hfN1 : S1127.1 524 = .inl (.long, 30, .inr (.inl fun k : Nat => fN1 (k : Int)))) (hF1126 : X_Fr (fun q => 517 ≤ q ∧ q ≤ 524) S S1127) (hh : -1 ≤ h ∧ h < gD G w 4 0) (hl1m : l1 ≤ 9223372036854775807) (hP : X_pus G w node HF HE (h + 1).toNat l1 (wt1, St1) = X_pus G w node HF HE (gD G w 4 0).toNat l (wt, St)) (hst1 : F_st G wt1 St1 fF1 fE1 fP1 fH1 fW1 fK1 fN1) (hwt1 : 0 ≤ wt1 ∧ wt1 + h + 1 ≤ 30) (hm1125 : h + 1 < m1124), X_T sc 42 (26, [(8, .int (iI h)), (6, .long (iL (l1 : Int))), (5, .ref aw), (0, .ref 517), (1, .int (iI w)), (2, .int (iI node))], [], S1127) Q := by
    intro m1124
    induction m1124 with
    | zero =>
      intro S1127 h l1 wt1 St1 fF1 fE1 fP1 fH1 fW1 fK1 fN1 hO1 hfF1 hfE1 hfP1 hfH1 hfW1 hfK1 hfN1 hF1126 hh hl1m hP hst1 hwt1 hm1125
      exact (show False by omega).elim
    | succ m1124 ih1123 =>
      intro S1127 h l1 wt1 St1 fF1 fE1 fP1 fH1 fW1 fK1 fN1 hO1 hfF1 hfE1 hfP1 hfH1 hfW1 hfK1 hfN1 hF1126 hh hl1m hP hst1 hwt1 hm1125
      refine T_p xr_42_26 xn_42 (pc' := 28) (ls' := [(8, .int (iI h)), (6, .long (iL (l1 : Int))), (5, .ref aw), (0, .ref 517), (1, .int (iI w)), (2, .int (iI node))]) (st' := [.int (iI h)]) rfl ?_
      refine T_zif_lt xr_42_28 (t := 147) (pc' := 31) rfl rfl (fun c1128 => ?_) (fun c1128 => ?_)
      · skip
        have c1128 : h < 0 := c1128
        refine T_vret xr_42_147 xf_42.2.2 ?_
        refine hQ _ _ ?_
        rw [show (h + 1).toNat = 0 by omega] at hP
        exact ⟨wt1, St1, fF1, fE1, fP1, fH1, fW1, fK1, fN1, rfl, hP.symm, hst1, hO1, hfF1, hfE1, hfP1, hfH1, hfW1, hfK1, hfN1, (X_Fr.rf).tr (X_Fr.mono ⟨hF1126.1, hF1126.2⟩ (fun q hq => (by omega)))⟩
      · skip
        have c1128 : ¬ (h < 0) := c1128
        have hxh := hx h (by omega) (by omega)
        have hHp := hxh.2
        have hAh := hA h (by omega) (by omega)
        refine T_p xr_42_31 xn_42 (pc' := 32) (ls' := [(8, .int (iI h)), (6, .long (iL (l1 : Int))), (5, .ref aw), (0, .ref 517), (1, .int (iI w)), (2, .int (iI node))]) (st' := [.ref 517]) rfl ?_
        refine T_get xr_42_32 hO1 rfl (v := .ref 525) rfl (pc' := 35) rfl ?_
        refine T_p xr_42_35 xn_42 (pc' := 37) (ls' := [(8, .int (iI h)), (6, .long (iL (l1 : Int))), (5, .ref aw), (0, .ref 517), (1, .int (iI w)), (2, .int (iI node))]) (st' := [.int (iI h), .ref 525]) rfl ?_
        have h1129 := (hF1126.1 525 (by omega)).trans (hA525)
        refine T_ziald xr_42_37 h1129 (pc' := 38) rfl ?_
        refine T_ie (y := iI (HF h)) (by rw [hAh.1]) ?_
        refine T_p xr_42_38 xn_42 (pc' := 40) (ls' := [(9, .int (iI (HF h))), (8, .int (iI h)), (6, .long (iL (l1 : Int))), (5, .ref aw), (0, .ref 517), (1, .int (iI w)), (2, .int (iI node))]) (st' := []) rfl ?_
        refine T_p xr_42_40 xn_42 (pc' := 41) (ls' := [(9, .int (iI (HF h))), (8, .int (iI h)), (6, .long (iL (l1 : Int))), (5, .ref aw), (0, .ref 517), (1, .int (iI w)), (2, .int (iI node))]) (st' := [.ref 517]) rfl ?_
        refine T_get xr_42_41 hO1 rfl (v := .ref 526) rfl (pc' := 44) rfl ?_
        refine T_p xr_42_44 xn_42 (pc' := 46) (ls' := [(9, .int (iI (HF h))), (8, .int (iI h)), (6, .long (iL (l1 : Int))), (5, .ref aw), (0, .ref 517), (1, .int (iI w)), (2, .int (iI node))]) (st' := [.int (iI h), .ref 526]) rfl ?_
        have h1130 := (hF1126.1 526 (by omega)).trans (hA526)
        refine T_ziald xr_42_46 h1130 (pc' := 47) rfl ?_
        refine T_ie (y := iI (HE h)) (by rw [hAh.2]) ?_
        refine T_p xr_42_47 xn_42 (pc' := 49) (ls' := [(10, .int (iI (HE h))), (9, .int (iI (HF h))), (8, .int (iI h)), (6, .long (iL (l1 : Int))), (5, .ref aw), (0, .ref 517), (1, .int (iI w)), (2, .int (iI node))]) (st' := []) rfl ?_
        refine T_p xr_42_49 xn_42 (pc' := 50) (ls' := [(10, .int (iI (HE h))), (9, .int (iI (HF h))), (8, .int (iI h)), (6, .long (iL (l1 : Int))), (5, .ref aw), (0, .ref 517), (1, .int (iI w)), (2, .int (iI node))]) (st' := [.ref 517]) rfl ?_
        refine T_get xr_42_50 hO1 rfl (v := .ref 511) rfl (pc' := 53) rfl ?_
        refine T_p xr_42_53 xn_42 (pc' := 55) (ls' := [(10, .int (iI (HE h))), (9, .int (iI (HF h))), (8, .int (iI h)), (6, .long (iL (l1 : Int))), (5, .ref aw), (0, .ref 517), (1, .int (iI w)), (2, .int (iI node))]) (st' := [.int (iI (HF h)), .ref 511]) rfl ?_
        refine T_p xr_42_55 xn_42 (pc' := 57) (ls' := [(10, .int (iI (HE h))), (9, .int (iI (HF h))), (8, .int (iI h)), (6, .long (iL (l1 : Int))), (5, .ref aw), (0, .ref 517), (1, .int (iI w)), (2, .int (iI node))]) (st' := [.int (iI (HE h)), .int (iI (HF h)), .ref 511]) rfl ?_
        refine T_p xr_42_57 xn_42 (pc' := 58) (ls' := [(10, .int (iI (HE h))), (9, .int (iI (HF h))), (8, .int (iI h)), (6, .long (iL (l1 : Int))), (5, .ref aw), (0, .ref 517), (1, .int (iI w)), (2, .int (iI node))]) (st' := [.int (iI w), .int (iI (HE h)), .int (iI (HF h)), .ref 511]) rfl ?_
        refine T_p xr_42_58 xn_42 (pc' := 60) (ls' := [(10, .int (iI (HE h))), (9, .int (iI (HF h))), (8, .int (iI h)), (6, .long (iL (l1 : Int))), (5, .ref aw), (0, .ref 517), (1, .int (iI w)), (2, .int (iI node))]) (st' := [.int (iI h), .int (iI w), .int (iI (HE h)), .int (iI (HF h)), .ref 511]) rfl ?_
        have h1131 := (hF1126.1 511 (by omega)).trans (hO511)
        refine T_cv (S := S1127) (q := 511) xr_42_60 xf_23.1 xf_23.2.1 xn_23 (as := [.int (iI (HF h)), .int (iI (HE h)), .int (iI w), .int (iI h)]) (r := []) rfl h1131 (Nat.le_of_ble_eq_true rfl) (Nat.le_of_ble_eq_true rfl) (pc' := 63) rfl (ls' := [(0, .ref 511), (1, .int (iI (HF h))), (2, .int (iI (HE h))), (3, .int (iI w)), (4, .int (iI h))]) rfl ?_
        refine T_p xr_23_0 xn_23 (pc' := 1) (ls' := [(0, .ref 511), (1, .int (iI (HF h))), (2, .int (iI (HE h))), (3, .int (iI w)), (4, .int (iI h))]) (st' := [.ref 511]) rfl ?_
        refine T_get xr_23_1 h1131 rfl (v := .ref 515) rfl (pc' := 4) rfl ?_
        refine T_p xr_23_4 xn_23 (pc' := 5) (ls' := [(0, .ref 511), (1, .int (iI (HF h))), (2, .int (iI (HE h))), (3, .int (iI w)), (4, .int (iI h))]) (st' := [.int (iI (HF h)), .ref 515]) rfl ?_
        refine T_p xr_23_5 xn_23 (pc' := 6) (ls' := [(0, .ref 511), (1, .int (iI (HF h))), (2, .int (iI (HE h))), (3, .int (iI w)), (4, .int (iI h))]) (st' := [.int (iI (HE h)), .int (iI (HF h)), .ref 515]) rfl ?_
        refine T_cs xr_23_6 (by decide) xf_20.1 xn_20 (as := [.int (iI (HF h)), .int (iI (HE h))]) (r := [.ref 515]) rfl (Nat.le_of_ble_eq_true rfl) (Nat.le_of_ble_eq_true rfl) (pc' := 9) rfl (ls' := [(0, .int (iI (HF h))), (1, .int (iI (HE h)))]) rfl ?_
        refine T_mono (c_rowOf sc S1127 (HF h) (HE h) (by omega)) (fun v1132 S1133 h1134 => ?_)
        rcases h1134 with ⟨hv1135, hf1136⟩
        rw [hv1135]
        rw [hf1136]
        have hr1137 := X_ro_r (i := (HF h)) (j := (HE h)) (by omega) (by omega) (by omega)
        show X_T sc 23 (9, [(0, .ref 511), (1, .int (iI (HF h))), (2, .int (iI (HE h))), (3, .int (iI w)), (4, .int (iI h))], [.int (iI (X_ro (HF h) (HE h))), .ref 515], S1127) _
        refine T_p xr_23_9 xn_23 (pc' := 11) (ls' := [(0, .ref 511), (1, .int (iI (HF h))), (2, .int (iI (HE h))), (3, .int (iI w)), (4, .int (iI h))]) (st' := [.int (iI 30), .int (iI (X_ro (HF h) (HE h))), .ref 515]) rfl ?_
        refine T_zimul xr_23_11 (z := (X_ro (HF h) (HE h)) * 30) rfl (pc' := 12) rfl ?_
        refine T_p xr_23_12 xn_23 (pc' := 13) (ls' := [(0, .ref 511), (1, .int (iI (HF h))), (2, .int (iI (HE h))), (3, .int (iI w)), (4, .int (iI h))]) (st' := [.int (iI w), .int (iI ((X_ro (HF h) (HE h)) * 30)), .ref 515]) rfl ?_
        refine T_ziadd xr_23_13 (z := ((X_ro (HF h) (HE h)) * 30) + w) rfl (pc' := 14) rfl ?_
        refine T_p xr_23_14 xn_23 (pc' := 15) (ls' := [(0, .ref 511), (1, .int (iI (HF h))), (2, .int (iI (HE h))), (3, .int (iI w)), (4, .int (iI h))]) (st' := [.int (iI 4), .int (iI (((X_ro (HF h) (HE h)) * 30) + w)), .ref 515]) rfl ?_
        refine T_zimul xr_23_15 (z := (((X_ro (HF h) (HE h)) * 30) + w) * 4) rfl (pc' := 16) rfl ?_
        refine T_p xr_23_16 xn_23 (pc' := 18) (ls' := [(0, .ref 511), (1, .int (iI (HF h))), (2, .int (iI (HE h))), (3, .int (iI w)), (4, .int (iI h))]) (st' := [.int (iI h), .int (iI ((((X_ro (HF h) (HE h)) * 30) + w) * 4)), .ref 515]) rfl ?_
        refine T_ziadd xr_23_18 (z := ((((X_ro (HF h) (HE h)) * 30) + w) * 4) + h) rfl (pc' := 19) rfl ?_
        have h1138 := (hF1126.1 515 (by omega)).trans (hA515)
        refine T_zlald xr_23_19 h1138 (pc' := 20) rfl ?_
        refine T_le (y := (X_st (-2) (X_Hh G w h (HF h) (HE h)))) ((hcht (HF h) (HE h) hxh.1.1 hxh.1.2.1 hxh.1.2.2).hh hw hgw (by omega) (by omega)) ?_
        refine T_lret xr_23_20 xf_23.2.2 rfl ?_
        show X_T sc 42 (63, [(10, .int (iI (HE h))), (9, .int (iI (HF h))), (8, .int (iI h)), (6, .long (iL (l1 : Int))), (5, .ref aw), (0, .ref 517), (1, .int (iI w)), (2, .int (iI node))], [.long (X_st (-2) (X_Hh G w h (HF h) (HE h)))], S1127) _
        refine T_p xr_42_63 xn_42 (pc' := 65) (ls' := [(11, .long (X_st (-2) (X_Hh G w h (HF h) (HE h)))), (10, .int (iI (HE h))), (9, .int (iI (HF h))), (8, .int (iI h)), (6, .long (iL (l1 : Int))), (5, .ref aw), (0, .ref 517), (1, .int (iI w)), (2, .int (iI node))]) (st' := []) rfl ?_
        have J1139 : X_T sc 42 (77, [(11, .long (X_st (-2) (X_Hh G w h (HF h) (HE h)))), (10, .int (iI (HE h))), (9, .int (iI (HF h))), (8, .int (iI h)), (6, .long (iL (l1 : Int))), (5, .ref aw), (0, .ref 517), (1, .int (iI w)), (2, .int (iI node))], [.int (iI (bI (X_Hh G w h (HF h) (HE h) ≤ 9223372036854775807)))], S1127) Q := by
          refine T_p xr_42_77 xn_42 (pc' := 79) (ls' := [(13, .int (iI (bI (X_Hh G w h (HF h) (HE h) ≤ 9223372036854775807)))), (11, .long (X_st (-2) (X_Hh G w h (HF h) (HE h)))), (10, .int (iI (HE h))), (9, .int (iI (HF h))), (8, .int (iI h)), (6, .long (iL (l1 : Int))), (5, .ref aw), (0, .ref 517), (1, .int (iI w)), (2, .int (iI node))]) (st' := []) rfl ?_
          refine T_p xr_42_79 xn_42 (pc' := 80) (ls' := [(13, .int (iI (bI (X_Hh G w h (HF h) (HE h) ≤ 9223372036854775807)))), (11, .long (X_st (-2) (X_Hh G w h (HF h) (HE h)))), (10, .int (iI (HE h))), (9, .int (iI (HF h))), (8, .int (iI h)), (6, .long (iL (l1 : Int))), (5, .ref aw), (0, .ref 517), (1, .int (iI w)), (2, .int (iI node))]) (st' := [.ref 517]) rfl ?_
          refine T_p xr_42_80 xn_42 (pc' := 82) (ls' := [(13, .int (iI (bI (X_Hh G w h (HF h) (HE h) ≤ 9223372036854775807)))), (11, .long (X_st (-2) (X_Hh G w h (HF h) (HE h)))), (10, .int (iI (HE h))), (9, .int (iI (HF h))), (8, .int (iI h)), (6, .long (iL (l1 : Int))), (5, .ref aw), (0, .ref 517), (1, .int (iI w)), (2, .int (iI node))]) (st' := [.int (iI (HF h)), .ref 517]) rfl ?_
          refine T_p xr_42_82 xn_42 (pc' := 84) (ls' := [(13, .int (iI (bI (X_Hh G w h (HF h) (HE h) ≤ 9223372036854775807)))), (11, .long (X_st (-2) (X_Hh G w h (HF h) (HE h)))), (10, .int (iI (HE h))), (9, .int (iI (HF h))), (8, .int (iI h)), (6, .long (iL (l1 : Int))), (5, .ref aw), (0, .ref 517), (1, .int (iI w)), (2, .int (iI node))]) (st' := [.int (iI (HE h)), .int (iI (HF h)), .ref 517]) rfl ?_
          refine T_p xr_42_84 xn_42 (pc' := 85) (ls' := [(13, .int (iI (bI (X_Hh G w h (HF h) (HE h) ≤ 9223372036854775807)))), (11, .long (X_st (-2) (X_Hh G w h (HF h) (HE h)))), (10, .int (iI (HE h))), (9, .int (iI (HF h))), (8, .int (iI h)), (6, .long (iL (l1 : Int))), (5, .ref aw), (0, .ref 517), (1, .int (iI w)), (2, .int (iI node))]) (st' := [.int (iI node), .int (iI (HE h)), .int (iI (HF h)), .ref 517]) rfl ?_
          refine T_p xr_42_85 xn_42 (pc' := 87) (ls' := [(13, .int (iI (bI (X_Hh G w h (HF h) (HE h) ≤ 9223372036854775807)))), (11, .long (X_st (-2) (X_Hh G w h (HF h) (HE h)))), (10, .int (iI (HE h))), (9, .int (iI (HF h))), (8, .int (iI h)), (6, .long (iL (l1 : Int))), (5, .ref aw), (0, .ref 517), (1, .int (iI w)), (2, .int (iI node))]) (st' := [.int (iI h), .int (iI node), .int (iI (HE h)), .int (iI (HF h)), .ref 517]) rfl ?_
          refine T_cv (S := S1127) (q := 517) xr_42_87 xf_37.1 xf_37.2.1 xn_37 (as := [.int (iI (HF h)), .int (iI (HE h)), .int (iI node), .int (iI h)]) (r := []) rfl hO1 (Nat.le_of_ble_eq_true rfl) (Nat.le_of_ble_eq_true rfl) (pc' := 90) rfl (ls' := [(0, .ref 517), (1, .int (iI (HF h))), (2, .int (iI (HE h))), (3, .int (iI node)), (4, .int (iI h))]) rfl ?_
          refine T_p xr_37_0 xn_37 (pc' := 1) (ls' := [(0, .ref 517), (1, .int (iI (HF h))), (2, .int (iI (HE h))), (3, .int (iI node)), (4, .int (iI h))]) (st' := [.ref 517]) rfl ?_
          refine T_get xr_37_1 hO1 rfl (v := .int (iI wt1)) rfl (pc' := 4) rfl ?_
          refine T_p xr_37_4 xn_37 (pc' := 6) (ls' := [(0, .ref 517), (1, .int (iI (HF h))), (2, .int (iI (HE h))), (3, .int (iI node)), (4, .int (iI h))]) (st' := [.int (iI 30), .int (iI wt1)]) rfl ?_
          refine T_zicmp_ge xr_37_6 (t := 60) (pc' := 9) rfl rfl (fun c1140 => ?_) (fun c1140 => ?_)
          · skip
            have c1140 : 30 ≤ wt1 := c1140
            exact (show False by omega).elim
          · skip
            have c1140 : ¬ (30 ≤ wt1) := c1140
            refine T_p xr_37_9 xn_37 (pc' := 10) (ls' := [(0, .ref 517), (1, .int (iI (HF h))), (2, .int (iI (HE h))), (3, .int (iI node)), (4, .int (iI h))]) (st' := [.ref 517]) rfl ?_
            refine T_get xr_37_10 hO1 rfl (v := .ref 518) rfl (pc' := 13) rfl ?_
            refine T_p xr_37_13 xn_37 (pc' := 14) (ls' := [(0, .ref 517), (1, .int (iI (HF h))), (2, .int (iI (HE h))), (3, .int (iI node)), (4, .int (iI h))]) (st' := [.ref 517, .ref 518]) rfl ?_
            refine T_get xr_37_14 hO1 rfl (v := .int (iI wt1)) rfl (pc' := 17) rfl ?_
            refine T_p xr_37_17 xn_37 (pc' := 18) (ls' := [(0, .ref 517), (1, .int (iI (HF h))), (2, .int (iI (HE h))), (3, .int (iI node)), (4, .int (iI h))]) (st' := [.int (iI (HF h)), .int (iI wt1), .ref 518]) rfl ?_
            refine T_ziast xr_37_18 hfF1 (pc' := 19) rfl (fun S1141 h1142 n1143 e1144 => ?_)
            refine T_p xr_37_19 xn_37 (pc' := 20) (ls' := [(0, .ref 517), (1, .int (iI (HF h))), (2, .int (iI (HE h))), (3, .int (iI node)), (4, .int (iI h))]) (st' := [.ref 517]) rfl ?_
            have h1145 := (n1143 517 (by decide)).trans (hO1)
            refine T_get xr_37_20 h1145 rfl (v := .ref 519) rfl (pc' := 23) rfl ?_
            refine T_p xr_37_23 xn_37 (pc' := 24) (ls' := [(0, .ref 517), (1, .int (iI (HF h))), (2, .int (iI (HE h))), (3, .int (iI node)), (4, .int (iI h))]) (st' := [.ref 517, .ref 519]) rfl ?_
            refine T_get xr_37_24 h1145 rfl (v := .int (iI wt1)) rfl (pc' := 27) rfl ?_
            refine T_p xr_37_27 xn_37 (pc' := 28) (ls' := [(0, .ref 517), (1, .int (iI (HF h))), (2, .int (iI (HE h))), (3, .int (iI node)), (4, .int (iI h))]) (st' := [.int (iI (HE h)), .int (iI wt1), .ref 519]) rfl ?_
            have h1146 := (n1143 519 (by decide)).trans (hfE1)
            refine T_ziast xr_37_28 h1146 (pc' := 29) rfl (fun S1147 h1148 n1149 e1150 => ?_)
            refine T_p xr_37_29 xn_37 (pc' := 30) (ls' := [(0, .ref 517), (1, .int (iI (HF h))), (2, .int (iI (HE h))), (3, .int (iI node)), (4, .int (iI h))]) (st' := [.ref 517]) rfl ?_
            have h1151 := (n1149 517 (by decide)).trans (h1145)
            refine T_get xr_37_30 h1151 rfl (v := .ref 520) rfl (pc' := 33) rfl ?_
            refine T_p xr_37_33 xn_37 (pc' := 34) (ls' := [(0, .ref 517), (1, .int (iI (HF h))), (2, .int (iI (HE h))), (3, .int (iI node)), (4, .int (iI h))]) (st' := [.ref 517, .ref 520]) rfl ?_
            refine T_get xr_37_34 h1151 rfl (v := .int (iI wt1)) rfl (pc' := 37) rfl ?_
            refine T_p xr_37_37 xn_37 (pc' := 38) (ls' := [(0, .ref 517), (1, .int (iI (HF h))), (2, .int (iI (HE h))), (3, .int (iI node)), (4, .int (iI h))]) (st' := [.int (iI node), .int (iI wt1), .ref 520]) rfl ?_
            have h1152 := (n1149 520 (by decide)).trans ((n1143 520 (by decide)).trans (hfP1))
            refine T_ziast xr_37_38 h1152 (pc' := 39) rfl (fun S1153 h1154 n1155 e1156 => ?_)
            refine T_p xr_37_39 xn_37 (pc' := 40) (ls' := [(0, .ref 517), (1, .int (iI (HF h))), (2, .int (iI (HE h))), (3, .int (iI node)), (4, .int (iI h))]) (st' := [.ref 517]) rfl ?_
            have h1157 := (n1155 517 (by decide)).trans (h1151)
            refine T_get xr_37_40 h1157 rfl (v := .ref 521) rfl (pc' := 43) rfl ?_
            refine T_p xr_37_43 xn_37 (pc' := 44) (ls' := [(0, .ref 517), (1, .int (iI (HF h))), (2, .int (iI (HE h))), (3, .int (iI node)), (4, .int (iI h))]) (st' := [.ref 517, .ref 521]) rfl ?_
            refine T_get xr_37_44 h1157 rfl (v := .int (iI wt1)) rfl (pc' := 47) rfl ?_
            refine T_p xr_37_47 xn_37 (pc' := 49) (ls' := [(0, .ref 517), (1, .int (iI (HF h))), (2, .int (iI (HE h))), (3, .int (iI node)), (4, .int (iI h))]) (st' := [.int (iI h), .int (iI wt1), .ref 521]) rfl ?_
            have h1158 := (n1155 521 (by decide)).trans ((n1149 521 (by decide)).trans ((n1143 521 (by decide)).trans (hfH1)))
            refine T_ziast xr_37_49 h1158 (pc' := 50) rfl (fun S1159 h1160 n1161 e1162 => ?_)
            refine T_p xr_37_50 xn_37 (pc' := 51) (ls' := [(0, .ref 517), (1, .int (iI (HF h))), (2, .int (iI (HE h))), (3, .int (iI node)), (4, .int (iI h))]) (st' := [.ref 517]) rfl ?_
            refine T_p xr_37_51 xn_37 (pc' := 52) (ls' := [(0, .ref 517), (1, .int (iI (HF h))), (2, .int (iI (HE h))), (3, .int (iI node)), (4, .int (iI h))]) (st' := [.ref 517, .ref 517]) rfl ?_
            have h1163 := (n1161 517 (by decide)).trans (h1157)
            refine T_get xr_37_52 h1163 rfl (v := .int (iI wt1)) rfl (pc' := 55) rfl ?_
            refine T_p xr_37_55 xn_37 (pc' := 56) (ls' := [(0, .ref 517), (1, .int (iI (HF h))), (2, .int (iI (HE h))), (3, .int (iI node)), (4, .int (iI h))]) (st' := [.int (iI 1), .int (iI wt1), .ref 517]) rfl ?_
            refine T_ziadd xr_37_56 (z := wt1 + 1) rfl (pc' := 57) rfl ?_
            refine T_put xr_37_57 h1163 rfl (Nat.le_of_ble_eq_true rfl) rfl (fs' := [.ref 511, .ref 501, .ref 504, .int (iI (wt1 + 1)), .ref 518, .ref 519, .ref 520, .ref 521, .ref 522, .ref 523, .ref 524, .ref 525, .ref 526]) rfl (pc' := 60) rfl (fun S1164 h1165 n1166 e1167 => ?_)
            refine T_vret xr_37_60 xf_37.2.2 ?_
            show X_T sc 42 (90, [(13, .int (iI (bI (X_Hh G w h (HF h) (HE h) ≤ 9223372036854775807)))), (11, .long (X_st (-2) (X_Hh G w h (HF h) (HE h)))), (10, .int (iI (HE h))), (9, .int (iI (HF h))), (8, .int (iI h)), (6, .long (iL (l1 : Int))), (5, .ref aw), (0, .ref 517), (1, .int (iI w)), (2, .int (iI node))], [], S1164) _
            refine T_p xr_42_90 xn_42 (pc' := 91) (ls' := [(13, .int (iI (bI (X_Hh G w h (HF h) (HE h) ≤ 9223372036854775807)))), (11, .long (X_st (-2) (X_Hh G w h (HF h) (HE h)))), (10, .int (iI (HE h))), (9, .int (iI (HF h))), (8, .int (iI h)), (6, .long (iL (l1 : Int))), (5, .ref aw), (0, .ref 517), (1, .int (iI w)), (2, .int (iI node))]) (st' := [.ref 517]) rfl ?_
            refine T_p xr_42_91 xn_42 (pc' := 93) (ls' := [(13, .int (iI (bI (X_Hh G w h (HF h) (HE h) ≤ 9223372036854775807)))), (11, .long (X_st (-2) (X_Hh G w h (HF h) (HE h)))), (10, .int (iI (HE h))), (9, .int (iI (HF h))), (8, .int (iI h)), (6, .long (iL (l1 : Int))), (5, .ref aw), (0, .ref 517), (1, .int (iI w)), (2, .int (iI node))]) (st' := [.ref aw, .ref 517]) rfl ?_
            have h1168 := (n1166 aw (by omega)).trans ((n1161 aw (by omega)).trans ((n1155 aw (by omega)).trans ((n1149 aw (by omega)).trans ((n1143 aw (by omega)).trans ((hF1126.1 aw (by omega)).trans (hwaw.1.1))))))
            refine T_get xr_42_93 h1168 rfl (v := .ref (aw + 4)) rfl (pc' := 96) rfl ?_
            refine T_p xr_42_96 xn_42 (pc' := 98) (ls' := [(13, .int (iI (bI (X_Hh G w h (HF h) (HE h) ≤ 9223372036854775807)))), (11, .long (X_st (-2) (X_Hh G w h (HF h) (HE h)))), (10, .int (iI (HE h))), (9, .int (iI (HF h))), (8, .int (iI h)), (6, .long (iL (l1 : Int))), (5, .ref aw), (0, .ref 517), (1, .int (iI w)), (2, .int (iI node))]) (st' := [.int (iI h), .ref (aw + 4), .ref 517]) rfl ?_
            have h1169 := (n1166 (aw + 4) (by omega)).trans ((n1161 (aw + 4) (by omega)).trans ((n1155 (aw + 4) (by omega)).trans ((n1149 (aw + 4) (by omega)).trans ((n1143 (aw + 4) (by omega)).trans ((hF1126.1 (aw + 4) (by omega)).trans (hwaw.1.2.2.2.2.1))))))
            refine T_ziald xr_42_98 h1169 (pc' := 99) rfl ?_
            refine T_p xr_42_99 xn_42 (pc' := 101) (ls' := [(13, .int (iI (bI (X_Hh G w h (HF h) (HE h) ≤ 9223372036854775807)))), (11, .long (X_st (-2) (X_Hh G w h (HF h) (HE h)))), (10, .int (iI (HE h))), (9, .int (iI (HF h))), (8, .int (iI h)), (6, .long (iL (l1 : Int))), (5, .ref aw), (0, .ref 517), (1, .int (iI w)), (2, .int (iI node))]) (st' := [.ref aw, .int (iI (((gD G) w 10) h)), .ref 517]) rfl ?_
            refine T_get xr_42_101 h1168 rfl (v := .ref (aw + 5)) rfl (pc' := 104) rfl ?_
            refine T_p xr_42_104 xn_42 (pc' := 106) (ls' := [(13, .int (iI (bI (X_Hh G w h (HF h) (HE h) ≤ 9223372036854775807)))), (11, .long (X_st (-2) (X_Hh G w h (HF h) (HE h)))), (10, .int (iI (HE h))), (9, .int (iI (HF h))), (8, .int (iI h)), (6, .long (iL (l1 : Int))), (5, .ref aw), (0, .ref 517), (1, .int (iI w)), (2, .int (iI node))]) (st' := [.int (iI h), .ref (aw + 5), .int (iI (((gD G) w 10) h)), .ref 517]) rfl ?_
            have h1170 := (n1166 (aw + 5) (by omega)).trans ((n1161 (aw + 5) (by omega)).trans ((n1155 (aw + 5) (by omega)).trans ((n1149 (aw + 5) (by omega)).trans ((n1143 (aw + 5) (by omega)).trans ((hF1126.1 (aw + 5) (by omega)).trans (hwaw.1.2.2.2.2.2.1))))))
            refine T_ziald xr_42_106 h1170 (pc' := 107) rfl ?_
            refine T_p xr_42_107 xn_42 (pc' := 109) (ls' := [(13, .int (iI (bI (X_Hh G w h (HF h) (HE h) ≤ 9223372036854775807)))), (11, .long (X_st (-2) (X_Hh G w h (HF h) (HE h)))), (10, .int (iI (HE h))), (9, .int (iI (HF h))), (8, .int (iI h)), (6, .long (iL (l1 : Int))), (5, .ref aw), (0, .ref 517), (1, .int (iI w)), (2, .int (iI node))]) (st' := [.int (iI (bI (X_Hh G w h (HF h) (HE h) ≤ 9223372036854775807))), .int (iI (((gD G) w 11) h)), .int (iI (((gD G) w 10) h)), .ref 517]) rfl ?_
            refine T_bif_eq xr_42_109 (t := 120) (pc' := 112) rfl rfl (fun c1171 => ?_) (fun c1171 => ?_)
            · skip
              have c1171 : ¬ (X_Hh G w h (HF h) (HE h) ≤ 9223372036854775807) := c1171
              refine T_p xr_42_120 xn_42 (pc' := 122) (ls' := [(13, .int (iI (bI (X_Hh G w h (HF h) (HE h) ≤ 9223372036854775807)))), (11, .long (X_st (-2) (X_Hh G w h (HF h) (HE h)))), (10, .int (iI (HE h))), (9, .int (iI (HF h))), (8, .int (iI h)), (6, .long (iL (l1 : Int))), (5, .ref aw), (0, .ref 517), (1, .int (iI w)), (2, .int (iI node))]) (st' := [.long (iL (l1 : Int)), .int (iI (((gD G) w 11) h)), .int (iI (((gD G) w 10) h)), .ref 517]) rfl ?_
              refine T_le (y := (iL ((l1 % X_Hh G w h (HF h) (HE h) : Nat) : Int))) (by rw [Nat.mod_eq_of_lt (show l1 < X_Hh G w h (HF h) (HE h) by omega)]) ?_
              refine T_cv (S := S1164) (q := 517) xr_42_122 xf_38.1 xf_38.2.1 xn_38 (as := [.int (iI (((gD G) w 10) h)), .int (iI (((gD G) w 11) h)), .long (iL ((l1 % X_Hh G w h (HF h) (HE h) : Nat) : Int))]) (r := []) rfl h1165 (Nat.le_of_ble_eq_true rfl) (Nat.le_of_ble_eq_true rfl) (pc' := 125) rfl (ls' := [(0, .ref 517), (1, .int (iI (((gD G) w 10) h))), (2, .int (iI (((gD G) w 11) h))), (3, .long (iL ((l1 % X_Hh G w h (HF h) (HE h) : Nat) : Int)))]) rfl ?_
              refine T_p xr_38_0 xn_38 (pc' := 1) (ls' := [(0, .ref 517), (1, .int (iI (((gD G) w 10) h))), (2, .int (iI (((gD G) w 11) h))), (3, .long (iL ((l1 % X_Hh G w h (HF h) (HE h) : Nat) : Int)))]) (st' := [.ref 517]) rfl ?_
              refine T_get xr_38_1 h1165 rfl (v := .int (iI (wt1 + 1))) rfl (pc' := 4) rfl ?_
              refine T_zif_le xr_38_4 (t := 43) (pc' := 7) rfl rfl (fun c1172 => ?_) (fun c1172 => ?_)
              · skip
                have c1172 : (wt1 + 1) ≤ 0 := c1172
                exact (show False by omega).elim
              · skip
                have c1172 : ¬ ((wt1 + 1) ≤ 0) := c1172
                refine T_p xr_38_7 xn_38 (pc' := 8) (ls' := [(0, .ref 517), (1, .int (iI (((gD G) w 10) h))), (2, .int (iI (((gD G) w 11) h))), (3, .long (iL ((l1 % X_Hh G w h (HF h) (HE h) : Nat) : Int)))]) (st' := [.ref 517]) rfl ?_
                refine T_get xr_38_8 h1165 rfl (v := .ref 522) rfl (pc' := 11) rfl ?_
                refine T_p xr_38_11 xn_38 (pc' := 12) (ls' := [(0, .ref 517), (1, .int (iI (((gD G) w 10) h))), (2, .int (iI (((gD G) w 11) h))), (3, .long (iL ((l1 % X_Hh G w h (HF h) (HE h) : Nat) : Int)))]) (st' := [.ref 517, .ref 522]) rfl ?_
                refine T_get xr_38_12 h1165 rfl (v := .int (iI (wt1 + 1))) rfl (pc' := 15) rfl ?_
                refine T_p xr_38_15 xn_38 (pc' := 16) (ls' := [(0, .ref 517), (1, .int (iI (((gD G) w 10) h))), (2, .int (iI (((gD G) w 11) h))), (3, .long (iL ((l1 % X_Hh G w h (HF h) (HE h) : Nat) : Int)))]) (st' := [.int (iI 1), .int (iI (wt1 + 1)), .ref 522]) rfl ?_
                refine T_zisub xr_38_16 (z := wt1) (by omega) (pc' := 17) rfl ?_
                refine T_p xr_38_17 xn_38 (pc' := 18) (ls' := [(0, .ref 517), (1, .int (iI (((gD G) w 10) h))), (2, .int (iI (((gD G) w 11) h))), (3, .long (iL ((l1 % X_Hh G w h (HF h) (HE h) : Nat) : Int)))]) (st' := [.int (iI (((gD G) w 10) h)), .int (iI wt1), .ref 522]) rfl ?_
                have h1173 := (n1166 522 (by decide)).trans ((n1161 522 (by decide)).trans ((n1155 522 (by decide)).trans ((n1149 522 (by decide)).trans ((n1143 522 (by decide)).trans (hfW1)))))
                refine T_ziast xr_38_18 h1173 (pc' := 19) rfl (fun S1174 h1175 n1176 e1177 => ?_)
                refine T_p xr_38_19 xn_38 (pc' := 20) (ls' := [(0, .ref 517), (1, .int (iI (((gD G) w 10) h))), (2, .int (iI (((gD G) w 11) h))), (3, .long (iL ((l1 % X_Hh G w h (HF h) (HE h) : Nat) : Int)))]) (st' := [.ref 517]) rfl ?_
                have h1178 := (n1176 517 (by decide)).trans (h1165)
                refine T_get xr_38_20 h1178 rfl (v := .ref 523) rfl (pc' := 23) rfl ?_
                refine T_p xr_38_23 xn_38 (pc' := 24) (ls' := [(0, .ref 517), (1, .int (iI (((gD G) w 10) h))), (2, .int (iI (((gD G) w 11) h))), (3, .long (iL ((l1 % X_Hh G w h (HF h) (HE h) : Nat) : Int)))]) (st' := [.ref 517, .ref 523]) rfl ?_
                refine T_get xr_38_24 h1178 rfl (v := .int (iI (wt1 + 1))) rfl (pc' := 27) rfl ?_
                refine T_p xr_38_27 xn_38 (pc' := 28) (ls' := [(0, .ref 517), (1, .int (iI (((gD G) w 10) h))), (2, .int (iI (((gD G) w 11) h))), (3, .long (iL ((l1 % X_Hh G w h (HF h) (HE h) : Nat) : Int)))]) (st' := [.int (iI 1), .int (iI (wt1 + 1)), .ref 523]) rfl ?_
                refine T_zisub xr_38_28 (z := wt1) (by omega) (pc' := 29) rfl ?_
                refine T_p xr_38_29 xn_38 (pc' := 30) (ls' := [(0, .ref 517), (1, .int (iI (((gD G) w 10) h))), (2, .int (iI (((gD G) w 11) h))), (3, .long (iL ((l1 % X_Hh G w h (HF h) (HE h) : Nat) : Int)))]) (st' := [.int (iI (((gD G) w 11) h)), .int (iI wt1), .ref 523]) rfl ?_
                have h1179 := (n1176 523 (by decide)).trans ((n1166 523 (by decide)).trans ((n1161 523 (by decide)).trans ((n1155 523 (by decide)).trans ((n1149 523 (by decide)).trans ((n1143 523 (by decide)).trans (hfK1))))))
                refine T_ziast xr_38_30 h1179 (pc' := 31) rfl (fun S1180 h1181 n1182 e1183 => ?_)
                refine T_p xr_38_31 xn_38 (pc' := 32) (ls' := [(0, .ref 517), (1, .int (iI (((gD G) w 10) h))), (2, .int (iI (((gD G) w 11) h))), (3, .long (iL ((l1 % X_Hh G w h (HF h) (HE h) : Nat) : Int)))]) (st' := [.ref 517]) rfl ?_
                have h1184 := (n1182 517 (by decide)).trans (h1178)
                refine T_get xr_38_32 h1184 rfl (v := .ref 524) rfl (pc' := 35) rfl ?_
                refine T_p xr_38_35 xn_38 (pc' := 36) (ls' := [(0, .ref 517), (1, .int (iI (((gD G) w 10) h))), (2, .int (iI (((gD G) w 11) h))), (3, .long (iL ((l1 % X_Hh G w h (HF h) (HE h) : Nat) : Int)))]) (st' := [.ref 517, .ref 524]) rfl ?_
                refine T_get xr_38_36 h1184 rfl (v := .int (iI (wt1 + 1))) rfl (pc' := 39) rfl ?_
                refine T_p xr_38_39 xn_38 (pc' := 40) (ls' := [(0, .ref 517), (1, .int (iI (((gD G) w 10) h))), (2, .int (iI (((gD G) w 11) h))), (3, .long (iL ((l1 % X_Hh G w h (HF h) (HE h) : Nat) : Int)))]) (st' := [.int (iI 1), .int (iI (wt1 + 1)), .ref 524]) rfl ?_
                refine T_zisub xr_38_40 (z := wt1) (by omega) (pc' := 41) rfl ?_
                refine T_p xr_38_41 xn_38 (pc' := 42) (ls' := [(0, .ref 517), (1, .int (iI (((gD G) w 10) h))), (2, .int (iI (((gD G) w 11) h))), (3, .long (iL ((l1 % X_Hh G w h (HF h) (HE h) : Nat) : Int)))]) (st' := [.long (iL ((l1 % X_Hh G w h (HF h) (HE h) : Nat) : Int)), .int (iI wt1), .ref 524]) rfl ?_
                have h1185 := (n1182 524 (by decide)).trans ((n1176 524 (by decide)).trans ((n1166 524 (by decide)).trans ((n1161 524 (by decide)).trans ((n1155 524 (by decide)).trans ((n1149 524 (by decide)).trans ((n1143 524 (by decide)).trans (hfN1)))))))
                refine T_zlast xr_38_42 h1185 (pc' := 43) rfl (fun S1186 h1187 n1188 e1189 => ?_)
                refine T_vret xr_38_43 xf_38.2.2 ?_
                show X_T sc 42 (125, [(13, .int (iI (bI (X_Hh G w h (HF h) (HE h) ≤ 9223372036854775807)))), (11, .long (X_st (-2) (X_Hh G w h (HF h) (HE h)))), (10, .int (iI (HE h))), (9, .int (iI (HF h))), (8, .int (iI h)), (6, .long (iL (l1 : Int))), (5, .ref aw), (0, .ref 517), (1, .int (iI w)), (2, .int (iI node))], [], S1186) _
                refine T_p xr_42_125 xn_42 (pc' := 127) (ls' := [(13, .int (iI (bI (X_Hh G w h (HF h) (HE h) ≤ 9223372036854775807)))), (11, .long (X_st (-2) (X_Hh G w h (HF h) (HE h)))), (10, .int (iI (HE h))), (9, .int (iI (HF h))), (8, .int (iI h)), (6, .long (iL (l1 : Int))), (5, .ref aw), (0, .ref 517), (1, .int (iI w)), (2, .int (iI node))]) (st' := [.int (iI (bI (X_Hh G w h (HF h) (HE h) ≤ 9223372036854775807)))]) rfl ?_
                refine T_bif_eq xr_42_127 (t := 138) (pc' := 130) rfl rfl (fun c1190 => ?_) (fun c1190 => ?_)
                · skip
                  have c1190 : ¬ (X_Hh G w h (HF h) (HE h) ≤ 9223372036854775807) := c1190
                  refine T_p xr_42_138 xn_42 (pc' := 139) (ls' := [(13, .int (iI (bI (X_Hh G w h (HF h) (HE h) ≤ 9223372036854775807)))), (11, .long (X_st (-2) (X_Hh G w h (HF h) (HE h)))), (10, .int (iI (HE h))), (9, .int (iI (HF h))), (8, .int (iI h)), (6, .long (iL (l1 : Int))), (5, .ref aw), (0, .ref 517), (1, .int (iI w)), (2, .int (iI node))]) (st' := [.long (iL 0)]) rfl ?_
                  refine T_le (y := (iL ((l1 / X_Hh G w h (HF h) (HE h) : Nat) : Int))) (by rw [Nat.div_eq_of_lt (show l1 < X_Hh G w h (HF h) (HE h) by omega)]; rfl) ?_
                  refine T_p xr_42_139 xn_42 (pc' := 141) (ls' := [(6, .long (iL ((l1 / X_Hh G w h (HF h) (HE h) : Nat) : Int))), (13, .int (iI (bI (X_Hh G w h (HF h) (HE h) ≤ 9223372036854775807)))), (11, .long (X_st (-2) (X_Hh G w h (HF h) (HE h)))), (10, .int (iI (HE h))), (9, .int (iI (HF h))), (8, .int (iI h)), (5, .ref aw), (0, .ref 517), (1, .int (iI w)), (2, .int (iI node))]) (st' := []) rfl ?_
                  refine T_ziinc xr_42_141 xn_42 (a := h) (z := h - 1) rfl (Nat.le_of_ble_eq_true rfl) (by omega) (ls' := [(8, .int (iI (h - 1))), (6, .long (iL ((l1 / X_Hh G w h (HF h) (HE h) : Nat) : Int))), (13, .int (iI (bI (X_Hh G w h (HF h) (HE h) ≤ 9223372036854775807)))), (11, .long (X_st (-2) (X_Hh G w h (HF h) (HE h)))), (10, .int (iI (HE h))), (9, .int (iI (HF h))), (5, .ref aw), (0, .ref 517), (1, .int (iI w)), (2, .int (iI node))]) rfl (pc' := 144) rfl ?_
                  refine T_p xr_42_144 xn_42 (pc' := 26) (ls' := [(8, .int (iI (h - 1))), (6, .long (iL ((l1 / X_Hh G w h (HF h) (HE h) : Nat) : Int))), (13, .int (iI (bI (X_Hh G w h (HF h) (HE h) ≤ 9223372036854775807)))), (11, .long (X_st (-2) (X_Hh G w h (HF h) (HE h)))), (10, .int (iI (HE h))), (9, .int (iI (HF h))), (5, .ref aw), (0, .ref 517), (1, .int (iI w)), (2, .int (iI node))]) (st' := []) rfl ?_
                  have h1191 := (n1188 517 (by decide)).trans (h1184)
                  have h1192 := (n1188 518 (by decide)).trans ((n1182 518 (by decide)).trans ((n1176 518 (by decide)).trans ((n1166 518 (by decide)).trans ((n1161 518 (by decide)).trans ((n1155 518 (by decide)).trans ((n1149 518 (by decide)).trans (h1142)))))))
                  have h1193 := (n1188 519 (by decide)).trans ((n1182 519 (by decide)).trans ((n1176 519 (by decide)).trans ((n1166 519 (by decide)).trans ((n1161 519 (by decide)).trans ((n1155 519 (by decide)).trans (h1148))))))
                  have h1194 := (n1188 520 (by decide)).trans ((n1182 520 (by decide)).trans ((n1176 520 (by decide)).trans ((n1166 520 (by decide)).trans ((n1161 520 (by decide)).trans (h1154)))))
                  have h1195 := (n1188 521 (by decide)).trans ((n1182 521 (by decide)).trans ((n1176 521 (by decide)).trans ((n1166 521 (by decide)).trans (h1160))))
                  have h1196 := (n1188 522 (by decide)).trans ((n1182 522 (by decide)).trans (h1175))
                  have h1197 := (n1188 523 (by decide)).trans (h1181)
                  refine T_sub (ls := [(8, .int (iI (h - 1))), (6, .long (iL ((l1 / X_Hh G w h (HF h) (HE h) : Nat) : Int))), (5, .ref aw), (0, .ref 517), (1, .int (iI w)), (2, .int (iI node))]) ⟨rfl, rfl, rfl, rfl, rfl, rfl, trivial⟩ rfl rfl ?_
                  exact ih1123 S1186 (h - 1) (l1 / X_Hh G w h (HF h) (HE h)) (wt1 + 1) (X_ug St1 wt1 (HF h, HE h, node, h, gD G w 9 h, w, X_eh G w h, l1 % X_Hh G w h (HF h) (HE h))) (X_ug fF1 wt1 (HF h)) (X_ug fE1 wt1 (HE h)) (X_ug fP1 wt1 node) (X_ug fH1 wt1 h) (X_ug fW1 wt1 (((gD G) w 10) h)) (X_ug fK1 wt1 (((gD G) w 11) h)) (X_ug fN1 wt1 (iL ((l1 % X_Hh G w h (HF h) (HE h) : Nat) : Int))) h1191 h1192 h1193 h1194 h1195 h1196 h1197 h1187 (hF1126.tr (((((((((X_Fr.rf).tr (X_Fr.of n1143 e1144 (by omega))).tr (X_Fr.of n1149 e1150 (by omega))).tr (X_Fr.of n1155 e1156 (by omega))).tr (X_Fr.of n1161 e1162 (by omega))).tr (X_Fr.of n1166 e1167 (by omega))).tr (X_Fr.of n1176 e1177 (by omega))).tr (X_Fr.of n1182 e1183 (by omega))).tr (X_Fr.of n1188 e1189 (by omega)))) (by omega) (Nat.le_trans (Nat.div_le_self _ _) hl1m) (by
                        rw [X_pus_s (show 0 ≤ h by omega)] at hP
                        rw [show (h - 1 + 1).toNat = h.toNat by omega]
                        exact hP) (F_st.push hst1 rfl rfl rfl rfl ⟨rfl, rfl, rfl, rfl, (hgw.bits (show 0 ≤ h by omega) (by omega) hG).1, (hgw.bits (show 0 ≤ h by omega) (by omega) hG).2, rfl⟩ rfl rfl rfl) (by omega) (by omega)
                · skip
                  have c1190 : (X_Hh G w h (HF h) (HE h) ≤ 9223372036854775807) := c1190
                  exact (show False by first | contradiction | omega).elim
            · skip
              have c1171 : (X_Hh G w h (HF h) (HE h) ≤ 9223372036854775807) := c1171
              refine T_p xr_42_112 xn_42 (pc' := 114) (ls' := [(13, .int (iI (bI (X_Hh G w h (HF h) (HE h) ≤ 9223372036854775807)))), (11, .long (X_st (-2) (X_Hh G w h (HF h) (HE h)))), (10, .int (iI (HE h))), (9, .int (iI (HF h))), (8, .int (iI h)), (6, .long (iL (l1 : Int))), (5, .ref aw), (0, .ref 517), (1, .int (iI w)), (2, .int (iI node))]) (st' := [.long (iL (l1 : Int)), .int (iI (((gD G) w 11) h)), .int (iI (((gD G) w 10) h)), .ref 517]) rfl ?_
              refine T_p xr_42_114 xn_42 (pc' := 116) (ls' := [(13, .int (iI (bI (X_Hh G w h (HF h) (HE h) ≤ 9223372036854775807)))), (11, .long (X_st (-2) (X_Hh G w h (HF h) (HE h)))), (10, .int (iI (HE h))), (9, .int (iI (HF h))), (8, .int (iI h)), (6, .long (iL (l1 : Int))), (5, .ref aw), (0, .ref 517), (1, .int (iI w)), (2, .int (iI node))]) (st' := [.long (X_st (-2) (X_Hh G w h (HF h) (HE h))), .long (iL (l1 : Int)), .int (iI (((gD G) w 11) h)), .int (iI (((gD G) w 10) h)), .ref 517]) rfl ?_
              refine T_p xr_42_116 xn_42 (pc' := 117) (ls' := [(13, .int (iI (bI (X_Hh G w h (HF h) (HE h) ≤ 9223372036854775807)))), (11, .long (X_st (-2) (X_Hh G w h (HF h) (HE h)))), (10, .int (iI (HE h))), (9, .int (iI (HF h))), (8, .int (iI h)), (6, .long (iL (l1 : Int))), (5, .ref aw), (0, .ref 517), (1, .int (iI w)), (2, .int (iI node))]) (st' := .long ((iL (l1 : Int)) - (iL (l1 : Int)) / (X_st (-2) (X_Hh G w h (HF h) (HE h))) * (X_st (-2) (X_Hh G w h (HF h) (HE h)))) :: [.int (iI (((gD G) w 11) h)), .int (iI (((gD G) w 10) h)), .ref 517]) (by simp only [X_pstep, X_l2]; rw [if_neg (by exact fun z => absurd ((X_st_z (m := -2) (by omega)).mp z) (by omega))]) ?_
              refine T_p xr_42_117 xn_42 (pc' := 122) (ls' := [(13, .int (iI (bI (X_Hh G w h (HF h) (HE h) ≤ 9223372036854775807)))), (11, .long (X_st (-2) (X_Hh G w h (HF h) (HE h)))), (10, .int (iI (HE h))), (9, .int (iI (HF h))), (8, .int (iI h)), (6, .long (iL (l1 : Int))), (5, .ref aw), (0, .ref 517), (1, .int (iI w)), (2, .int (iI node))]) (st' := [.long ((iL (l1 : Int)) - (iL (l1 : Int)) / (X_st (-2) (X_Hh G w h (HF h) (HE h))) * (X_st (-2) (X_Hh G w h (HF h) (HE h)))), .int (iI (((gD G) w 11) h)), .int (iI (((gD G) w 10) h)), .ref 517]) rfl ?_
              refine T_le (y := (iL ((l1 % X_Hh G w h (HF h) (HE h) : Nat) : Int))) (by rw [X_st_lo (a := X_Hh G w h (HF h) (HE h)) (by assumption)]; exact (iL_rem hl1m ⟨hHp, by assumption⟩).1) ?_
              refine T_cv (S := S1164) (q := 517) xr_42_122 xf_38.1 xf_38.2.1 xn_38 (as := [.int (iI (((gD G) w 10) h)), .int (iI (((gD G) w 11) h)), .long (iL ((l1 % X_Hh G w h (HF h) (HE h) : Nat) : Int))]) (r := []) rfl h1165 (Nat.le_of_ble_eq_true rfl) (Nat.le_of_ble_eq_true rfl) (pc' := 125) rfl (ls' := [(0, .ref 517), (1, .int (iI (((gD G) w 10) h))), (2, .int (iI (((gD G) w 11) h))), (3, .long (iL ((l1 % X_Hh G w h (HF h) (HE h) : Nat) : Int)))]) rfl ?_
              refine T_p xr_38_0 xn_38 (pc' := 1) (ls' := [(0, .ref 517), (1, .int (iI (((gD G) w 10) h))), (2, .int (iI (((gD G) w 11) h))), (3, .long (iL ((l1 % X_Hh G w h (HF h) (HE h) : Nat) : Int)))]) (st' := [.ref 517]) rfl ?_
              refine T_get xr_38_1 h1165 rfl (v := .int (iI (wt1 + 1))) rfl (pc' := 4) rfl ?_
              refine T_zif_le xr_38_4 (t := 43) (pc' := 7) rfl rfl (fun c1198 => ?_) (fun c1198 => ?_)
              · skip
                have c1198 : (wt1 + 1) ≤ 0 := c1198
                exact (show False by omega).elim
              · skip
                have c1198 : ¬ ((wt1 + 1) ≤ 0) := c1198
                refine T_p xr_38_7 xn_38 (pc' := 8) (ls' := [(0, .ref 517), (1, .int (iI (((gD G) w 10) h))), (2, .int (iI (((gD G) w 11) h))), (3, .long (iL ((l1 % X_Hh G w h (HF h) (HE h) : Nat) : Int)))]) (st' := [.ref 517]) rfl ?_
                refine T_get xr_38_8 h1165 rfl (v := .ref 522) rfl (pc' := 11) rfl ?_
                refine T_p xr_38_11 xn_38 (pc' := 12) (ls' := [(0, .ref 517), (1, .int (iI (((gD G) w 10) h))), (2, .int (iI (((gD G) w 11) h))), (3, .long (iL ((l1 % X_Hh G w h (HF h) (HE h) : Nat) : Int)))]) (st' := [.ref 517, .ref 522]) rfl ?_
                refine T_get xr_38_12 h1165 rfl (v := .int (iI (wt1 + 1))) rfl (pc' := 15) rfl ?_
                refine T_p xr_38_15 xn_38 (pc' := 16) (ls' := [(0, .ref 517), (1, .int (iI (((gD G) w 10) h))), (2, .int (iI (((gD G) w 11) h))), (3, .long (iL ((l1 % X_Hh G w h (HF h) (HE h) : Nat) : Int)))]) (st' := [.int (iI 1), .int (iI (wt1 + 1)), .ref 522]) rfl ?_
                refine T_zisub xr_38_16 (z := wt1) (by omega) (pc' := 17) rfl ?_
                refine T_p xr_38_17 xn_38 (pc' := 18) (ls' := [(0, .ref 517), (1, .int (iI (((gD G) w 10) h))), (2, .int (iI (((gD G) w 11) h))), (3, .long (iL ((l1 % X_Hh G w h (HF h) (HE h) : Nat) : Int)))]) (st' := [.int (iI (((gD G) w 10) h)), .int (iI wt1), .ref 522]) rfl ?_
                have h1199 := (n1166 522 (by decide)).trans ((n1161 522 (by decide)).trans ((n1155 522 (by decide)).trans ((n1149 522 (by decide)).trans ((n1143 522 (by decide)).trans (hfW1)))))
                refine T_ziast xr_38_18 h1199 (pc' := 19) rfl (fun S1200 h1201 n1202 e1203 => ?_)
                refine T_p xr_38_19 xn_38 (pc' := 20) (ls' := [(0, .ref 517), (1, .int (iI (((gD G) w 10) h))), (2, .int (iI (((gD G) w 11) h))), (3, .long (iL ((l1 % X_Hh G w h (HF h) (HE h) : Nat) : Int)))]) (st' := [.ref 517]) rfl ?_
                have h1204 := (n1202 517 (by decide)).trans (h1165)
                refine T_get xr_38_20 h1204 rfl (v := .ref 523) rfl (pc' := 23) rfl ?_
                refine T_p xr_38_23 xn_38 (pc' := 24) (ls' := [(0, .ref 517), (1, .int (iI (((gD G) w 10) h))), (2, .int (iI (((gD G) w 11) h))), (3, .long (iL ((l1 % X_Hh G w h (HF h) (HE h) : Nat) : Int)))]) (st' := [.ref 517, .ref 523]) rfl ?_
                refine T_get xr_38_24 h1204 rfl (v := .int (iI (wt1 + 1))) rfl (pc' := 27) rfl ?_
                refine T_p xr_38_27 xn_38 (pc' := 28) (ls' := [(0, .ref 517), (1, .int (iI (((gD G) w 10) h))), (2, .int (iI (((gD G) w 11) h))), (3, .long (iL ((l1 % X_Hh G w h (HF h) (HE h) : Nat) : Int)))]) (st' := [.int (iI 1), .int (iI (wt1 + 1)), .ref 523]) rfl ?_
                refine T_zisub xr_38_28 (z := wt1) (by omega) (pc' := 29) rfl ?_
                refine T_p xr_38_29 xn_38 (pc' := 30) (ls' := [(0, .ref 517), (1, .int (iI (((gD G) w 10) h))), (2, .int (iI (((gD G) w 11) h))), (3, .long (iL ((l1 % X_Hh G w h (HF h) (HE h) : Nat) : Int)))]) (st' := [.int (iI (((gD G) w 11) h)), .int (iI wt1), .ref 523]) rfl ?_
                have h1205 := (n1202 523 (by decide)).trans ((n1166 523 (by decide)).trans ((n1161 523 (by decide)).trans ((n1155 523 (by decide)).trans ((n1149 523 (by decide)).trans ((n1143 523 (by decide)).trans (hfK1))))))
                refine T_ziast xr_38_30 h1205 (pc' := 31) rfl (fun S1206 h1207 n1208 e1209 => ?_)
                refine T_p xr_38_31 xn_38 (pc' := 32) (ls' := [(0, .ref 517), (1, .int (iI (((gD G) w 10) h))), (2, .int (iI (((gD G) w 11) h))), (3, .long (iL ((l1 % X_Hh G w h (HF h) (HE h) : Nat) : Int)))]) (st' := [.ref 517]) rfl ?_
                have h1210 := (n1208 517 (by decide)).trans (h1204)
                refine T_get xr_38_32 h1210 rfl (v := .ref 524) rfl (pc' := 35) rfl ?_
                refine T_p xr_38_35 xn_38 (pc' := 36) (ls' := [(0, .ref 517), (1, .int (iI (((gD G) w 10) h))), (2, .int (iI (((gD G) w 11) h))), (3, .long (iL ((l1 % X_Hh G w h (HF h) (HE h) : Nat) : Int)))]) (st' := [.ref 517, .ref 524]) rfl ?_
                refine T_get xr_38_36 h1210 rfl (v := .int (iI (wt1 + 1))) rfl (pc' := 39) rfl ?_
                refine T_p xr_38_39 xn_38 (pc' := 40) (ls' := [(0, .ref 517), (1, .int (iI (((gD G) w 10) h))), (2, .int (iI (((gD G) w 11) h))), (3, .long (iL ((l1 % X_Hh G w h (HF h) (HE h) : Nat) : Int)))]) (st' := [.int (iI 1), .int (iI (wt1 + 1)), .ref 524]) rfl ?_
                refine T_zisub xr_38_40 (z := wt1) (by omega) (pc' := 41) rfl ?_
                refine T_p xr_38_41 xn_38 (pc' := 42) (ls' := [(0, .ref 517), (1, .int (iI (((gD G) w 10) h))), (2, .int (iI (((gD G) w 11) h))), (3, .long (iL ((l1 % X_Hh G w h (HF h) (HE h) : Nat) : Int)))]) (st' := [.long (iL ((l1 % X_Hh G w h (HF h) (HE h) : Nat) : Int)), .int (iI wt1), .ref 524]) rfl ?_
                have h1211 := (n1208 524 (by decide)).trans ((n1202 524 (by decide)).trans ((n1166 524 (by decide)).trans ((n1161 524 (by decide)).trans ((n1155 524 (by decide)).trans ((n1149 524 (by decide)).trans ((n1143 524 (by decide)).trans (hfN1)))))))
                refine T_zlast xr_38_42 h1211 (pc' := 43) rfl (fun S1212 h1213 n1214 e1215 => ?_)
                refine T_vret xr_38_43 xf_38.2.2 ?_
                show X_T sc 42 (125, [(13, .int (iI (bI (X_Hh G w h (HF h) (HE h) ≤ 9223372036854775807)))), (11, .long (X_st (-2) (X_Hh G w h (HF h) (HE h)))), (10, .int (iI (HE h))), (9, .int (iI (HF h))), (8, .int (iI h)), (6, .long (iL (l1 : Int))), (5, .ref aw), (0, .ref 517), (1, .int (iI w)), (2, .int (iI node))], [], S1212) _
                refine T_p xr_42_125 xn_42 (pc' := 127) (ls' := [(13, .int (iI (bI (X_Hh G w h (HF h) (HE h) ≤ 9223372036854775807)))), (11, .long (X_st (-2) (X_Hh G w h (HF h) (HE h)))), (10, .int (iI (HE h))), (9, .int (iI (HF h))), (8, .int (iI h)), (6, .long (iL (l1 : Int))), (5, .ref aw), (0, .ref 517), (1, .int (iI w)), (2, .int (iI node))]) (st' := [.int (iI (bI (X_Hh G w h (HF h) (HE h) ≤ 9223372036854775807)))]) rfl ?_
                refine T_bif_eq xr_42_127 (t := 138) (pc' := 130) rfl rfl (fun c1216 => ?_) (fun c1216 => ?_)
                · skip
                  have c1216 : ¬ (X_Hh G w h (HF h) (HE h) ≤ 9223372036854775807) := c1216
                  exact (show False by first | contradiction | omega).elim
                · skip
                  have c1216 : (X_Hh G w h (HF h) (HE h) ≤ 9223372036854775807) := c1216
                  refine T_p xr_42_130 xn_42 (pc' := 132) (ls' := [(13, .int (iI (bI (X_Hh G w h (HF h) (HE h) ≤ 9223372036854775807)))), (11, .long (X_st (-2) (X_Hh G w h (HF h) (HE h)))), (10, .int (iI (HE h))), (9, .int (iI (HF h))), (8, .int (iI h)), (6, .long (iL (l1 : Int))), (5, .ref aw), (0, .ref 517), (1, .int (iI w)), (2, .int (iI node))]) (st' := [.long (iL (l1 : Int))]) rfl ?_
                  refine T_p xr_42_132 xn_42 (pc' := 134) (ls' := [(13, .int (iI (bI (X_Hh G w h (HF h) (HE h) ≤ 9223372036854775807)))), (11, .long (X_st (-2) (X_Hh G w h (HF h) (HE h)))), (10, .int (iI (HE h))), (9, .int (iI (HF h))), (8, .int (iI h)), (6, .long (iL (l1 : Int))), (5, .ref aw), (0, .ref 517), (1, .int (iI w)), (2, .int (iI node))]) (st' := [.long (X_st (-2) (X_Hh G w h (HF h) (HE h))), .long (iL (l1 : Int))]) rfl ?_
                  refine T_p xr_42_134 xn_42 (pc' := 135) (ls' := [(13, .int (iI (bI (X_Hh G w h (HF h) (HE h) ≤ 9223372036854775807)))), (11, .long (X_st (-2) (X_Hh G w h (HF h) (HE h)))), (10, .int (iI (HE h))), (9, .int (iI (HF h))), (8, .int (iI h)), (6, .long (iL (l1 : Int))), (5, .ref aw), (0, .ref 517), (1, .int (iI w)), (2, .int (iI node))]) (st' := .long ((iL (l1 : Int)) / (X_st (-2) (X_Hh G w h (HF h) (HE h)))) :: []) (by simp only [X_pstep, X_l2]; rw [if_neg (by exact fun z => absurd ((X_st_z (m := -2) (by omega)).mp z) (by omega))]) ?_
                  refine T_p xr_42_135 xn_42 (pc' := 139) (ls' := [(13, .int (iI (bI (X_Hh G w h (HF h) (HE h) ≤ 9223372036854775807)))), (11, .long (X_st (-2) (X_Hh G w h (HF h) (HE h)))), (10, .int (iI (HE h))), (9, .int (iI (HF h))), (8, .int (iI h)), (6, .long (iL (l1 : Int))), (5, .ref aw), (0, .ref 517), (1, .int (iI w)), (2, .int (iI node))]) (st' := [.long ((iL (l1 : Int)) / (X_st (-2) (X_Hh G w h (HF h) (HE h))))]) rfl ?_
                  refine T_le (y := (iL ((l1 / X_Hh G w h (HF h) (HE h) : Nat) : Int))) (by rw [X_st_lo (a := X_Hh G w h (HF h) (HE h)) (by assumption)]; exact (iL_rem hl1m ⟨hHp, by assumption⟩).2) ?_
                  refine T_p xr_42_139 xn_42 (pc' := 141) (ls' := [(6, .long (iL ((l1 / X_Hh G w h (HF h) (HE h) : Nat) : Int))), (13, .int (iI (bI (X_Hh G w h (HF h) (HE h) ≤ 9223372036854775807)))), (11, .long (X_st (-2) (X_Hh G w h (HF h) (HE h)))), (10, .int (iI (HE h))), (9, .int (iI (HF h))), (8, .int (iI h)), (5, .ref aw), (0, .ref 517), (1, .int (iI w)), (2, .int (iI node))]) (st' := []) rfl ?_
                  refine T_ziinc xr_42_141 xn_42 (a := h) (z := h - 1) rfl (Nat.le_of_ble_eq_true rfl) (by omega) (ls' := [(8, .int (iI (h - 1))), (6, .long (iL ((l1 / X_Hh G w h (HF h) (HE h) : Nat) : Int))), (13, .int (iI (bI (X_Hh G w h (HF h) (HE h) ≤ 9223372036854775807)))), (11, .long (X_st (-2) (X_Hh G w h (HF h) (HE h)))), (10, .int (iI (HE h))), (9, .int (iI (HF h))), (5, .ref aw), (0, .ref 517), (1, .int (iI w)), (2, .int (iI node))]) rfl (pc' := 144) rfl ?_
                  refine T_p xr_42_144 xn_42 (pc' := 26) (ls' := [(8, .int (iI (h - 1))), (6, .long (iL ((l1 / X_Hh G w h (HF h) (HE h) : Nat) : Int))), (13, .int (iI (bI (X_Hh G w h (HF h) (HE h) ≤ 9223372036854775807)))), (11, .long (X_st (-2) (X_Hh G w h (HF h) (HE h)))), (10, .int (iI (HE h))), (9, .int (iI (HF h))), (5, .ref aw), (0, .ref 517), (1, .int (iI w)), (2, .int (iI node))]) (st' := []) rfl ?_
                  have h1217 := (n1214 517 (by decide)).trans (h1210)
                  have h1218 := (n1214 518 (by decide)).trans ((n1208 518 (by decide)).trans ((n1202 518 (by decide)).trans ((n1166 518 (by decide)).trans ((n1161 518 (by decide)).trans ((n1155 518 (by decide)).trans ((n1149 518 (by decide)).trans (h1142)))))))
                  have h1219 := (n1214 519 (by decide)).trans ((n1208 519 (by decide)).trans ((n1202 519 (by decide)).trans ((n1166 519 (by decide)).trans ((n1161 519 (by decide)).trans ((n1155 519 (by decide)).trans (h1148))))))
                  have h1220 := (n1214 520 (by decide)).trans ((n1208 520 (by decide)).trans ((n1202 520 (by decide)).trans ((n1166 520 (by decide)).trans ((n1161 520 (by decide)).trans (h1154)))))
                  have h1221 := (n1214 521 (by decide)).trans ((n1208 521 (by decide)).trans ((n1202 521 (by decide)).trans ((n1166 521 (by decide)).trans (h1160))))
                  have h1222 := (n1214 522 (by decide)).trans ((n1208 522 (by decide)).trans (h1201))
                  have h1223 := (n1214 523 (by decide)).trans (h1207)
                  refine T_sub (ls := [(8, .int (iI (h - 1))), (6, .long (iL ((l1 / X_Hh G w h (HF h) (HE h) : Nat) : Int))), (5, .ref aw), (0, .ref 517), (1, .int (iI w)), (2, .int (iI node))]) ⟨rfl, rfl, rfl, rfl, rfl, rfl, trivial⟩ rfl rfl ?_
                  exact ih1123 S1212 (h - 1) (l1 / X_Hh G w h (HF h) (HE h)) (wt1 + 1) (X_ug St1 wt1 (HF h, HE h, node, h, gD G w 9 h, w, X_eh G w h, l1 % X_Hh G w h (HF h) (HE h))) (X_ug fF1 wt1 (HF h)) (X_ug fE1 wt1 (HE h)) (X_ug fP1 wt1 node) (X_ug fH1 wt1 h) (X_ug fW1 wt1 (((gD G) w 10) h)) (X_ug fK1 wt1 (((gD G) w 11) h)) (X_ug fN1 wt1 (iL ((l1 % X_Hh G w h (HF h) (HE h) : Nat) : Int))) h1217 h1218 h1219 h1220 h1221 h1222 h1223 h1213 (hF1126.tr (((((((((X_Fr.rf).tr (X_Fr.of n1143 e1144 (by omega))).tr (X_Fr.of n1149 e1150 (by omega))).tr (X_Fr.of n1155 e1156 (by omega))).tr (X_Fr.of n1161 e1162 (by omega))).tr (X_Fr.of n1166 e1167 (by omega))).tr (X_Fr.of n1202 e1203 (by omega))).tr (X_Fr.of n1208 e1209 (by omega))).tr (X_Fr.of n1214 e1215 (by omega)))) (by omega) (Nat.le_trans (Nat.div_le_self _ _) hl1m) (by
                        rw [X_pus_s (show 0 ≤ h by omega)] at hP
                        rw [show (h - 1 + 1).toNat = h.toNat by omega]
                        exact hP) (F_st.push hst1 rfl rfl rfl rfl ⟨rfl, rfl, rfl, rfl, (hgw.bits (show 0 ≤ h by omega) (by omega) hG).1, (hgw.bits (show 0 ≤ h by omega) (by omega) hG).2, rfl⟩ rfl rfl rfl) (by omega) (by omega)
        refine T_p xr_42_65 xn_42 (pc' := 67) (ls' := [(11, .long (X_st (-2) (X_Hh G w h (HF h) (HE h)))), (10, .int (iI (HE h))), (9, .int (iI (HF h))), (8, .int (iI h)), (6, .long (iL (l1 : Int))), (5, .ref aw), (0, .ref 517), (1, .int (iI w)), (2, .int (iI node))]) (st' := [.long (X_st (-2) (X_Hh G w h (HF h) (HE h)))]) rfl ?_
        refine T_p xr_42_67 xn_42 (pc' := 68) (ls' := [(11, .long (X_st (-2) (X_Hh G w h (HF h) (HE h)))), (10, .int (iI (HE h))), (9, .int (iI (HF h))), (8, .int (iI h)), (6, .long (iL (l1 : Int))), (5, .ref aw), (0, .ref 517), (1, .int (iI w)), (2, .int (iI node))]) (st' := [.long (iL 0), .long (X_st (-2) (X_Hh G w h (HF h) (HE h)))]) rfl ?_
        refine T_lc_le xr_42_68 xr_42_69 (t := 76) (pc' := 72) rfl rfl (fun c1224 => ?_) (fun c1224 => ?_)
        · skip
          have c1224 : (X_st (-2) (X_Hh G w h (HF h) (HE h))) ≤ (iL 0) := c1224
          refine T_p xr_42_76 xn_42 (pc' := 77) (ls' := [(11, .long (X_st (-2) (X_Hh G w h (HF h) (HE h)))), (10, .int (iI (HE h))), (9, .int (iI (HF h))), (8, .int (iI h)), (6, .long (iL (l1 : Int))), (5, .ref aw), (0, .ref 517), (1, .int (iI w)), (2, .int (iI node))]) (st' := [.int (iI 0)]) rfl ?_
          refine T_ie (y := iI (bI (X_Hh G w h (HF h) (HE h) ≤ 9223372036854775807))) (by rw [bI_f (by exact fun z => absurd (show X_st (-2) (X_Hh G w h (HF h) (HE h)) ≤ iL 0 by assumption) (by rw [X_st_lo z, iL_le (by omega) (by omega) (by omega) (by omega)]; omega))]) ?_
          exact J1139
        · skip
          have c1224 : ¬ ((X_st (-2) (X_Hh G w h (HF h) (HE h))) ≤ (iL 0)) := c1224
          refine T_p xr_42_72 xn_42 (pc' := 73) (ls' := [(11, .long (X_st (-2) (X_Hh G w h (HF h) (HE h)))), (10, .int (iI (HE h))), (9, .int (iI (HF h))), (8, .int (iI h)), (6, .long (iL (l1 : Int))), (5, .ref aw), (0, .ref 517), (1, .int (iI w)), (2, .int (iI node))]) (st' := [.int (iI 1)]) rfl ?_
          refine T_p xr_42_73 xn_42 (pc' := 77) (ls' := [(11, .long (X_st (-2) (X_Hh G w h (HF h) (HE h)))), (10, .int (iI (HE h))), (9, .int (iI (HF h))), (8, .int (iI h)), (6, .long (iL (l1 : Int))), (5, .ref aw), (0, .ref 517), (1, .int (iI w)), (2, .int (iI node))]) (st' := [.int (iI 1)]) rfl ?_
          refine T_ie (y := iI (bI (X_Hh G w h (HF h) (HE h) ≤ 9223372036854775807))) (by rw [bI_t (by exact Classical.byContradiction (fun z => absurd (show X_st (-2) (X_Hh G w h (HF h) (HE h)) ≤ iL 0 by rw [X_st_hi (by omega)]; decide) (by assumption)))]) ?_
          exact J1139
  refine T_sub (ls := [(8, .int (iI (((gD G) w 4 0) - 1))), (6, .long (iL (l : Int))), (5, .ref aw), (0, .ref 517), (1, .int (iI w)), (2, .int (iI node))]) ⟨rfl, rfl, rfl, rfl, rfl, rfl, trivial⟩ rfl rfl ?_
  exact L1122 ((gD G w 4 0) + 1).toNat S (((gD G) w 4 0) - 1) l wt St fF fE fP fH fW fK fN hO517 hA518 hA519 hA520 hA521 hA522 hA523 hA524 ((X_Fr.rf)) (by omega) hlm (by rw [show (gD G w 4 0 - 1 + 1).toNat = (gD G w 4 0).toNat by omega]) hst (by omega) (by omega)
