theorem xr_189_0 : X_row 189 0 = some (0, (.bipush 30, 2), (0, 0, 0)) := by decide +kernel
theorem xr_189_2 : X_row 189 2 = some (2, (.aload_n 0, 1), (0, 0, 0)) := by decide +kernel
theorem xr_189_3 : X_row 189 3 = some (3, (.getfield 91, 3), (11, 4, 8)) := by decide +kernel
theorem xr_189_6 : X_row 189 6 = some (6, (.imul, 1), (0, 0, 0)) := by decide +kernel
theorem xr_189_7 : X_row 189 7 = some (7, (.iload_n 1, 1), (0, 0, 0)) := by decide +kernel
theorem xr_189_8 : X_row 189 8 = some (8, (.iadd, 1), (0, 0, 0)) := by decide +kernel
theorem xr_189_9 : X_row 189 9 = some (9, (.istore 7, 2), (0, 0, 0)) := by decide +kernel
theorem xr_189_11 : X_row 189 11 = some (11, (.aload_n 0, 1), (0, 0, 0)) := by decide +kernel
theorem xr_189_12 : X_row 189 12 = some (12, (.iload_n 1, 1), (0, 0, 0)) := by decide +kernel
theorem xr_189_13 : X_row 189 13 = some (13, (.iload_n 3, 1), (0, 0, 0)) := by decide +kernel
theorem xr_189_14 : X_row 189 14 = some (14, (.invokevirtual 396, 3), (188, 84, 0)) := by decide +kernel
theorem xr_189_17 : X_row 189 17 = some (17, (.lload 4, 2), (0, 0, 0)) := by decide +kernel
theorem xr_189_19 : X_row 189 19 = some (19, (.lstore 8, 2), (0, 0, 0)) := by decide +kernel
theorem xr_189_21 : X_row 189 21 = some (21, (.lconst 1, 1), (0, 0, 0)) := by decide +kernel
theorem xr_189_22 : X_row 189 22 = some (22, (.lstore 10, 2), (0, 0, 0)) := by decide +kernel
theorem xr_189_24 : X_row 189 24 = some (24, (.iload_n 2, 1), (0, 0, 0)) := by decide +kernel
theorem xr_189_25 : X_row 189 25 = some (25, (.istore 12, 2), (0, 0, 0)) := by decide +kernel
theorem xr_189_27 : X_row 189 27 = some (27, (.iconst 0, 1), (0, 0, 0)) := by decide +kernel
theorem xr_189_28 : X_row 189 28 = some (28, (.istore 13, 2), (0, 0, 0)) := by decide +kernel
theorem xr_189_30 : X_row 189 30 = some (30, (.iconst 0, 1), (0, 0, 0)) := by decide +kernel
theorem xr_189_31 : X_row 189 31 = some (31, (.istore 14, 2), (0, 0, 0)) := by decide +kernel
theorem xr_189_33 : X_row 189 33 = some (33, (.iload 14, 2), (0, 0, 0)) := by decide +kernel
theorem xr_189_35 : X_row 189 35 = some (35, (.aload_n 0, 1), (0, 0, 0)) := by decide +kernel
theorem xr_189_36 : X_row 189 36 = some (36, (.getfield 150, 3), (11, 20, 40)) := by decide +kernel
theorem xr_189_39 : X_row 189 39 = some (39, (.iload 7, 2), (0, 0, 0)) := by decide +kernel
theorem xr_189_41 : X_row 189 41 = some (41, (.iaload, 1), (0, 0, 0)) := by decide +kernel
theorem xr_189_42 : X_row 189 42 = some (42, (.if_icmp .ge 183, 3), (0, 0, 0)) := by decide +kernel
theorem xr_189_45 : X_row 189 45 = some (45, (.aload_n 0, 1), (0, 0, 0)) := by decide +kernel
theorem xr_189_46 : X_row 189 46 = some (46, (.getfield 168, 3), (11, 25, 50)) := by decide +kernel
theorem xr_189_49 : X_row 189 49 = some (49, (.bipush 8, 2), (0, 0, 0)) := by decide +kernel
theorem xr_189_51 : X_row 189 51 = some (51, (.iload 7, 2), (0, 0, 0)) := by decide +kernel
theorem xr_189_53 : X_row 189 53 = some (53, (.imul, 1), (0, 0, 0)) := by decide +kernel
theorem xr_189_54 : X_row 189 54 = some (54, (.iload 14, 2), (0, 0, 0)) := by decide +kernel
theorem xr_189_56 : X_row 189 56 = some (56, (.iadd, 1), (0, 0, 0)) := by decide +kernel
theorem xr_189_57 : X_row 189 57 = some (57, (.laload, 1), (0, 0, 0)) := by decide +kernel
theorem xr_189_58 : X_row 189 58 = some (58, (.lconst 0, 1), (0, 0, 0)) := by decide +kernel
theorem xr_189_59 : X_row 189 59 = some (59, (.lcmp, 1), (0, 0, 0)) := by decide +kernel
theorem xr_189_60 : X_row 189 60 = some (60, (.ifCond .eq 9, 3), (0, 0, 0)) := by decide +kernel
theorem xr_189_63 : X_row 189 63 = some (63, (.iinc 12 1, 3), (0, 0, 0)) := by decide +kernel
theorem xr_189_66 : X_row 189 66 = some (66, (.goto 153, 3), (0, 0, 0)) := by decide +kernel
theorem xr_189_69 : X_row 189 69 = some (69, (.iload 12, 2), (0, 0, 0)) := by decide +kernel
theorem xr_189_71 : X_row 189 71 = some (71, (.istore 15, 2), (0, 0, 0)) := by decide +kernel
theorem xr_189_73 : X_row 189 73 = some (73, (.iconst 0, 1), (0, 0, 0)) := by decide +kernel
theorem xr_189_74 : X_row 189 74 = some (74, (.istore 16, 2), (0, 0, 0)) := by decide +kernel
theorem xr_189_76 : X_row 189 76 = some (76, (.lconst 0, 1), (0, 0, 0)) := by decide +kernel
theorem xr_189_77 : X_row 189 77 = some (77, (.lstore 17, 2), (0, 0, 0)) := by decide +kernel
theorem xr_189_79 : X_row 189 79 = some (79, (.iload 16, 2), (0, 0, 0)) := by decide +kernel
theorem xr_189_81 : X_row 189 81 = some (81, (.ifCond .ne 95, 3), (0, 0, 0)) := by decide +kernel
theorem xr_189_84 : X_row 189 84 = some (84, (.iinc 15 1, 3), (0, 0, 0)) := by decide +kernel
theorem xr_189_87 : X_row 189 87 = some (87, (.aload_n 0, 1), (0, 0, 0)) := by decide +kernel
theorem xr_189_88 : X_row 189 88 = some (88, (.getfield 213, 3), (11, 41, 82)) := by decide +kernel
theorem xr_189_91 : X_row 189 91 = some (91, (.sipush 961, 3), (0, 0, 0)) := by decide +kernel
theorem xr_189_94 : X_row 189 94 = some (94, (.iconst 4, 1), (0, 0, 0)) := by decide +kernel
theorem xr_189_95 : X_row 189 95 = some (95, (.iload_n 1, 1), (0, 0, 0)) := by decide +kernel
theorem xr_189_96 : X_row 189 96 = some (96, (.imul, 1), (0, 0, 0)) := by decide +kernel
theorem xr_189_97 : X_row 189 97 = some (97, (.iload 13, 2), (0, 0, 0)) := by decide +kernel
theorem xr_189_99 : X_row 189 99 = some (99, (.iadd, 1), (0, 0, 0)) := by decide +kernel
theorem xr_189_100 : X_row 189 100 = some (100, (.imul, 1), (0, 0, 0)) := by decide +kernel
theorem xr_189_101 : X_row 189 101 = some (101, (.iload 12, 2), (0, 0, 0)) := by decide +kernel
theorem xr_189_103 : X_row 189 103 = some (103, (.iload 15, 2), (0, 0, 0)) := by decide +kernel
theorem xr_189_105 : X_row 189 105 = some (105, (.invokestatic 337, 3), (173, 56, 0)) := by decide +kernel
theorem xr_189_108 : X_row 189 108 = some (108, (.iadd, 1), (0, 0, 0)) := by decide +kernel
theorem xr_189_109 : X_row 189 109 = some (109, (.laload, 1), (0, 0, 0)) := by decide +kernel
theorem xr_189_110 : X_row 189 110 = some (110, (.lstore 17, 2), (0, 0, 0)) := by decide +kernel
theorem xr_189_112 : X_row 189 112 = some (112, (.lload 10, 2), (0, 0, 0)) := by decide +kernel
theorem xr_189_114 : X_row 189 114 = some (114, (.lload 17, 2), (0, 0, 0)) := by decide +kernel
theorem xr_189_116 : X_row 189 116 = some (116, (.aload_n 0, 1), (0, 0, 0)) := by decide +kernel
theorem xr_189_117 : X_row 189 117 = some (117, (.getfield 270, 3), (11, 62, 124)) := by decide +kernel
theorem xr_189_120 : X_row 189 120 = some (120, (.bipush 32, 2), (0, 0, 0)) := by decide +kernel
theorem xr_189_122 : X_row 189 122 = some (122, (.iload 14, 2), (0, 0, 0)) := by decide +kernel
theorem xr_189_124 : X_row 189 124 = some (124, (.iconst 1, 1), (0, 0, 0)) := by decide +kernel
theorem xr_189_125 : X_row 189 125 = some (125, (.iadd, 1), (0, 0, 0)) := by decide +kernel
theorem xr_189_126 : X_row 189 126 = some (126, (.imul, 1), (0, 0, 0)) := by decide +kernel
theorem xr_189_127 : X_row 189 127 = some (127, (.iload 15, 2), (0, 0, 0)) := by decide +kernel
theorem xr_189_129 : X_row 189 129 = some (129, (.iadd, 1), (0, 0, 0)) := by decide +kernel
theorem xr_189_130 : X_row 189 130 = some (130, (.laload, 1), (0, 0, 0)) := by decide +kernel
theorem xr_189_131 : X_row 189 131 = some (131, (.invokestatic 366, 3), (172, 62, 0)) := by decide +kernel
theorem xr_189_134 : X_row 189 134 = some (134, (.invokestatic 366, 3), (172, 62, 0)) := by decide +kernel
theorem xr_189_137 : X_row 189 137 = some (137, (.lstore 19, 2), (0, 0, 0)) := by decide +kernel
theorem xr_189_139 : X_row 189 139 = some (139, (.lload 19, 2), (0, 0, 0)) := by decide +kernel
theorem xr_189_141 : X_row 189 141 = some (141, (.lconst 0, 1), (0, 0, 0)) := by decide +kernel
theorem xr_189_142 : X_row 189 142 = some (142, (.lcmp, 1), (0, 0, 0)) := by decide +kernel
theorem xr_189_143 : X_row 189 143 = some (143, (.ifCond .lt 11, 3), (0, 0, 0)) := by decide +kernel
theorem xr_189_146 : X_row 189 146 = some (146, (.lload 8, 2), (0, 0, 0)) := by decide +kernel
theorem xr_189_148 : X_row 189 148 = some (148, (.lload 19, 2), (0, 0, 0)) := by decide +kernel
theorem xr_189_150 : X_row 189 150 = some (150, (.lcmp, 1), (0, 0, 0)) := by decide +kernel
theorem xr_189_151 : X_row 189 151 = some (151, (.ifCond .ge 7, 3), (0, 0, 0)) := by decide +kernel
theorem xr_189_154 : X_row 189 154 = some (154, (.iconst 1, 1), (0, 0, 0)) := by decide +kernel
theorem xr_189_155 : X_row 189 155 = some (155, (.goto 4, 3), (0, 0, 0)) := by decide +kernel
theorem xr_189_158 : X_row 189 158 = some (158, (.iconst 0, 1), (0, 0, 0)) := by decide +kernel
theorem xr_189_159 : X_row 189 159 = some (159, (.istore 16, 2), (0, 0, 0)) := by decide +kernel
theorem xr_189_161 : X_row 189 161 = some (161, (.iload 16, 2), (0, 0, 0)) := by decide +kernel
theorem xr_189_163 : X_row 189 163 = some (163, (.ifCond .ne 10, 3), (0, 0, 0)) := by decide +kernel
theorem xr_189_166 : X_row 189 166 = some (166, (.lload 8, 2), (0, 0, 0)) := by decide +kernel
theorem xr_189_168 : X_row 189 168 = some (168, (.lload 19, 2), (0, 0, 0)) := by decide +kernel
theorem xr_189_170 : X_row 189 170 = some (170, (.lsub, 1), (0, 0, 0)) := by decide +kernel
theorem xr_189_171 : X_row 189 171 = some (171, (.lstore 8, 2), (0, 0, 0)) := by decide +kernel
theorem xr_189_173 : X_row 189 173 = some (173, (.goto (-94), 3), (0, 0, 0)) := by decide +kernel
theorem xr_189_176 : X_row 189 176 = some (176, (.aload_n 0, 1), (0, 0, 0)) := by decide +kernel
theorem xr_189_177 : X_row 189 177 = some (177, (.getfield 261, 3), (11, 59, 118)) := by decide +kernel
theorem xr_189_180 : X_row 189 180 = some (180, (.iload 13, 2), (0, 0, 0)) := by decide +kernel
theorem xr_189_182 : X_row 189 182 = some (182, (.iload 12, 2), (0, 0, 0)) := by decide +kernel
theorem xr_189_184 : X_row 189 184 = some (184, (.iastore, 1), (0, 0, 0)) := by decide +kernel
theorem xr_189_185 : X_row 189 185 = some (185, (.aload_n 0, 1), (0, 0, 0)) := by decide +kernel
theorem xr_189_186 : X_row 189 186 = some (186, (.getfield 264, 3), (11, 60, 120)) := by decide +kernel
theorem xr_189_189 : X_row 189 189 = some (189, (.iload 13, 2), (0, 0, 0)) := by decide +kernel
theorem xr_189_191 : X_row 189 191 = some (191, (.iload 15, 2), (0, 0, 0)) := by decide +kernel
theorem xr_189_193 : X_row 189 193 = some (193, (.iastore, 1), (0, 0, 0)) := by decide +kernel
theorem xr_189_194 : X_row 189 194 = some (194, (.aload_n 0, 1), (0, 0, 0)) := by decide +kernel
theorem xr_189_195 : X_row 189 195 = some (195, (.getfield 267, 3), (11, 61, 122)) := by decide +kernel
theorem xr_189_198 : X_row 189 198 = some (198, (.iload 13, 2), (0, 0, 0)) := by decide +kernel
theorem xr_189_200 : X_row 189 200 = some (200, (.lload 17, 2), (0, 0, 0)) := by decide +kernel
theorem xr_189_202 : X_row 189 202 = some (202, (.lastore, 1), (0, 0, 0)) := by decide +kernel
theorem xr_189_203 : X_row 189 203 = some (203, (.lload 10, 2), (0, 0, 0)) := by decide +kernel
theorem xr_189_205 : X_row 189 205 = some (205, (.lload 17, 2), (0, 0, 0)) := by decide +kernel
theorem xr_189_207 : X_row 189 207 = some (207, (.invokestatic 366, 3), (172, 62, 0)) := by decide +kernel
theorem xr_189_210 : X_row 189 210 = some (210, (.lstore 10, 2), (0, 0, 0)) := by decide +kernel
theorem xr_189_212 : X_row 189 212 = some (212, (.iload 15, 2), (0, 0, 0)) := by decide +kernel
theorem xr_189_214 : X_row 189 214 = some (214, (.istore 12, 2), (0, 0, 0)) := by decide +kernel
theorem xr_189_216 : X_row 189 216 = some (216, (.iinc 13 1, 3), (0, 0, 0)) := by decide +kernel
theorem xr_189_219 : X_row 189 219 = some (219, (.iinc 14 1, 3), (0, 0, 0)) := by decide +kernel
theorem xr_189_222 : X_row 189 222 = some (222, (.goto (-189), 3), (0, 0, 0)) := by decide +kernel
theorem xn_189 : X_nL 189 = 21 := by decide +kernel
theorem xf_189 : X_na 189 = 5 ∧ X_ci 189 = 11 ∧ X_rt 189 = none := by decide +kernel
set_option maxHeartbeats 1600000 in
theorem r_cut (sc : X_Sc) (S : X_S) (wM : Int → Int) (wH : Int → Int) (eP : Int → Int64) (eH : Int → Int) (hK : Int → Int) (tT : Int → Int64) (oW : Int → Int64) (oK : Int → Int64) (oH : Int → Int64) (pF : Int → Int) (pT : Int → Int) (pS : Int → Int) (pH : Int → Int) (pW : Int → Int) (pP : Int → Int) (pQ : Int → Int) (pN : Int → Int64) (cF : Int → Int) (cT : Int → Int) (cN : Int → Int64) (rr : Int → Int64) (o : Nat → Int) (nm : Int64) (b : Int) (rc : Int) (G : X_G) (tn : Int) (hp : Int) (w : Int) (i : Int) (j : Int) (k2 : Nat) (node : Int) (St : Int → X_It) (hO530 : S.1 530 = .inr (11, [.ref 531, .int (iI (o 1)), .ref 532, .int (iI (o 3)), .int (iI b), .int (iI (o 5)), .int (iI (o 6)), .int (iI (o 7)), .int (iI (o 8)), .int (iI (o 9)), .int (iI (o 10)), .int (iI (o 11)), .long nm, .ref 533, .ref 534, .ref 535, .ref 536, .ref 537, .ref 538, .ref 539, .ref 540, .ref 541, .ref 542, .ref 543, .ref 544, .ref 545, .ref 546, .ref 547, .int (iI rc), .int (iI (gk G)), .int (iI (gw G)), .int (iI (o 31)), .int (iI (o 32)), .int (iI (o 33)), .ref 548, .ref 549, .ref 550, .ref 551, .int (iI tn), .ref 552, .ref 553, .ref 554, .ref 555, .ref 556, .ref 557, .ref 558, .ref 559, .ref 560, .ref 561, .int (iI (o 49)), .ref 562, .ref 563, .ref 564, .ref 565, .ref 566, .ref 567, .ref 568, .ref 569, .int (iI hp), .ref 570, .ref 571, .ref 572, .ref 573, .ref 574, .ref 575, .ref 576, .ref 577, .ref 578, .int (iI (o 68)), .int (iI (o 69)), .int (iI (o 70)), .ref 579])) (hA540 : S.1 540 = .inl (.int, 60, .inl fun k : Nat => iI (wM (k : Int)))) (hA541 : S.1 541 = .inl (.int, 60, .inl fun k : Nat => iI (wH (k : Int)))) (hA545 : S.1 545 = .inl (.long, 480, .inr (.inl fun k : Nat => eP (k : Int)))) (hA546 : S.1 546 = .inl (.int, 480, .inl fun k : Nat => iI (eH (k : Int)))) (hA547 : S.1 547 = .inl (.int, 240, .inl fun k : Nat => iI (hK (k : Int)))) (hA548 : S.1 548 = .inl (.long, 30, .inr (.inl fun k : Nat => tT (k : Int)))) (hA552 : S.1 552 = .inl (.long, 28830, .inr (.inl fun k : Nat => oW (k : Int)))) (hA553 : S.1 553 = .inl (.long, 10571, .inr (.inl fun k : Nat => oK (k : Int)))) (hA554 : S.1 554 = .inl (.long, 115320, .inr (.inl fun k : Nat => oH (k : Int)))) (hA562 : S.1 562 = .inl (.int, 160, .inl fun k : Nat => iI (pF (k : Int)))) (hA563 : S.1 563 = .inl (.int, 160, .inl fun k : Nat => iI (pT (k : Int)))) (hA564 : S.1 564 = .inl (.int, 160, .inl fun k : Nat => iI (pS (k : Int)))) (hA565 : S.1 565 = .inl (.int, 160, .inl fun k : Nat => iI (pH (k : Int)))) (hA566 : S.1 566 = .inl (.int, 160, .inl fun k : Nat => iI (pW (k : Int)))) (hA567 : S.1 567 = .inl (.int, 160, .inl fun k : Nat => iI (pP (k : Int)))) (hA568 : S.1 568 = .inl (.int, 160, .inl fun k : Nat => iI (pQ (k : Int)))) (hA569 : S.1 569 = .inl (.long, 160, .inr (.inl fun k : Nat => pN (k : Int)))) (hA570 : S.1 570 = .inl (.int, 4, .inl fun k : Nat => iI (cF (k : Int)))) (hA571 : S.1 571 = .inl (.int, 4, .inl fun k : Nat => iI (cT (k : Int)))) (hA572 : S.1 572 = .inl (.long, 4, .inr (.inl fun k : Nat => cN (k : Int)))) (hA573 : S.1 573 = .inl (.long, 288, .inr (.inl fun k : Nat => rr (k : Int)))) (hbr : 0 ≤ b ∧ b ≤ 1) (hG : X_Gok G) (htn : 0 ≤ tn ∧ tn ≤ 30) (hTT : ∀ t, 0 ≤ t → t < tn → tT t = gt G t) (hWM : ∀ w, 0 ≤ w → w < gw G → wM (30 * b + w) = gD G w 3 0) (hWH : ∀ w, 0 ≤ w → w < gw G → wH (30 * b + w) = gD G w 4 0) (hEP : ∀ w, 0 ≤ w → w < gw G → ∀ e, 0 ≤ e → e < gD G w 3 0 → eP (8 * (30 * b + w) + e) = gW G w e) (hEH : ∀ w, 0 ≤ w → w < gw G → ∀ e, 0 ≤ e → e < gD G w 3 0 → gW G w e = 0 → eH (8 * (30 * b + w) + e) = gD G w 8 e) (hHK : ∀ w, 0 ≤ w → w < gw G → ∀ h, 0 ≤ h → h < gD G w 4 0 → hK (4 * (30 * b + w) + h) = gD G w 9 h) (hw : 0 ≤ w ∧ w < gw G) (hij : 0 ≤ i ∧ i < j ∧ j ≤ tn) (hCt : R_ct G tn oW oK oH) (hk2 : k2 < (X_T_ G).1 w i j) (hkm : k2 ≤ 9223372036854775807) (hhp : 0 ≤ hp ∧ hp < 60) (hpl : R_pl hp St pF pT pS pH pW pP pQ pN) : X_T sc 189 (0, [(0, .ref 530), (1, .int (iI w)), (2, .int (iI i)), (3, .int (iI j)), (4, .long (iL (k2 : Int))), (6, .int (iI node))], [], S) (fun v S' => ∃ (l1 : Nat) (HF : Int → Int) (HE : Int → Int) (hp1 : Int) (St1 : Int → X_It) (pF1 : Int → Int) (pT1 : Int → Int) (pS1 : Int → Int) (pH1 : Int → Int) (pW1 : Int → Int) (pP1 : Int → Int) (pQ1 : Int → Int) (pN1 : Int → Int64) (cF1 : Int → Int) (cT1 : Int → Int) (cN1 : Int → Int64) (rr1 : Int → Int64), v = none ∧ X_spl G w j (gD G w 3 0).toNat 0 i k2 1 (fun _ => 0) (fun _ => 0) = (l1, HF, HE) ∧ X_pus G w node HF HE (gD G w 4 0).toNat l1 (hp, St) = (hp1, St1) ∧ R_pl hp1 St1 pF1 pT1 pS1 pH1 pW1 pP1 pQ1 pN1 ∧ S'.1 530 = .inr (11, [.ref 531, .int (iI (o 1)), .ref 532, .int (iI (o 3)), .int (iI b), .int (iI (o 5)), .int (iI (o 6)), .int (iI (o 7)), .int (iI (o 8)), .int (iI (o 9)), .int (iI (o 10)), .int (iI (o 11)), .long nm, .ref 533, .ref 534, .ref 535, .ref 536, .ref 537, .ref 538, .ref 539, .ref 540, .ref 541, .ref 542, .ref 543, .ref 544, .ref 545, .ref 546, .ref 547, .int (iI rc), .int (iI (gk G)), .int (iI (gw G)), .int (iI (o 31)), .int (iI (o 32)), .int (iI (o 33)), .ref 548, .ref 549, .ref 550, .ref 551, .int (iI tn), .ref 552, .ref 553, .ref 554, .ref 555, .ref 556, .ref 557, .ref 558, .ref 559, .ref 560, .ref 561, .int (iI (o 49)), .ref 562, .ref 563, .ref 564, .ref 565, .ref 566, .ref 567, .ref 568, .ref 569, .int (iI hp1), .ref 570, .ref 571, .ref 572, .ref 573, .ref 574, .ref 575, .ref 576, .ref 577, .ref 578, .int (iI (o 68)), .int (iI (o 69)), .int (iI (o 70)), .ref 579]) ∧ S'.1 562 = .inl (.int, 160, .inl fun k : Nat => iI (pF1 (k : Int))) ∧ S'.1 563 = .inl (.int, 160, .inl fun k : Nat => iI (pT1 (k : Int))) ∧ S'.1 564 = .inl (.int, 160, .inl fun k : Nat => iI (pS1 (k : Int))) ∧ S'.1 565 = .inl (.int, 160, .inl fun k : Nat => iI (pH1 (k : Int))) ∧ S'.1 566 = .inl (.int, 160, .inl fun k : Nat => iI (pW1 (k : Int))) ∧ S'.1 567 = .inl (.int, 160, .inl fun k : Nat => iI (pP1 (k : Int))) ∧ S'.1 568 = .inl (.int, 160, .inl fun k : Nat => iI (pQ1 (k : Int))) ∧ S'.1 569 = .inl (.long, 160, .inr (.inl fun k : Nat => pN1 (k : Int))) ∧ S'.1 570 = .inl (.int, 4, .inl fun k : Nat => iI (cF1 (k : Int))) ∧ S'.1 571 = .inl (.int, 4, .inl fun k : Nat => iI (cT1 (k : Int))) ∧ S'.1 572 = .inl (.long, 4, .inr (.inl fun k : Nat => cN1 (k : Int))) ∧ S'.1 573 = .inl (.long, 288, .inr (.inl fun k : Nat => rr1 (k : Int))) ∧ (X_Fr (fun q => q = 530 ∨ (562 ≤ q ∧ q ≤ 573)) S S')) := by
  have hgw := hG.2.2.2 w hw.1 hw.2
  have hsz := hgw.1
  have hgh := hgw.2.1
  have hc1 := hG.1
  have hE0 : k2 < 1 * X_Ew G (X_T_ G) w 0 i j := by rw [Nat.one_mul, ← X_T_W hgw.2.2.1 hij.2.1 (by omega)]; exact hk2
  have h4n := hgw.2.2.2.2.2.2.1
  refine X_QI (fun Q hQ => ?_)
  refine T_p xr_189_0 xn_189 (pc' := 2) (ls' := [(0, .ref 530), (1, .int (iI w)), (2, .int (iI i)), (3, .int (iI j)), (4, .long (iL (k2 : Int))), (6, .int (iI node))]) (st' := [.int (iI 30)]) rfl ?_
  refine T_p xr_189_2 xn_189 (pc' := 3) (ls' := [(0, .ref 530), (1, .int (iI w)), (2, .int (iI i)), (3, .int (iI j)), (4, .long (iL (k2 : Int))), (6, .int (iI node))]) (st' := [.ref 530, .int (iI 30)]) rfl ?_
  refine T_get xr_189_3 hO530 rfl (v := .int (iI b)) rfl (pc' := 6) rfl ?_
  refine T_zimul xr_189_6 (z := 30 * b) rfl (pc' := 7) rfl ?_
  refine T_p xr_189_7 xn_189 (pc' := 8) (ls' := [(0, .ref 530), (1, .int (iI w)), (2, .int (iI i)), (3, .int (iI j)), (4, .long (iL (k2 : Int))), (6, .int (iI node))]) (st' := [.int (iI w), .int (iI (30 * b))]) rfl ?_
  refine T_ziadd xr_189_8 (z := (30 * b) + w) rfl (pc' := 9) rfl ?_
  refine T_p xr_189_9 xn_189 (pc' := 11) (ls' := [(7, .int (iI ((30 * b) + w))), (0, .ref 530), (1, .int (iI w)), (2, .int (iI i)), (3, .int (iI j)), (4, .long (iL (k2 : Int))), (6, .int (iI node))]) (st' := []) rfl ?_
  refine T_p xr_189_11 xn_189 (pc' := 12) (ls' := [(7, .int (iI ((30 * b) + w))), (0, .ref 530), (1, .int (iI w)), (2, .int (iI i)), (3, .int (iI j)), (4, .long (iL (k2 : Int))), (6, .int (iI node))]) (st' := [.ref 530]) rfl ?_
  refine T_p xr_189_12 xn_189 (pc' := 13) (ls' := [(7, .int (iI ((30 * b) + w))), (0, .ref 530), (1, .int (iI w)), (2, .int (iI i)), (3, .int (iI j)), (4, .long (iL (k2 : Int))), (6, .int (iI node))]) (st' := [.int (iI w), .ref 530]) rfl ?_
  refine T_p xr_189_13 xn_189 (pc' := 14) (ls' := [(7, .int (iI ((30 * b) + w))), (0, .ref 530), (1, .int (iI w)), (2, .int (iI i)), (3, .int (iI j)), (4, .long (iL (k2 : Int))), (6, .int (iI node))]) (st' := [.int (iI j), .int (iI w), .ref 530]) rfl ?_
  refine T_cv (S := S) (q := 530) xr_189_14 xf_188.1 xf_188.2.1 xn_188 (as := [.int (iI w), .int (iI j)]) (r := []) rfl hO530 (Nat.le_of_ble_eq_true rfl) (Nat.le_of_ble_eq_true rfl) (pc' := 17) rfl (ls' := [(0, .ref 530), (1, .int (iI w)), (2, .int (iI j))]) rfl ?_
  refine T_mono (r_restWays sc S wM eP eH tT oW oK oH rr (X_ou o 58 hp) nm b rc G tn w j hO530 hA540 hA545 hA546 hA548 hA552 hA553 hA554 hA573 (by omega) hG (by omega) hTT hWM hEP hEH (by omega) (by omega) hCt) (fun v1596 S1597 h1598 => ?_)
  rcases h1598 with ⟨rr1599, hv1600, hp1601, ha1602, hf1603⟩
  rw [hv1600]
  have hrr1 := hp1601
  show X_T sc 189 (17, [(7, .int (iI ((30 * b) + w))), (0, .ref 530), (1, .int (iI w)), (2, .int (iI i)), (3, .int (iI j)), (4, .long (iL (k2 : Int))), (6, .int (iI node))], [], S1597) _
  refine T_p xr_189_17 xn_189 (pc' := 19) (ls' := [(7, .int (iI ((30 * b) + w))), (0, .ref 530), (1, .int (iI w)), (2, .int (iI i)), (3, .int (iI j)), (4, .long (iL (k2 : Int))), (6, .int (iI node))]) (st' := [.long (iL (k2 : Int))]) rfl ?_
  refine T_p xr_189_19 xn_189 (pc' := 21) (ls' := [(8, .long (iL (k2 : Int))), (7, .int (iI ((30 * b) + w))), (0, .ref 530), (1, .int (iI w)), (2, .int (iI i)), (3, .int (iI j)), (4, .long (iL (k2 : Int))), (6, .int (iI node))]) (st' := []) rfl ?_
  refine T_p xr_189_21 xn_189 (pc' := 22) (ls' := [(8, .long (iL (k2 : Int))), (7, .int (iI ((30 * b) + w))), (0, .ref 530), (1, .int (iI w)), (2, .int (iI i)), (3, .int (iI j)), (4, .long (iL (k2 : Int))), (6, .int (iI node))]) (st' := [.long (iL 1)]) rfl ?_
  refine T_p xr_189_22 xn_189 (pc' := 24) (ls' := [(10, .long (iL 1)), (8, .long (iL (k2 : Int))), (7, .int (iI ((30 * b) + w))), (0, .ref 530), (1, .int (iI w)), (2, .int (iI i)), (3, .int (iI j)), (4, .long (iL (k2 : Int))), (6, .int (iI node))]) (st' := []) rfl ?_
  refine T_p xr_189_24 xn_189 (pc' := 25) (ls' := [(10, .long (iL 1)), (8, .long (iL (k2 : Int))), (7, .int (iI ((30 * b) + w))), (0, .ref 530), (1, .int (iI w)), (2, .int (iI i)), (3, .int (iI j)), (4, .long (iL (k2 : Int))), (6, .int (iI node))]) (st' := [.int (iI i)]) rfl ?_
  refine T_p xr_189_25 xn_189 (pc' := 27) (ls' := [(12, .int (iI i)), (10, .long (iL 1)), (8, .long (iL (k2 : Int))), (7, .int (iI ((30 * b) + w))), (0, .ref 530), (1, .int (iI w)), (2, .int (iI i)), (3, .int (iI j)), (4, .long (iL (k2 : Int))), (6, .int (iI node))]) (st' := []) rfl ?_
  refine T_p xr_189_27 xn_189 (pc' := 28) (ls' := [(12, .int (iI i)), (10, .long (iL 1)), (8, .long (iL (k2 : Int))), (7, .int (iI ((30 * b) + w))), (0, .ref 530), (1, .int (iI w)), (2, .int (iI i)), (3, .int (iI j)), (4, .long (iL (k2 : Int))), (6, .int (iI node))]) (st' := [.int (iI 0)]) rfl ?_
  refine T_p xr_189_28 xn_189 (pc' := 30) (ls' := [(13, .int (iI 0)), (12, .int (iI i)), (10, .long (iL 1)), (8, .long (iL (k2 : Int))), (7, .int (iI ((30 * b) + w))), (0, .ref 530), (1, .int (iI w)), (2, .int (iI i)), (3, .int (iI j)), (4, .long (iL (k2 : Int))), (6, .int (iI node))]) (st' := []) rfl ?_
  refine T_p xr_189_30 xn_189 (pc' := 31) (ls' := [(13, .int (iI 0)), (12, .int (iI i)), (10, .long (iL 1)), (8, .long (iL (k2 : Int))), (7, .int (iI ((30 * b) + w))), (0, .ref 530), (1, .int (iI w)), (2, .int (iI i)), (3, .int (iI j)), (4, .long (iL (k2 : Int))), (6, .int (iI node))]) (st' := [.int (iI 0)]) rfl ?_
  refine T_p xr_189_31 xn_189 (pc' := 33) (ls' := [(14, .int (iI 0)), (13, .int (iI 0)), (12, .int (iI i)), (10, .long (iL 1)), (8, .long (iL (k2 : Int))), (7, .int (iI ((30 * b) + w))), (0, .ref 530), (1, .int (iI w)), (2, .int (iI i)), (3, .int (iI j)), (4, .long (iL (k2 : Int))), (6, .int (iI node))]) (st' := []) rfl ?_
  have h1609 := (hf1603.1 570 (by omega)).trans (hA570)
  have h1610 := (hf1603.1 571 (by omega)).trans (hA571)
  have h1611 := (hf1603.1 572 (by omega)).trans (hA572)
  have L1604 : ∀ (m1606 : Nat) (S1612 : X_S) (e : Int) (pl : Int) (hc : Int) (l : Nat) (bb : Nat) (HF : Int → Int) (HE : Int → Int) (cFa : Int → Int) (cTa : Int → Int) (cNa : Int → Int64) (hcFa : S1612.1 570 = .inl (.int, 4, .inl fun k : Nat => iI (cFa (k : Int)))) (hcTa : S1612.1 571 = .inl (.int, 4, .inl fun k : Nat => iI (cTa (k : Int)))) (hcNa : S1612.1 572 = .inl (.long, 4, .inr (.inl fun k : Nat => cNa (k : Int)))) (hF1608 : X_Fr (fun q => 570 ≤ q ∧ q ≤ 572) S1597 S1612) (he : 0 ≤ e ∧ e ≤ gD G w 3 0 ∧ i + e ≤ pl ∧ pl ≤ j) (hhc : hc = X_hn (gW G w) e) (hl : l < bb * X_Ew G (X_T_ G) w e pl j) (hlm : l ≤ 9223372036854775807) (hX : X_spl G w j ((gD G w 3 0 - e).toNat) e pl l bb HF HE = X_spl G w j (gD G w 3 0).toNat 0 i k2 1 (fun _ => 0) (fun _ => 0)) (hA : ∀ h, 0 ≤ h → h < X_hn (gW G w) e → cFa h = HF h ∧ cTa h = HE h ∧ cNa h = X_st (-1) (X_Hh G w h (HF h) (HE h))) (hm1607 : gD G w 3 0 - e < m1606), X_T sc 189 (33, [(14, .int (iI e)), (13, .int (iI hc)), (12, .int (iI pl)), (10, .long (X_st (-1) bb)), (8, .long (iL (l : Int))), (7, .int (iI (30 * b + w))), (6, .int (iI node)), (3, .int (iI j)), (2, .int (iI i)), (1, .int (iI w)), (0, .ref 530)], [], S1612) Q := by
    intro m1606
    induction m1606 with
    | zero =>
      intro S1612 e pl hc l bb HF HE cFa cTa cNa hcFa hcTa hcNa hF1608 he hhc hl hlm hX hA hm1607
      exact (show False by omega).elim
    | succ m1606 ih1605 =>
      intro S1612 e pl hc l bb HF HE cFa cTa cNa hcFa hcTa hcNa hF1608 he hhc hl hlm hX hA hm1607
      refine T_p xr_189_33 xn_189 (pc' := 35) (ls' := [(14, .int (iI e)), (13, .int (iI hc)), (12, .int (iI pl)), (10, .long (X_st (-1) bb)), (8, .long (iL (l : Int))), (7, .int (iI (30 * b + w))), (6, .int (iI node)), (3, .int (iI j)), (2, .int (iI i)), (1, .int (iI w)), (0, .ref 530)]) (st' := [.int (iI e)]) rfl ?_
      refine T_p xr_189_35 xn_189 (pc' := 36) (ls' := [(14, .int (iI e)), (13, .int (iI hc)), (12, .int (iI pl)), (10, .long (X_st (-1) bb)), (8, .long (iL (l : Int))), (7, .int (iI (30 * b + w))), (6, .int (iI node)), (3, .int (iI j)), (2, .int (iI i)), (1, .int (iI w)), (0, .ref 530)]) (st' := [.ref 530, .int (iI e)]) rfl ?_
      have h1613 := (hF1608.1 530 (by omega)).trans ((hf1603.1 530 (by omega)).trans (hO530))
      refine T_get xr_189_36 h1613 rfl (v := .ref 540) rfl (pc' := 39) rfl ?_
      refine T_p xr_189_39 xn_189 (pc' := 41) (ls' := [(14, .int (iI e)), (13, .int (iI hc)), (12, .int (iI pl)), (10, .long (X_st (-1) bb)), (8, .long (iL (l : Int))), (7, .int (iI (30 * b + w))), (6, .int (iI node)), (3, .int (iI j)), (2, .int (iI i)), (1, .int (iI w)), (0, .ref 530)]) (st' := [.int (iI (30 * b + w)), .ref 540, .int (iI e)]) rfl ?_
      have h1614 := (hF1608.1 540 (by omega)).trans ((hf1603.1 540 (by omega)).trans (hA540))
      refine T_ziald xr_189_41 h1614 (pc' := 42) rfl ?_
      refine T_ie (y := iI (gD G w 3 0)) (by rw [hWM w hw.1 hw.2]) ?_
      refine T_zicmp_ge xr_189_42 (t := 225) (pc' := 45) rfl rfl (fun c1615 => ?_) (fun c1615 => ?_)
      · skip
        have c1615 : (gD G w 3 0) ≤ e := c1615
        sorry
      · skip
        have c1615 : ¬ ((gD G w 3 0) ≤ e) := c1615
        refine T_p xr_189_45 xn_189 (pc' := 46) (ls' := [(14, .int (iI e)), (13, .int (iI hc)), (12, .int (iI pl)), (10, .long (X_st (-1) bb)), (8, .long (iL (l : Int))), (7, .int (iI (30 * b + w))), (6, .int (iI node)), (3, .int (iI j)), (2, .int (iI i)), (1, .int (iI w)), (0, .ref 530)]) (st' := [.ref 530]) rfl ?_
        refine T_get xr_189_46 h1613 rfl (v := .ref 545) rfl (pc' := 49) rfl ?_
        refine T_p xr_189_49 xn_189 (pc' := 51) (ls' := [(14, .int (iI e)), (13, .int (iI hc)), (12, .int (iI pl)), (10, .long (X_st (-1) bb)), (8, .long (iL (l : Int))), (7, .int (iI (30 * b + w))), (6, .int (iI node)), (3, .int (iI j)), (2, .int (iI i)), (1, .int (iI w)), (0, .ref 530)]) (st' := [.int (iI 8), .ref 545]) rfl ?_
        refine T_p xr_189_51 xn_189 (pc' := 53) (ls' := [(14, .int (iI e)), (13, .int (iI hc)), (12, .int (iI pl)), (10, .long (X_st (-1) bb)), (8, .long (iL (l : Int))), (7, .int (iI (30 * b + w))), (6, .int (iI node)), (3, .int (iI j)), (2, .int (iI i)), (1, .int (iI w)), (0, .ref 530)]) (st' := [.int (iI (30 * b + w)), .int (iI 8), .ref 545]) rfl ?_
        refine T_zimul xr_189_53 (z := 8 * (30 * b + w)) rfl (pc' := 54) rfl ?_
        refine T_p xr_189_54 xn_189 (pc' := 56) (ls' := [(14, .int (iI e)), (13, .int (iI hc)), (12, .int (iI pl)), (10, .long (X_st (-1) bb)), (8, .long (iL (l : Int))), (7, .int (iI (30 * b + w))), (6, .int (iI node)), (3, .int (iI j)), (2, .int (iI i)), (1, .int (iI w)), (0, .ref 530)]) (st' := [.int (iI e), .int (iI (8 * (30 * b + w))), .ref 545]) rfl ?_
        refine T_ziadd xr_189_56 (z := (8 * (30 * b + w)) + e) rfl (pc' := 57) rfl ?_
        have h1616 := (hF1608.1 545 (by omega)).trans ((hf1603.1 545 (by omega)).trans (hA545))
        refine T_zlald xr_189_57 h1616 (pc' := 58) rfl ?_
        refine T_le (y := (gW G w e)) (by rw [← hEP w hw.1 hw.2 e (by omega) (by omega)]) ?_
        refine T_p xr_189_58 xn_189 (pc' := 59) (ls' := [(14, .int (iI e)), (13, .int (iI hc)), (12, .int (iI pl)), (10, .long (X_st (-1) bb)), (8, .long (iL (l : Int))), (7, .int (iI (30 * b + w))), (6, .int (iI node)), (3, .int (iI j)), (2, .int (iI i)), (1, .int (iI w)), (0, .ref 530)]) (st' := [.long (iL 0), .long (gW G w e)]) rfl ?_
        refine T_lc_eq xr_189_59 xr_189_60 (t := 69) (pc' := 63) rfl rfl (fun c1617 => ?_) (fun c1617 => ?_)
        · skip
          have c1617 : (gW G w e) = (iL 0) := c1617
          have hq0 : gW G w e = 0 := by first | assumption | exact Classical.not_not.mp (by assumption)
          have hh8 := hgw.hole (show 0 ≤ e by omega) (show e < gD G w 3 0 by omega) hq0
          have hX0 := hX
          rw [show (gD G w 3 0 - e).toNat = (gD G w 3 0 - (e + 1)).toNat + 1 by omega] at hX0
          have hs1 := X_hn_s (q := gW G w) (e := e) (show 0 ≤ e by omega)
          rw [if_pos hq0] at hs1
          have h8e := hgw.2.2.2.2.2.2.2.1 e (by omega) (by omega) hq0
          have hSE := X_sF_e (b := bb) (p := pl) (j := j) (show e < gD G w 3 0 by omega) hq0
          refine T_p xr_189_69 xn_189 (pc' := 71) (ls' := [(14, .int (iI e)), (13, .int (iI hc)), (12, .int (iI pl)), (10, .long (X_st (-1) bb)), (8, .long (iL (l : Int))), (7, .int (iI (30 * b + w))), (6, .int (iI node)), (3, .int (iI j)), (2, .int (iI i)), (1, .int (iI w)), (0, .ref 530)]) (st' := [.int (iI pl)]) rfl ?_
          refine T_p xr_189_71 xn_189 (pc' := 73) (ls' := [(15, .int (iI pl)), (14, .int (iI e)), (13, .int (iI hc)), (12, .int (iI pl)), (10, .long (X_st (-1) bb)), (8, .long (iL (l : Int))), (7, .int (iI (30 * b + w))), (6, .int (iI node)), (3, .int (iI j)), (2, .int (iI i)), (1, .int (iI w)), (0, .ref 530)]) (st' := []) rfl ?_
          refine T_p xr_189_73 xn_189 (pc' := 74) (ls' := [(15, .int (iI pl)), (14, .int (iI e)), (13, .int (iI hc)), (12, .int (iI pl)), (10, .long (X_st (-1) bb)), (8, .long (iL (l : Int))), (7, .int (iI (30 * b + w))), (6, .int (iI node)), (3, .int (iI j)), (2, .int (iI i)), (1, .int (iI w)), (0, .ref 530)]) (st' := [.int (iI 0)]) rfl ?_
          refine T_p xr_189_74 xn_189 (pc' := 76) (ls' := [(16, .int (iI 0)), (15, .int (iI pl)), (14, .int (iI e)), (13, .int (iI hc)), (12, .int (iI pl)), (10, .long (X_st (-1) bb)), (8, .long (iL (l : Int))), (7, .int (iI (30 * b + w))), (6, .int (iI node)), (3, .int (iI j)), (2, .int (iI i)), (1, .int (iI w)), (0, .ref 530)]) (st' := []) rfl ?_
          refine T_p xr_189_76 xn_189 (pc' := 77) (ls' := [(16, .int (iI 0)), (15, .int (iI pl)), (14, .int (iI e)), (13, .int (iI hc)), (12, .int (iI pl)), (10, .long (X_st (-1) bb)), (8, .long (iL (l : Int))), (7, .int (iI (30 * b + w))), (6, .int (iI node)), (3, .int (iI j)), (2, .int (iI i)), (1, .int (iI w)), (0, .ref 530)]) (st' := [.long (iL 0)]) rfl ?_
          refine T_p xr_189_77 xn_189 (pc' := 79) (ls' := [(17, .long (iL 0)), (16, .int (iI 0)), (15, .int (iI pl)), (14, .int (iI e)), (13, .int (iI hc)), (12, .int (iI pl)), (10, .long (X_st (-1) bb)), (8, .long (iL (l : Int))), (7, .int (iI (30 * b + w))), (6, .int (iI node)), (3, .int (iI j)), (2, .int (iI i)), (1, .int (iI w)), (0, .ref 530)]) (st' := []) rfl ?_
          have L1618 : ∀ (m1620 : Nat) (m : Int) (fd : Int) (c17 : Int64) (l2 : Nat) (hm : pl ≤ m ∧ m ≤ j) (hl2m : l2 ≤ 9223372036854775807) (hfd : (fd = 0 ∧ l = X_Su (X_sF G w e pl j bb) (pl + 1) (m + 1) + l2) ∨ (fd = 1 ∧ pl < m ∧ l = X_Su (X_sF G w e pl j bb) (pl + 1) m + l2 ∧ l2 < X_sF G w e pl j bb m ∧ c17 = X_st (-1) (X_Hw G (X_T_ G) w e pl m))) (hm1621 : j + 1 - m < m1620), X_T sc 189 (79, [(17, .long c17), (16, .int (iI fd)), (15, .int (iI m)), (14, .int (iI e)), (13, .int (iI hc)), (12, .int (iI pl)), (10, .long (X_st (-1) bb)), (8, .long (iL (l2 : Int))), (7, .int (iI (30 * b + w))), (6, .int (iI node)), (3, .int (iI j)), (2, .int (iI i)), (1, .int (iI w)), (0, .ref 530)], [], S1612) Q := by
            intro m1620
            induction m1620 with
            | zero =>
              intro m fd c17 l2 hm hl2m hfd hm1621
              exact (show False by omega).elim
            | succ m1620 ih1619 =>
              intro m fd c17 l2 hm hl2m hfd hm1621
              refine T_p xr_189_79 xn_189 (pc' := 81) (ls' := [(17, .long c17), (16, .int (iI fd)), (15, .int (iI m)), (14, .int (iI e)), (13, .int (iI hc)), (12, .int (iI pl)), (10, .long (X_st (-1) bb)), (8, .long (iL (l2 : Int))), (7, .int (iI (30 * b + w))), (6, .int (iI node)), (3, .int (iI j)), (2, .int (iI i)), (1, .int (iI w)), (0, .ref 530)]) (st' := [.int (iI fd)]) rfl ?_
              refine T_zif_ne xr_189_81 (t := 176) (pc' := 84) rfl rfl (fun c1623 => ?_) (fun c1623 => ?_)
              · skip
                have c1623 : ¬ fd = 0 := c1623
                have hf1 : pl < m ∧ l = X_Su (X_sF G w e pl j bb) (pl + 1) m + l2 ∧ l2 < X_sF G w e pl j bb m ∧ c17 = X_st (-1) (X_Hw G (X_T_ G) w e pl m) := by
                  rcases hfd with h | h
                  · exact absurd h.1 (by omega)
                  · exact h.2
                have hfd2 := X_sp_u ⟨hf1.1, hm.2⟩ hf1.2.1 hf1.2.2.1
                rw [X_spl_h hq0 hfd2] at hX0
                refine T_p xr_189_176 xn_189 (pc' := 177) (ls' := [(17, .long c17), (16, .int (iI fd)), (15, .int (iI m)), (14, .int (iI e)), (13, .int (iI hc)), (12, .int (iI pl)), (10, .long (X_st (-1) bb)), (8, .long (iL (l2 : Int))), (7, .int (iI (30 * b + w))), (6, .int (iI node)), (3, .int (iI j)), (2, .int (iI i)), (1, .int (iI w)), (0, .ref 530)]) (st' := [.ref 530]) rfl ?_
                refine T_get xr_189_177 h1613 rfl (v := .ref 570) rfl (pc' := 180) rfl ?_
                refine T_p xr_189_180 xn_189 (pc' := 182) (ls' := [(17, .long c17), (16, .int (iI fd)), (15, .int (iI m)), (14, .int (iI e)), (13, .int (iI hc)), (12, .int (iI pl)), (10, .long (X_st (-1) bb)), (8, .long (iL (l2 : Int))), (7, .int (iI (30 * b + w))), (6, .int (iI node)), (3, .int (iI j)), (2, .int (iI i)), (1, .int (iI w)), (0, .ref 530)]) (st' := [.int (iI hc), .ref 570]) rfl ?_
                refine T_p xr_189_182 xn_189 (pc' := 184) (ls' := [(17, .long c17), (16, .int (iI fd)), (15, .int (iI m)), (14, .int (iI e)), (13, .int (iI hc)), (12, .int (iI pl)), (10, .long (X_st (-1) bb)), (8, .long (iL (l2 : Int))), (7, .int (iI (30 * b + w))), (6, .int (iI node)), (3, .int (iI j)), (2, .int (iI i)), (1, .int (iI w)), (0, .ref 530)]) (st' := [.int (iI pl), .int (iI hc), .ref 570]) rfl ?_
                refine T_ziast xr_189_184 hcFa (pc' := 185) rfl (fun S1624 h1625 n1626 e1627 => ?_)
                refine T_p xr_189_185 xn_189 (pc' := 186) (ls' := [(17, .long c17), (16, .int (iI fd)), (15, .int (iI m)), (14, .int (iI e)), (13, .int (iI hc)), (12, .int (iI pl)), (10, .long (X_st (-1) bb)), (8, .long (iL (l2 : Int))), (7, .int (iI (30 * b + w))), (6, .int (iI node)), (3, .int (iI j)), (2, .int (iI i)), (1, .int (iI w)), (0, .ref 530)]) (st' := [.ref 530]) rfl ?_
                have h1628 := (n1626 530 (by decide)).trans (h1613)
                refine T_get xr_189_186 h1628 rfl (v := .ref 571) rfl (pc' := 189) rfl ?_
                refine T_p xr_189_189 xn_189 (pc' := 191) (ls' := [(17, .long c17), (16, .int (iI fd)), (15, .int (iI m)), (14, .int (iI e)), (13, .int (iI hc)), (12, .int (iI pl)), (10, .long (X_st (-1) bb)), (8, .long (iL (l2 : Int))), (7, .int (iI (30 * b + w))), (6, .int (iI node)), (3, .int (iI j)), (2, .int (iI i)), (1, .int (iI w)), (0, .ref 530)]) (st' := [.int (iI hc), .ref 571]) rfl ?_
                refine T_p xr_189_191 xn_189 (pc' := 193) (ls' := [(17, .long c17), (16, .int (iI fd)), (15, .int (iI m)), (14, .int (iI e)), (13, .int (iI hc)), (12, .int (iI pl)), (10, .long (X_st (-1) bb)), (8, .long (iL (l2 : Int))), (7, .int (iI (30 * b + w))), (6, .int (iI node)), (3, .int (iI j)), (2, .int (iI i)), (1, .int (iI w)), (0, .ref 530)]) (st' := [.int (iI m), .int (iI hc), .ref 571]) rfl ?_
                have h1629 := (n1626 571 (by decide)).trans (hcTa)
                refine T_ziast xr_189_193 h1629 (pc' := 194) rfl (fun S1630 h1631 n1632 e1633 => ?_)
                refine T_p xr_189_194 xn_189 (pc' := 195) (ls' := [(17, .long c17), (16, .int (iI fd)), (15, .int (iI m)), (14, .int (iI e)), (13, .int (iI hc)), (12, .int (iI pl)), (10, .long (X_st (-1) bb)), (8, .long (iL (l2 : Int))), (7, .int (iI (30 * b + w))), (6, .int (iI node)), (3, .int (iI j)), (2, .int (iI i)), (1, .int (iI w)), (0, .ref 530)]) (st' := [.ref 530]) rfl ?_
                have h1634 := (n1632 530 (by decide)).trans (h1628)
                refine T_get xr_189_195 h1634 rfl (v := .ref 572) rfl (pc' := 198) rfl ?_
                refine T_p xr_189_198 xn_189 (pc' := 200) (ls' := [(17, .long c17), (16, .int (iI fd)), (15, .int (iI m)), (14, .int (iI e)), (13, .int (iI hc)), (12, .int (iI pl)), (10, .long (X_st (-1) bb)), (8, .long (iL (l2 : Int))), (7, .int (iI (30 * b + w))), (6, .int (iI node)), (3, .int (iI j)), (2, .int (iI i)), (1, .int (iI w)), (0, .ref 530)]) (st' := [.int (iI hc), .ref 572]) rfl ?_
                refine T_p xr_189_200 xn_189 (pc' := 202) (ls' := [(17, .long c17), (16, .int (iI fd)), (15, .int (iI m)), (14, .int (iI e)), (13, .int (iI hc)), (12, .int (iI pl)), (10, .long (X_st (-1) bb)), (8, .long (iL (l2 : Int))), (7, .int (iI (30 * b + w))), (6, .int (iI node)), (3, .int (iI j)), (2, .int (iI i)), (1, .int (iI w)), (0, .ref 530)]) (st' := [.long c17, .int (iI hc), .ref 572]) rfl ?_
                refine T_le (y := (X_st (-1) (X_Hw G (X_T_ G) w e pl m))) hf1.2.2.2 ?_
                have h1635 := (n1632 572 (by decide)).trans ((n1626 572 (by decide)).trans (hcNa))
                refine T_zlast xr_189_202 h1635 (pc' := 203) rfl (fun S1636 h1637 n1638 e1639 => ?_)
                refine T_p xr_189_203 xn_189 (pc' := 205) (ls' := [(17, .long c17), (16, .int (iI fd)), (15, .int (iI m)), (14, .int (iI e)), (13, .int (iI hc)), (12, .int (iI pl)), (10, .long (X_st (-1) bb)), (8, .long (iL (l2 : Int))), (7, .int (iI (30 * b + w))), (6, .int (iI node)), (3, .int (iI j)), (2, .int (iI i)), (1, .int (iI w)), (0, .ref 530)]) (st' := [.long (X_st (-1) bb)]) rfl ?_
                refine T_p xr_189_205 xn_189 (pc' := 207) (ls' := [(17, .long c17), (16, .int (iI fd)), (15, .int (iI m)), (14, .int (iI e)), (13, .int (iI hc)), (12, .int (iI pl)), (10, .long (X_st (-1) bb)), (8, .long (iL (l2 : Int))), (7, .int (iI (30 * b + w))), (6, .int (iI node)), (3, .int (iI j)), (2, .int (iI i)), (1, .int (iI w)), (0, .ref 530)]) (st' := [.long c17, .long (X_st (-1) bb)]) rfl ?_
                refine T_le (y := (X_st (-1) (X_Hw G (X_T_ G) w e pl m))) hf1.2.2.2 ?_
                refine T_cs xr_189_207 (by decide) xf_172.1 xn_172 (as := [.long (X_st (-1) bb), .long (X_st (-1) (X_Hw G (X_T_ G) w e pl m))]) (r := []) rfl (Nat.le_of_ble_eq_true rfl) (Nat.le_of_ble_eq_true rfl) (pc' := 210) rfl (ls' := [(0, .long (X_st (-1) bb)), (2, .long (X_st (-1) (X_Hw G (X_T_ G) w e pl m)))]) rfl ?_
                refine T_mono (r_product sc S1636 bb (X_Hw G (X_T_ G) w e pl m)) (fun v1640 S1641 h1642 => ?_)
                rcases h1642 with ⟨hv1643, hf1644⟩
                rw [hv1643]
                rw [hf1644]
                show X_T sc 189 (210, [(17, .long c17), (16, .int (iI fd)), (15, .int (iI m)), (14, .int (iI e)), (13, .int (iI hc)), (12, .int (iI pl)), (10, .long (X_st (-1) bb)), (8, .long (iL (l2 : Int))), (7, .int (iI (30 * b + w))), (6, .int (iI node)), (3, .int (iI j)), (2, .int (iI i)), (1, .int (iI w)), (0, .ref 530)], [.long (X_st (-1) (bb * (X_Hw G (X_T_ G) w e pl m)))], S1636) _
                refine T_p xr_189_210 xn_189 (pc' := 212) (ls' := [(10, .long (X_st (-1) (bb * (X_Hw G (X_T_ G) w e pl m)))), (17, .long c17), (16, .int (iI fd)), (15, .int (iI m)), (14, .int (iI e)), (13, .int (iI hc)), (12, .int (iI pl)), (8, .long (iL (l2 : Int))), (7, .int (iI (30 * b + w))), (6, .int (iI node)), (3, .int (iI j)), (2, .int (iI i)), (1, .int (iI w)), (0, .ref 530)]) (st' := []) rfl ?_
                refine T_p xr_189_212 xn_189 (pc' := 214) (ls' := [(10, .long (X_st (-1) (bb * (X_Hw G (X_T_ G) w e pl m)))), (17, .long c17), (16, .int (iI fd)), (15, .int (iI m)), (14, .int (iI e)), (13, .int (iI hc)), (12, .int (iI pl)), (8, .long (iL (l2 : Int))), (7, .int (iI (30 * b + w))), (6, .int (iI node)), (3, .int (iI j)), (2, .int (iI i)), (1, .int (iI w)), (0, .ref 530)]) (st' := [.int (iI m)]) rfl ?_
                refine T_p xr_189_214 xn_189 (pc' := 216) (ls' := [(12, .int (iI m)), (10, .long (X_st (-1) (bb * (X_Hw G (X_T_ G) w e pl m)))), (17, .long c17), (16, .int (iI fd)), (15, .int (iI m)), (14, .int (iI e)), (13, .int (iI hc)), (8, .long (iL (l2 : Int))), (7, .int (iI (30 * b + w))), (6, .int (iI node)), (3, .int (iI j)), (2, .int (iI i)), (1, .int (iI w)), (0, .ref 530)]) (st' := []) rfl ?_
                refine T_ziinc xr_189_216 xn_189 (a := hc) (z := hc + 1) rfl (Nat.le_of_ble_eq_true rfl) (by omega) (ls' := [(13, .int (iI (hc + 1))), (12, .int (iI m)), (10, .long (X_st (-1) (bb * (X_Hw G (X_T_ G) w e pl m)))), (17, .long c17), (16, .int (iI fd)), (15, .int (iI m)), (14, .int (iI e)), (8, .long (iL (l2 : Int))), (7, .int (iI (30 * b + w))), (6, .int (iI node)), (3, .int (iI j)), (2, .int (iI i)), (1, .int (iI w)), (0, .ref 530)]) rfl (pc' := 219) rfl ?_
                refine T_ziinc xr_189_219 xn_189 (a := e) (z := e + 1) rfl (Nat.le_of_ble_eq_true rfl) (by omega) (ls' := [(14, .int (iI (e + 1))), (13, .int (iI (hc + 1))), (12, .int (iI m)), (10, .long (X_st (-1) (bb * (X_Hw G (X_T_ G) w e pl m)))), (17, .long c17), (16, .int (iI fd)), (15, .int (iI m)), (8, .long (iL (l2 : Int))), (7, .int (iI (30 * b + w))), (6, .int (iI node)), (3, .int (iI j)), (2, .int (iI i)), (1, .int (iI w)), (0, .ref 530)]) rfl (pc' := 222) rfl ?_
                refine T_p xr_189_222 xn_189 (pc' := 33) (ls' := [(14, .int (iI (e + 1))), (13, .int (iI (hc + 1))), (12, .int (iI m)), (10, .long (X_st (-1) (bb * (X_Hw G (X_T_ G) w e pl m)))), (17, .long c17), (16, .int (iI fd)), (15, .int (iI m)), (8, .long (iL (l2 : Int))), (7, .int (iI (30 * b + w))), (6, .int (iI node)), (3, .int (iI j)), (2, .int (iI i)), (1, .int (iI w)), (0, .ref 530)]) (st' := []) rfl ?_
                have h1645 := (n1638 570 (by decide)).trans ((n1632 570 (by decide)).trans (h1625))
                have h1646 := (n1638 571 (by decide)).trans (h1631)
                refine T_sub (ls := [(14, .int (iI (e + 1))), (13, .int (iI (hc + 1))), (12, .int (iI m)), (10, .long (X_st (-1) (bb * (X_Hw G (X_T_ G) w e pl m)))), (8, .long (iL (l2 : Int))), (7, .int (iI (30 * b + w))), (6, .int (iI node)), (3, .int (iI j)), (2, .int (iI i)), (1, .int (iI w)), (0, .ref 530)]) ⟨rfl, rfl, rfl, rfl, rfl, rfl, rfl, rfl, rfl, rfl, rfl, trivial⟩ rfl rfl ?_
                exact ih1605 S1636 (e + 1) m (hc + 1) l2 (bb * (X_Hw G (X_T_ G) w e pl m)) (X_ug HF (gD G w 8 e) pl) (X_ug HE (gD G w 8 e) m) (X_ug cFa hc pl) (X_ug cTa hc m) (X_ug cNa hc (X_st (-1) (X_Hw G (X_T_ G) w e pl m))) h1645 h1646 h1637 (hF1608.tr ((((X_Fr.rf).tr (X_Fr.of n1626 e1627 (by omega))).tr (X_Fr.of n1632 e1633 (by omega))).tr (X_Fr.of n1638 e1639 (by omega)))) (by omega) (by omega) hf1.2.2.1 hl2m hX0 (fun h h1 h2 => by
                      by_cases hh : h = gD G w 8 e
                      · subst hh
                        rw [hhc, ← h8e]; simp only [X_ug_s]
                        exact ⟨trivial, trivial, by rw [X_Hw_h hgw (by omega) (by omega) hq0]⟩
                      · have hh2 : ¬ h = hc := by omega
                        simp only [X_ug_n _ _ hh, X_ug_n _ _ hh2]; exact hA h h1 (by omega)) (by omega)
              · skip
                have c1623 : ¬ (¬ fd = 0) := c1623
                have hmj : m < j ∧ l = X_Su (X_sF G w e pl j bb) (pl + 1) (m + 1) + l2 := by
                  rcases hfd with h | h
                  · refine ⟨?_, h.2⟩
                    by_cases hj : m = j
                    · rw [hj, hSE] at h; omega
                    · omega
                  · exact absurd h.1 (by omega)
                refine T_ziinc xr_189_84 xn_189 (a := m) (z := m + 1) rfl (Nat.le_of_ble_eq_true rfl) (by omega) (ls' := [(15, .int (iI (m + 1))), (17, .long c17), (16, .int (iI fd)), (14, .int (iI e)), (13, .int (iI hc)), (12, .int (iI pl)), (10, .long (X_st (-1) bb)), (8, .long (iL (l2 : Int))), (7, .int (iI (30 * b + w))), (6, .int (iI node)), (3, .int (iI j)), (2, .int (iI i)), (1, .int (iI w)), (0, .ref 530)]) rfl (pc' := 87) rfl ?_
                refine T_p xr_189_87 xn_189 (pc' := 88) (ls' := [(15, .int (iI (m + 1))), (17, .long c17), (16, .int (iI fd)), (14, .int (iI e)), (13, .int (iI hc)), (12, .int (iI pl)), (10, .long (X_st (-1) bb)), (8, .long (iL (l2 : Int))), (7, .int (iI (30 * b + w))), (6, .int (iI node)), (3, .int (iI j)), (2, .int (iI i)), (1, .int (iI w)), (0, .ref 530)]) (st' := [.ref 530]) rfl ?_
                refine T_get xr_189_88 h1613 rfl (v := .ref 554) rfl (pc' := 91) rfl ?_
                refine T_p xr_189_91 xn_189 (pc' := 94) (ls' := [(15, .int (iI (m + 1))), (17, .long c17), (16, .int (iI fd)), (14, .int (iI e)), (13, .int (iI hc)), (12, .int (iI pl)), (10, .long (X_st (-1) bb)), (8, .long (iL (l2 : Int))), (7, .int (iI (30 * b + w))), (6, .int (iI node)), (3, .int (iI j)), (2, .int (iI i)), (1, .int (iI w)), (0, .ref 530)]) (st' := [.int (iI 961), .ref 554]) rfl ?_
                refine T_p xr_189_94 xn_189 (pc' := 95) (ls' := [(15, .int (iI (m + 1))), (17, .long c17), (16, .int (iI fd)), (14, .int (iI e)), (13, .int (iI hc)), (12, .int (iI pl)), (10, .long (X_st (-1) bb)), (8, .long (iL (l2 : Int))), (7, .int (iI (30 * b + w))), (6, .int (iI node)), (3, .int (iI j)), (2, .int (iI i)), (1, .int (iI w)), (0, .ref 530)]) (st' := [.int (iI 4), .int (iI 961), .ref 554]) rfl ?_
                refine T_p xr_189_95 xn_189 (pc' := 96) (ls' := [(15, .int (iI (m + 1))), (17, .long c17), (16, .int (iI fd)), (14, .int (iI e)), (13, .int (iI hc)), (12, .int (iI pl)), (10, .long (X_st (-1) bb)), (8, .long (iL (l2 : Int))), (7, .int (iI (30 * b + w))), (6, .int (iI node)), (3, .int (iI j)), (2, .int (iI i)), (1, .int (iI w)), (0, .ref 530)]) (st' := [.int (iI w), .int (iI 4), .int (iI 961), .ref 554]) rfl ?_
                refine T_zimul xr_189_96 (z := 4 * w) rfl (pc' := 97) rfl ?_
                refine T_p xr_189_97 xn_189 (pc' := 99) (ls' := [(15, .int (iI (m + 1))), (17, .long c17), (16, .int (iI fd)), (14, .int (iI e)), (13, .int (iI hc)), (12, .int (iI pl)), (10, .long (X_st (-1) bb)), (8, .long (iL (l2 : Int))), (7, .int (iI (30 * b + w))), (6, .int (iI node)), (3, .int (iI j)), (2, .int (iI i)), (1, .int (iI w)), (0, .ref 530)]) (st' := [.int (iI hc), .int (iI (4 * w)), .int (iI 961), .ref 554]) rfl ?_
                refine T_ie (y := iI (gD G w 8 e)) (by rw [hhc, h8e]) ?_
                refine T_ziadd xr_189_99 (z := (4 * w) + (gD G w 8 e)) rfl (pc' := 100) rfl ?_
                refine T_zimul xr_189_100 (z := 961 * ((4 * w) + (gD G w 8 e))) rfl (pc' := 101) rfl ?_
                refine T_p xr_189_101 xn_189 (pc' := 103) (ls' := [(15, .int (iI (m + 1))), (17, .long c17), (16, .int (iI fd)), (14, .int (iI e)), (13, .int (iI hc)), (12, .int (iI pl)), (10, .long (X_st (-1) bb)), (8, .long (iL (l2 : Int))), (7, .int (iI (30 * b + w))), (6, .int (iI node)), (3, .int (iI j)), (2, .int (iI i)), (1, .int (iI w)), (0, .ref 530)]) (st' := [.int (iI pl), .int (iI (961 * ((4 * w) + (gD G w 8 e)))), .ref 554]) rfl ?_
                refine T_p xr_189_103 xn_189 (pc' := 105) (ls' := [(15, .int (iI (m + 1))), (17, .long c17), (16, .int (iI fd)), (14, .int (iI e)), (13, .int (iI hc)), (12, .int (iI pl)), (10, .long (X_st (-1) bb)), (8, .long (iL (l2 : Int))), (7, .int (iI (30 * b + w))), (6, .int (iI node)), (3, .int (iI j)), (2, .int (iI i)), (1, .int (iI w)), (0, .ref 530)]) (st' := [.int (iI (m + 1)), .int (iI pl), .int (iI (961 * ((4 * w) + (gD G w 8 e)))), .ref 554]) rfl ?_
                refine T_cs xr_189_105 (by decide) xf_173.1 xn_173 (as := [.int (iI pl), .int (iI (m + 1))]) (r := [.int (iI (961 * ((4 * w) + (gD G w 8 e)))), .ref 554]) rfl (Nat.le_of_ble_eq_true rfl) (Nat.le_of_ble_eq_true rfl) (pc' := 108) rfl (ls' := [(0, .int (iI pl)), (1, .int (iI (m + 1)))]) rfl ?_
                refine T_p xr_173_0 xn_173 (pc' := 2) (ls' := [(0, .int (iI pl)), (1, .int (iI (m + 1)))]) (st' := [.int (iI 31)]) rfl ?_
                refine T_p xr_173_2 xn_173 (pc' := 3) (ls' := [(0, .int (iI pl)), (1, .int (iI (m + 1)))]) (st' := [.int (iI pl), .int (iI 31)]) rfl ?_
                refine T_zimul xr_173_3 (z := 31 * pl) rfl (pc' := 4) rfl ?_
                refine T_p xr_173_4 xn_173 (pc' := 5) (ls' := [(0, .int (iI pl)), (1, .int (iI (m + 1)))]) (st' := [.int (iI (m + 1)), .int (iI (31 * pl))]) rfl ?_
                refine T_ziadd xr_173_5 (z := (31 * pl) + (m + 1)) rfl (pc' := 6) rfl ?_
                refine T_iret xr_173_6 xf_173.2.2 rfl ?_
                show X_T sc 189 (108, [(15, .int (iI (m + 1))), (17, .long c17), (16, .int (iI fd)), (14, .int (iI e)), (13, .int (iI hc)), (12, .int (iI pl)), (10, .long (X_st (-1) bb)), (8, .long (iL (l2 : Int))), (7, .int (iI (30 * b + w))), (6, .int (iI node)), (3, .int (iI j)), (2, .int (iI i)), (1, .int (iI w)), (0, .ref 530)], [.int (iI ((31 * pl) + (m + 1))), .int (iI (961 * ((4 * w) + (gD G w 8 e)))), .ref 554], S1612) _
                refine T_ziadd xr_189_108 (z := (961 * ((4 * w) + (gD G w 8 e))) + ((31 * pl) + (m + 1))) rfl (pc' := 109) rfl ?_
                have h1647 := (hF1608.1 554 (by omega)).trans ((hf1603.1 554 (by omega)).trans (hA554))
                refine T_zlald xr_189_109 h1647 (pc' := 110) rfl ?_
                refine T_le (y := (X_st (-1) (X_Hw G (X_T_ G) w e pl (m + 1)))) (by
                        have hr := (hCt pl (m + 1) (by omega) (by omega) (by omega)).2.2 w (by omega) (by omega) (gD G w 8 e) hh8.1 hh8.2
                        rw [h8e] at hr ⊢
                        rw [hr, ← h8e, X_Hw_h hgw (by omega) (by omega) hq0]) ?_
                refine T_p xr_189_110 xn_189 (pc' := 112) (ls' := [(17, .long (X_st (-1) (X_Hw G (X_T_ G) w e pl (m + 1)))), (15, .int (iI (m + 1))), (16, .int (iI fd)), (14, .int (iI e)), (13, .int (iI hc)), (12, .int (iI pl)), (10, .long (X_st (-1) bb)), (8, .long (iL (l2 : Int))), (7, .int (iI (30 * b + w))), (6, .int (iI node)), (3, .int (iI j)), (2, .int (iI i)), (1, .int (iI w)), (0, .ref 530)]) (st' := []) rfl ?_
                refine T_p xr_189_112 xn_189 (pc' := 114) (ls' := [(17, .long (X_st (-1) (X_Hw G (X_T_ G) w e pl (m + 1)))), (15, .int (iI (m + 1))), (16, .int (iI fd)), (14, .int (iI e)), (13, .int (iI hc)), (12, .int (iI pl)), (10, .long (X_st (-1) bb)), (8, .long (iL (l2 : Int))), (7, .int (iI (30 * b + w))), (6, .int (iI node)), (3, .int (iI j)), (2, .int (iI i)), (1, .int (iI w)), (0, .ref 530)]) (st' := [.long (X_st (-1) bb)]) rfl ?_
                refine T_p xr_189_114 xn_189 (pc' := 116) (ls' := [(17, .long (X_st (-1) (X_Hw G (X_T_ G) w e pl (m + 1)))), (15, .int (iI (m + 1))), (16, .int (iI fd)), (14, .int (iI e)), (13, .int (iI hc)), (12, .int (iI pl)), (10, .long (X_st (-1) bb)), (8, .long (iL (l2 : Int))), (7, .int (iI (30 * b + w))), (6, .int (iI node)), (3, .int (iI j)), (2, .int (iI i)), (1, .int (iI w)), (0, .ref 530)]) (st' := [.long (X_st (-1) (X_Hw G (X_T_ G) w e pl (m + 1))), .long (X_st (-1) bb)]) rfl ?_
                refine T_p xr_189_116 xn_189 (pc' := 117) (ls' := [(17, .long (X_st (-1) (X_Hw G (X_T_ G) w e pl (m + 1)))), (15, .int (iI (m + 1))), (16, .int (iI fd)), (14, .int (iI e)), (13, .int (iI hc)), (12, .int (iI pl)), (10, .long (X_st (-1) bb)), (8, .long (iL (l2 : Int))), (7, .int (iI (30 * b + w))), (6, .int (iI node)), (3, .int (iI j)), (2, .int (iI i)), (1, .int (iI w)), (0, .ref 530)]) (st' := [.ref 530, .long (X_st (-1) (X_Hw G (X_T_ G) w e pl (m + 1))), .long (X_st (-1) bb)]) rfl ?_
                refine T_get xr_189_117 h1613 rfl (v := .ref 573) rfl (pc' := 120) rfl ?_
                refine T_p xr_189_120 xn_189 (pc' := 122) (ls' := [(17, .long (X_st (-1) (X_Hw G (X_T_ G) w e pl (m + 1)))), (15, .int (iI (m + 1))), (16, .int (iI fd)), (14, .int (iI e)), (13, .int (iI hc)), (12, .int (iI pl)), (10, .long (X_st (-1) bb)), (8, .long (iL (l2 : Int))), (7, .int (iI (30 * b + w))), (6, .int (iI node)), (3, .int (iI j)), (2, .int (iI i)), (1, .int (iI w)), (0, .ref 530)]) (st' := [.int (iI 32), .ref 573, .long (X_st (-1) (X_Hw G (X_T_ G) w e pl (m + 1))), .long (X_st (-1) bb)]) rfl ?_
                refine T_p xr_189_122 xn_189 (pc' := 124) (ls' := [(17, .long (X_st (-1) (X_Hw G (X_T_ G) w e pl (m + 1)))), (15, .int (iI (m + 1))), (16, .int (iI fd)), (14, .int (iI e)), (13, .int (iI hc)), (12, .int (iI pl)), (10, .long (X_st (-1) bb)), (8, .long (iL (l2 : Int))), (7, .int (iI (30 * b + w))), (6, .int (iI node)), (3, .int (iI j)), (2, .int (iI i)), (1, .int (iI w)), (0, .ref 530)]) (st' := [.int (iI e), .int (iI 32), .ref 573, .long (X_st (-1) (X_Hw G (X_T_ G) w e pl (m + 1))), .long (X_st (-1) bb)]) rfl ?_
                refine T_p xr_189_124 xn_189 (pc' := 125) (ls' := [(17, .long (X_st (-1) (X_Hw G (X_T_ G) w e pl (m + 1)))), (15, .int (iI (m + 1))), (16, .int (iI fd)), (14, .int (iI e)), (13, .int (iI hc)), (12, .int (iI pl)), (10, .long (X_st (-1) bb)), (8, .long (iL (l2 : Int))), (7, .int (iI (30 * b + w))), (6, .int (iI node)), (3, .int (iI j)), (2, .int (iI i)), (1, .int (iI w)), (0, .ref 530)]) (st' := [.int (iI 1), .int (iI e), .int (iI 32), .ref 573, .long (X_st (-1) (X_Hw G (X_T_ G) w e pl (m + 1))), .long (X_st (-1) bb)]) rfl ?_
                refine T_ziadd xr_189_125 (z := e + 1) rfl (pc' := 126) rfl ?_
                refine T_zimul xr_189_126 (z := 32 * (e + 1)) rfl (pc' := 127) rfl ?_
                refine T_p xr_189_127 xn_189 (pc' := 129) (ls' := [(17, .long (X_st (-1) (X_Hw G (X_T_ G) w e pl (m + 1)))), (15, .int (iI (m + 1))), (16, .int (iI fd)), (14, .int (iI e)), (13, .int (iI hc)), (12, .int (iI pl)), (10, .long (X_st (-1) bb)), (8, .long (iL (l2 : Int))), (7, .int (iI (30 * b + w))), (6, .int (iI node)), (3, .int (iI j)), (2, .int (iI i)), (1, .int (iI w)), (0, .ref 530)]) (st' := [.int (iI (m + 1)), .int (iI (32 * (e + 1))), .ref 573, .long (X_st (-1) (X_Hw G (X_T_ G) w e pl (m + 1))), .long (X_st (-1) bb)]) rfl ?_
                refine T_ziadd xr_189_129 (z := (32 * (e + 1)) + (m + 1)) rfl (pc' := 130) rfl ?_
                have h1648 := (hF1608.1 573 (by omega)).trans (ha1602)
                refine T_zlald xr_189_130 h1648 (pc' := 131) rfl ?_
                refine T_le (y := (X_st (-1) (X_Ew G (X_T_ G) w (e + 1) (m + 1) j))) (hrr1 (e + 1) (m + 1) (by omega) (by omega) (by omega) (by omega)) ?_
                refine T_cs xr_189_131 (by decide) xf_172.1 xn_172 (as := [.long (X_st (-1) (X_Hw G (X_T_ G) w e pl (m + 1))), .long (X_st (-1) (X_Ew G (X_T_ G) w (e + 1) (m + 1) j))]) (r := [.long (X_st (-1) bb)]) rfl (Nat.le_of_ble_eq_true rfl) (Nat.le_of_ble_eq_true rfl) (pc' := 134) rfl (ls' := [(0, .long (X_st (-1) (X_Hw G (X_T_ G) w e pl (m + 1)))), (2, .long (X_st (-1) (X_Ew G (X_T_ G) w (e + 1) (m + 1) j)))]) rfl ?_
                refine T_mono (r_product sc S1612 (X_Hw G (X_T_ G) w e pl (m + 1)) (X_Ew G (X_T_ G) w (e + 1) (m + 1) j)) (fun v1649 S1650 h1651 => ?_)
                rcases h1651 with ⟨hv1652, hf1653⟩
                rw [hv1652]
                rw [hf1653]
                show X_T sc 189 (134, [(17, .long (X_st (-1) (X_Hw G (X_T_ G) w e pl (m + 1)))), (15, .int (iI (m + 1))), (16, .int (iI fd)), (14, .int (iI e)), (13, .int (iI hc)), (12, .int (iI pl)), (10, .long (X_st (-1) bb)), (8, .long (iL (l2 : Int))), (7, .int (iI (30 * b + w))), (6, .int (iI node)), (3, .int (iI j)), (2, .int (iI i)), (1, .int (iI w)), (0, .ref 530)], [.long (X_st (-1) ((X_Hw G (X_T_ G) w e pl (m + 1)) * (X_Ew G (X_T_ G) w (e + 1) (m + 1) j))), .long (X_st (-1) bb)], S1612) _
                refine T_cs xr_189_134 (by decide) xf_172.1 xn_172 (as := [.long (X_st (-1) bb), .long (X_st (-1) ((X_Hw G (X_T_ G) w e pl (m + 1)) * (X_Ew G (X_T_ G) w (e + 1) (m + 1) j)))]) (r := []) rfl (Nat.le_of_ble_eq_true rfl) (Nat.le_of_ble_eq_true rfl) (pc' := 137) rfl (ls' := [(0, .long (X_st (-1) bb)), (2, .long (X_st (-1) ((X_Hw G (X_T_ G) w e pl (m + 1)) * (X_Ew G (X_T_ G) w (e + 1) (m + 1) j))))]) rfl ?_
                refine T_mono (r_product sc S1612 bb ((X_Hw G (X_T_ G) w e pl (m + 1)) * (X_Ew G (X_T_ G) w (e + 1) (m + 1) j))) (fun v1654 S1655 h1656 => ?_)
                rcases h1656 with ⟨hv1657, hf1658⟩
                rw [hv1657]
                rw [hf1658]
                show X_T sc 189 (137, [(17, .long (X_st (-1) (X_Hw G (X_T_ G) w e pl (m + 1)))), (15, .int (iI (m + 1))), (16, .int (iI fd)), (14, .int (iI e)), (13, .int (iI hc)), (12, .int (iI pl)), (10, .long (X_st (-1) bb)), (8, .long (iL (l2 : Int))), (7, .int (iI (30 * b + w))), (6, .int (iI node)), (3, .int (iI j)), (2, .int (iI i)), (1, .int (iI w)), (0, .ref 530)], [.long (X_st (-1) (bb * ((X_Hw G (X_T_ G) w e pl (m + 1)) * (X_Ew G (X_T_ G) w (e + 1) (m + 1) j))))], S1612) _
                refine T_le (y := (X_st (-1) (X_sF G w e pl j bb (m + 1)))) (by congr 1; show _ = bb * X_Hw G (X_T_ G) w e pl (m + 1) * X_Ew G (X_T_ G) w (e + 1) (m + 1) j; rw [Nat.mul_assoc]) ?_
                refine T_p xr_189_137 xn_189 (pc' := 139) (ls' := [(19, .long (X_st (-1) (X_sF G w e pl j bb (m + 1)))), (17, .long (X_st (-1) (X_Hw G (X_T_ G) w e pl (m + 1)))), (15, .int (iI (m + 1))), (16, .int (iI fd)), (14, .int (iI e)), (13, .int (iI hc)), (12, .int (iI pl)), (10, .long (X_st (-1) bb)), (8, .long (iL (l2 : Int))), (7, .int (iI (30 * b + w))), (6, .int (iI node)), (3, .int (iI j)), (2, .int (iI i)), (1, .int (iI w)), (0, .ref 530)]) (st' := []) rfl ?_
                refine T_p xr_189_139 xn_189 (pc' := 141) (ls' := [(19, .long (X_st (-1) (X_sF G w e pl j bb (m + 1)))), (17, .long (X_st (-1) (X_Hw G (X_T_ G) w e pl (m + 1)))), (15, .int (iI (m + 1))), (16, .int (iI fd)), (14, .int (iI e)), (13, .int (iI hc)), (12, .int (iI pl)), (10, .long (X_st (-1) bb)), (8, .long (iL (l2 : Int))), (7, .int (iI (30 * b + w))), (6, .int (iI node)), (3, .int (iI j)), (2, .int (iI i)), (1, .int (iI w)), (0, .ref 530)]) (st' := [.long (X_st (-1) (X_sF G w e pl j bb (m + 1)))]) rfl ?_
                refine T_p xr_189_141 xn_189 (pc' := 142) (ls' := [(19, .long (X_st (-1) (X_sF G w e pl j bb (m + 1)))), (17, .long (X_st (-1) (X_Hw G (X_T_ G) w e pl (m + 1)))), (15, .int (iI (m + 1))), (16, .int (iI fd)), (14, .int (iI e)), (13, .int (iI hc)), (12, .int (iI pl)), (10, .long (X_st (-1) bb)), (8, .long (iL (l2 : Int))), (7, .int (iI (30 * b + w))), (6, .int (iI node)), (3, .int (iI j)), (2, .int (iI i)), (1, .int (iI w)), (0, .ref 530)]) (st' := [.long (iL 0), .long (X_st (-1) (X_sF G w e pl j bb (m + 1)))]) rfl ?_
                refine T_lc_lt xr_189_142 xr_189_143 (t := 154) (pc' := 146) rfl rfl (fun c1659 => ?_) (fun c1659 => ?_)
                · skip
                  have c1659 : (X_st (-1) (X_sF G w e pl j bb (m + 1))) < (iL 0) := c1659
                  have hlF : l2 < X_sF G w e pl j bb (m + 1) := by
                    by_cases hmx : X_sF G w e pl j bb (m + 1) ≤ 9223372036854775807
                    · have h1 : iL (l2 : Int) < X_st (-1) (X_sF G w e pl j bb (m + 1)) := by
                        first
                        | assumption
                        | exact Int64.not_le.mp (by assumption)
                        | exact absurd ((X_st_n (m := -1) (a := X_sF G w e pl j bb (m + 1)) (by omega)).mp (by assumption)) (by omega)
                      rw [X_st_lo hmx, iL_lt (by omega) (by omega) (by omega) (by omega)] at h1
                      omega
                    · omega
                  refine T_p xr_189_154 xn_189 (pc' := 155) (ls' := [(19, .long (X_st (-1) (X_sF G w e pl j bb (m + 1)))), (17, .long (X_st (-1) (X_Hw G (X_T_ G) w e pl (m + 1)))), (15, .int (iI (m + 1))), (16, .int (iI fd)), (14, .int (iI e)), (13, .int (iI hc)), (12, .int (iI pl)), (10, .long (X_st (-1) bb)), (8, .long (iL (l2 : Int))), (7, .int (iI (30 * b + w))), (6, .int (iI node)), (3, .int (iI j)), (2, .int (iI i)), (1, .int (iI w)), (0, .ref 530)]) (st' := [.int (iI 1)]) rfl ?_
                  refine T_p xr_189_155 xn_189 (pc' := 159) (ls' := [(19, .long (X_st (-1) (X_sF G w e pl j bb (m + 1)))), (17, .long (X_st (-1) (X_Hw G (X_T_ G) w e pl (m + 1)))), (15, .int (iI (m + 1))), (16, .int (iI fd)), (14, .int (iI e)), (13, .int (iI hc)), (12, .int (iI pl)), (10, .long (X_st (-1) bb)), (8, .long (iL (l2 : Int))), (7, .int (iI (30 * b + w))), (6, .int (iI node)), (3, .int (iI j)), (2, .int (iI i)), (1, .int (iI w)), (0, .ref 530)]) (st' := [.int (iI 1)]) rfl ?_
                  refine T_p xr_189_159 xn_189 (pc' := 161) (ls' := [(16, .int (iI 1)), (19, .long (X_st (-1) (X_sF G w e pl j bb (m + 1)))), (17, .long (X_st (-1) (X_Hw G (X_T_ G) w e pl (m + 1)))), (15, .int (iI (m + 1))), (14, .int (iI e)), (13, .int (iI hc)), (12, .int (iI pl)), (10, .long (X_st (-1) bb)), (8, .long (iL (l2 : Int))), (7, .int (iI (30 * b + w))), (6, .int (iI node)), (3, .int (iI j)), (2, .int (iI i)), (1, .int (iI w)), (0, .ref 530)]) (st' := []) rfl ?_
                  refine T_p xr_189_161 xn_189 (pc' := 163) (ls' := [(16, .int (iI 1)), (19, .long (X_st (-1) (X_sF G w e pl j bb (m + 1)))), (17, .long (X_st (-1) (X_Hw G (X_T_ G) w e pl (m + 1)))), (15, .int (iI (m + 1))), (14, .int (iI e)), (13, .int (iI hc)), (12, .int (iI pl)), (10, .long (X_st (-1) bb)), (8, .long (iL (l2 : Int))), (7, .int (iI (30 * b + w))), (6, .int (iI node)), (3, .int (iI j)), (2, .int (iI i)), (1, .int (iI w)), (0, .ref 530)]) (st' := [.int (iI 1)]) rfl ?_
                  refine T_zif_net xr_189_163 (t := 173) rfl (by decide) ?_
                  refine T_p xr_189_173 xn_189 (pc' := 79) (ls' := [(16, .int (iI 1)), (19, .long (X_st (-1) (X_sF G w e pl j bb (m + 1)))), (17, .long (X_st (-1) (X_Hw G (X_T_ G) w e pl (m + 1)))), (15, .int (iI (m + 1))), (14, .int (iI e)), (13, .int (iI hc)), (12, .int (iI pl)), (10, .long (X_st (-1) bb)), (8, .long (iL (l2 : Int))), (7, .int (iI (30 * b + w))), (6, .int (iI node)), (3, .int (iI j)), (2, .int (iI i)), (1, .int (iI w)), (0, .ref 530)]) (st' := []) rfl ?_
                  refine T_sub (ls := [(17, .long (X_st (-1) (X_Hw G (X_T_ G) w e pl (m + 1)))), (16, .int (iI 1)), (15, .int (iI (m + 1))), (14, .int (iI e)), (13, .int (iI hc)), (12, .int (iI pl)), (10, .long (X_st (-1) bb)), (8, .long (iL (l2 : Int))), (7, .int (iI (30 * b + w))), (6, .int (iI node)), (3, .int (iI j)), (2, .int (iI i)), (1, .int (iI w)), (0, .ref 530)]) ⟨rfl, rfl, rfl, rfl, rfl, rfl, rfl, rfl, rfl, rfl, rfl, rfl, rfl, rfl, trivial⟩ rfl rfl ?_
                  exact ih1619 (m + 1) 1 (X_st (-1) (X_Hw G (X_T_ G) w e pl (m + 1))) l2  (by omega) hl2m (Or.inr ⟨rfl, by omega, hmj.2, hlF, rfl⟩) (by omega)
                · skip
                  have c1659 : ¬ ((X_st (-1) (X_sF G w e pl j bb (m + 1))) < (iL 0)) := c1659
                  refine T_p xr_189_146 xn_189 (pc' := 148) (ls' := [(19, .long (X_st (-1) (X_sF G w e pl j bb (m + 1)))), (17, .long (X_st (-1) (X_Hw G (X_T_ G) w e pl (m + 1)))), (15, .int (iI (m + 1))), (16, .int (iI fd)), (14, .int (iI e)), (13, .int (iI hc)), (12, .int (iI pl)), (10, .long (X_st (-1) bb)), (8, .long (iL (l2 : Int))), (7, .int (iI (30 * b + w))), (6, .int (iI node)), (3, .int (iI j)), (2, .int (iI i)), (1, .int (iI w)), (0, .ref 530)]) (st' := [.long (iL (l2 : Int))]) rfl ?_
                  refine T_p xr_189_148 xn_189 (pc' := 150) (ls' := [(19, .long (X_st (-1) (X_sF G w e pl j bb (m + 1)))), (17, .long (X_st (-1) (X_Hw G (X_T_ G) w e pl (m + 1)))), (15, .int (iI (m + 1))), (16, .int (iI fd)), (14, .int (iI e)), (13, .int (iI hc)), (12, .int (iI pl)), (10, .long (X_st (-1) bb)), (8, .long (iL (l2 : Int))), (7, .int (iI (30 * b + w))), (6, .int (iI node)), (3, .int (iI j)), (2, .int (iI i)), (1, .int (iI w)), (0, .ref 530)]) (st' := [.long (X_st (-1) (X_sF G w e pl j bb (m + 1))), .long (iL (l2 : Int))]) rfl ?_
                  refine T_lc_ge xr_189_150 xr_189_151 (t := 158) (pc' := 154) rfl rfl (fun c1660 => ?_) (fun c1660 => ?_)
                  · skip
                    have c1660 : (X_st (-1) (X_sF G w e pl j bb (m + 1))) ≤ (iL (l2 : Int)) := c1660
                    refine T_p xr_189_158 xn_189 (pc' := 159) (ls' := [(19, .long (X_st (-1) (X_sF G w e pl j bb (m + 1)))), (17, .long (X_st (-1) (X_Hw G (X_T_ G) w e pl (m + 1)))), (15, .int (iI (m + 1))), (16, .int (iI fd)), (14, .int (iI e)), (13, .int (iI hc)), (12, .int (iI pl)), (10, .long (X_st (-1) bb)), (8, .long (iL (l2 : Int))), (7, .int (iI (30 * b + w))), (6, .int (iI node)), (3, .int (iI j)), (2, .int (iI i)), (1, .int (iI w)), (0, .ref 530)]) (st' := [.int (iI 0)]) rfl ?_
                    refine T_p xr_189_159 xn_189 (pc' := 161) (ls' := [(16, .int (iI 0)), (19, .long (X_st (-1) (X_sF G w e pl j bb (m + 1)))), (17, .long (X_st (-1) (X_Hw G (X_T_ G) w e pl (m + 1)))), (15, .int (iI (m + 1))), (14, .int (iI e)), (13, .int (iI hc)), (12, .int (iI pl)), (10, .long (X_st (-1) bb)), (8, .long (iL (l2 : Int))), (7, .int (iI (30 * b + w))), (6, .int (iI node)), (3, .int (iI j)), (2, .int (iI i)), (1, .int (iI w)), (0, .ref 530)]) (st' := []) rfl ?_
                    refine T_p xr_189_161 xn_189 (pc' := 163) (ls' := [(16, .int (iI 0)), (19, .long (X_st (-1) (X_sF G w e pl j bb (m + 1)))), (17, .long (X_st (-1) (X_Hw G (X_T_ G) w e pl (m + 1)))), (15, .int (iI (m + 1))), (14, .int (iI e)), (13, .int (iI hc)), (12, .int (iI pl)), (10, .long (X_st (-1) bb)), (8, .long (iL (l2 : Int))), (7, .int (iI (30 * b + w))), (6, .int (iI node)), (3, .int (iI j)), (2, .int (iI i)), (1, .int (iI w)), (0, .ref 530)]) (st' := [.int (iI 0)]) rfl ?_
                    refine T_zif_nef xr_189_163 (t := 173) (pc' := 166) rfl rfl (by decide) ?_
                    refine T_p xr_189_166 xn_189 (pc' := 168) (ls' := [(16, .int (iI 0)), (19, .long (X_st (-1) (X_sF G w e pl j bb (m + 1)))), (17, .long (X_st (-1) (X_Hw G (X_T_ G) w e pl (m + 1)))), (15, .int (iI (m + 1))), (14, .int (iI e)), (13, .int (iI hc)), (12, .int (iI pl)), (10, .long (X_st (-1) bb)), (8, .long (iL (l2 : Int))), (7, .int (iI (30 * b + w))), (6, .int (iI node)), (3, .int (iI j)), (2, .int (iI i)), (1, .int (iI w)), (0, .ref 530)]) (st' := [.long (iL (l2 : Int))]) rfl ?_
                    refine T_p xr_189_168 xn_189 (pc' := 170) (ls' := [(16, .int (iI 0)), (19, .long (X_st (-1) (X_sF G w e pl j bb (m + 1)))), (17, .long (X_st (-1) (X_Hw G (X_T_ G) w e pl (m + 1)))), (15, .int (iI (m + 1))), (14, .int (iI e)), (13, .int (iI hc)), (12, .int (iI pl)), (10, .long (X_st (-1) bb)), (8, .long (iL (l2 : Int))), (7, .int (iI (30 * b + w))), (6, .int (iI node)), (3, .int (iI j)), (2, .int (iI i)), (1, .int (iI w)), (0, .ref 530)]) (st' := [.long (X_st (-1) (X_sF G w e pl j bb (m + 1))), .long (iL (l2 : Int))]) rfl ?_
                    refine T_p xr_189_170 xn_189 (pc' := 171) (ls' := [(16, .int (iI 0)), (19, .long (X_st (-1) (X_sF G w e pl j bb (m + 1)))), (17, .long (X_st (-1) (X_Hw G (X_T_ G) w e pl (m + 1)))), (15, .int (iI (m + 1))), (14, .int (iI e)), (13, .int (iI hc)), (12, .int (iI pl)), (10, .long (X_st (-1) bb)), (8, .long (iL (l2 : Int))), (7, .int (iI (30 * b + w))), (6, .int (iI node)), (3, .int (iI j)), (2, .int (iI i)), (1, .int (iI w)), (0, .ref 530)]) (st' := [.long ((iL (l2 : Int)) - (X_st (-1) (X_sF G w e pl j bb (m + 1))))]) rfl ?_
                    have hlF : X_sF G w e pl j bb (m + 1) ≤ l2 ∧ X_st (-1) (X_sF G w e pl j bb (m + 1)) = iL ((X_sF G w e pl j bb (m + 1) : Nat) : Int) := by
                      have hmx : X_sF G w e pl j bb (m + 1) ≤ 9223372036854775807 := Nat.le_of_not_lt (fun z => absurd ((X_st_n (m := -1) (a := X_sF G w e pl j bb (m + 1)) (by omega)).mpr (by omega)) (by assumption))
                      refine ⟨?_, X_st_lo hmx⟩
                      have h1 : ¬ iL (l2 : Int) < X_st (-1) (X_sF G w e pl j bb (m + 1)) := by first | assumption | exact Int64.not_lt.mpr (by first | assumption | exact Classical.not_not.mp (by assumption))
                      rw [X_st_lo hmx, iL_lt (by omega) (by omega) (by omega) (by omega)] at h1
                      omega
                    refine T_le (y := (iL ((l2 - X_sF G w e pl j bb (m + 1) : Nat) : Int))) (by rw [hlF.2]; exact iL_sub hlF.1) ?_
                    refine T_p xr_189_171 xn_189 (pc' := 173) (ls' := [(8, .long (iL ((l2 - X_sF G w e pl j bb (m + 1) : Nat) : Int))), (16, .int (iI 0)), (19, .long (X_st (-1) (X_sF G w e pl j bb (m + 1)))), (17, .long (X_st (-1) (X_Hw G (X_T_ G) w e pl (m + 1)))), (15, .int (iI (m + 1))), (14, .int (iI e)), (13, .int (iI hc)), (12, .int (iI pl)), (10, .long (X_st (-1) bb)), (7, .int (iI (30 * b + w))), (6, .int (iI node)), (3, .int (iI j)), (2, .int (iI i)), (1, .int (iI w)), (0, .ref 530)]) (st' := []) rfl ?_
                    refine T_p xr_189_173 xn_189 (pc' := 79) (ls' := [(8, .long (iL ((l2 - X_sF G w e pl j bb (m + 1) : Nat) : Int))), (16, .int (iI 0)), (19, .long (X_st (-1) (X_sF G w e pl j bb (m + 1)))), (17, .long (X_st (-1) (X_Hw G (X_T_ G) w e pl (m + 1)))), (15, .int (iI (m + 1))), (14, .int (iI e)), (13, .int (iI hc)), (12, .int (iI pl)), (10, .long (X_st (-1) bb)), (7, .int (iI (30 * b + w))), (6, .int (iI node)), (3, .int (iI j)), (2, .int (iI i)), (1, .int (iI w)), (0, .ref 530)]) (st' := []) rfl ?_
                    refine T_sub (ls := [(17, .long (X_st (-1) (X_Hw G (X_T_ G) w e pl (m + 1)))), (16, .int (iI 0)), (15, .int (iI (m + 1))), (14, .int (iI e)), (13, .int (iI hc)), (12, .int (iI pl)), (10, .long (X_st (-1) bb)), (8, .long (iL ((l2 - X_sF G w e pl j bb (m + 1) : Nat) : Int))), (7, .int (iI (30 * b + w))), (6, .int (iI node)), (3, .int (iI j)), (2, .int (iI i)), (1, .int (iI w)), (0, .ref 530)]) ⟨rfl, rfl, rfl, rfl, rfl, rfl, rfl, rfl, rfl, rfl, rfl, rfl, rfl, rfl, trivial⟩ rfl rfl ?_
                    exact ih1619 (m + 1) 0 (X_st (-1) (X_Hw G (X_T_ G) w e pl (m + 1))) (l2 - X_sF G w e pl j bb (m + 1))  (by omega) (by omega) (Or.inl ⟨rfl, by rw [X_Su_s (by omega)]; omega⟩) (by omega)
                  · skip
                    have c1660 : ¬ ((X_st (-1) (X_sF G w e pl j bb (m + 1))) ≤ (iL (l2 : Int))) := c1660
                    have hlF : l2 < X_sF G w e pl j bb (m + 1) := by
                      by_cases hmx : X_sF G w e pl j bb (m + 1) ≤ 9223372036854775807
                      · have h1 : iL (l2 : Int) < X_st (-1) (X_sF G w e pl j bb (m + 1)) := by
                          first
                          | assumption
                          | exact Int64.not_le.mp (by assumption)
                          | exact absurd ((X_st_n (m := -1) (a := X_sF G w e pl j bb (m + 1)) (by omega)).mp (by assumption)) (by omega)
                        rw [X_st_lo hmx, iL_lt (by omega) (by omega) (by omega) (by omega)] at h1
                        omega
                      · omega
                    refine T_p xr_189_154 xn_189 (pc' := 155) (ls' := [(19, .long (X_st (-1) (X_sF G w e pl j bb (m + 1)))), (17, .long (X_st (-1) (X_Hw G (X_T_ G) w e pl (m + 1)))), (15, .int (iI (m + 1))), (16, .int (iI fd)), (14, .int (iI e)), (13, .int (iI hc)), (12, .int (iI pl)), (10, .long (X_st (-1) bb)), (8, .long (iL (l2 : Int))), (7, .int (iI (30 * b + w))), (6, .int (iI node)), (3, .int (iI j)), (2, .int (iI i)), (1, .int (iI w)), (0, .ref 530)]) (st' := [.int (iI 1)]) rfl ?_
                    refine T_p xr_189_155 xn_189 (pc' := 159) (ls' := [(19, .long (X_st (-1) (X_sF G w e pl j bb (m + 1)))), (17, .long (X_st (-1) (X_Hw G (X_T_ G) w e pl (m + 1)))), (15, .int (iI (m + 1))), (16, .int (iI fd)), (14, .int (iI e)), (13, .int (iI hc)), (12, .int (iI pl)), (10, .long (X_st (-1) bb)), (8, .long (iL (l2 : Int))), (7, .int (iI (30 * b + w))), (6, .int (iI node)), (3, .int (iI j)), (2, .int (iI i)), (1, .int (iI w)), (0, .ref 530)]) (st' := [.int (iI 1)]) rfl ?_
                    refine T_p xr_189_159 xn_189 (pc' := 161) (ls' := [(16, .int (iI 1)), (19, .long (X_st (-1) (X_sF G w e pl j bb (m + 1)))), (17, .long (X_st (-1) (X_Hw G (X_T_ G) w e pl (m + 1)))), (15, .int (iI (m + 1))), (14, .int (iI e)), (13, .int (iI hc)), (12, .int (iI pl)), (10, .long (X_st (-1) bb)), (8, .long (iL (l2 : Int))), (7, .int (iI (30 * b + w))), (6, .int (iI node)), (3, .int (iI j)), (2, .int (iI i)), (1, .int (iI w)), (0, .ref 530)]) (st' := []) rfl ?_
                    refine T_p xr_189_161 xn_189 (pc' := 163) (ls' := [(16, .int (iI 1)), (19, .long (X_st (-1) (X_sF G w e pl j bb (m + 1)))), (17, .long (X_st (-1) (X_Hw G (X_T_ G) w e pl (m + 1)))), (15, .int (iI (m + 1))), (14, .int (iI e)), (13, .int (iI hc)), (12, .int (iI pl)), (10, .long (X_st (-1) bb)), (8, .long (iL (l2 : Int))), (7, .int (iI (30 * b + w))), (6, .int (iI node)), (3, .int (iI j)), (2, .int (iI i)), (1, .int (iI w)), (0, .ref 530)]) (st' := [.int (iI 1)]) rfl ?_
                    refine T_zif_net xr_189_163 (t := 173) rfl (by decide) ?_
                    refine T_p xr_189_173 xn_189 (pc' := 79) (ls' := [(16, .int (iI 1)), (19, .long (X_st (-1) (X_sF G w e pl j bb (m + 1)))), (17, .long (X_st (-1) (X_Hw G (X_T_ G) w e pl (m + 1)))), (15, .int (iI (m + 1))), (14, .int (iI e)), (13, .int (iI hc)), (12, .int (iI pl)), (10, .long (X_st (-1) bb)), (8, .long (iL (l2 : Int))), (7, .int (iI (30 * b + w))), (6, .int (iI node)), (3, .int (iI j)), (2, .int (iI i)), (1, .int (iI w)), (0, .ref 530)]) (st' := []) rfl ?_
                    refine T_sub (ls := [(17, .long (X_st (-1) (X_Hw G (X_T_ G) w e pl (m + 1)))), (16, .int (iI 1)), (15, .int (iI (m + 1))), (14, .int (iI e)), (13, .int (iI hc)), (12, .int (iI pl)), (10, .long (X_st (-1) bb)), (8, .long (iL (l2 : Int))), (7, .int (iI (30 * b + w))), (6, .int (iI node)), (3, .int (iI j)), (2, .int (iI i)), (1, .int (iI w)), (0, .ref 530)]) ⟨rfl, rfl, rfl, rfl, rfl, rfl, rfl, rfl, rfl, rfl, rfl, rfl, rfl, rfl, trivial⟩ rfl rfl ?_
                    exact ih1619 (m + 1) 1 (X_st (-1) (X_Hw G (X_T_ G) w e pl (m + 1))) l2  (by omega) hl2m (Or.inr ⟨rfl, by omega, hmj.2, hlF, rfl⟩) (by omega)
          exact L1618 ((j + 1) + 1).toNat pl 0 (iL 0) l  (by omega) hlm (Or.inl ⟨rfl, by rw [X_Su_e (Int.le_refl _)]; omega⟩) (by omega)
        · skip
          have c1617 : ¬ ((gW G w e) = (iL 0)) := c1617
          have hqn : ¬ gW G w e = 0 := by first | assumption | exact fun z => absurd z (by assumption)
          have hpp := X_sp_p (show e < gD G w 3 0 by omega) hqn hl
          have hX0 := hX
          rw [show (gD G w 3 0 - e).toNat = (gD G w 3 0 - (e + 1)).toNat + 1 by omega, X_spl_p hqn] at hX0
          have hs1 := X_hn_s (q := gW G w) (e := e) (show 0 ≤ e by omega)
          rw [if_neg hqn, Int.add_zero] at hs1
          refine T_ziinc xr_189_63 xn_189 (a := pl) (z := pl + 1) rfl (Nat.le_of_ble_eq_true rfl) (by omega) (ls' := [(12, .int (iI (pl + 1))), (14, .int (iI e)), (13, .int (iI hc)), (10, .long (X_st (-1) bb)), (8, .long (iL (l : Int))), (7, .int (iI (30 * b + w))), (6, .int (iI node)), (3, .int (iI j)), (2, .int (iI i)), (1, .int (iI w)), (0, .ref 530)]) rfl (pc' := 66) rfl ?_
          refine T_p xr_189_66 xn_189 (pc' := 219) (ls' := [(12, .int (iI (pl + 1))), (14, .int (iI e)), (13, .int (iI hc)), (10, .long (X_st (-1) bb)), (8, .long (iL (l : Int))), (7, .int (iI (30 * b + w))), (6, .int (iI node)), (3, .int (iI j)), (2, .int (iI i)), (1, .int (iI w)), (0, .ref 530)]) (st' := []) rfl ?_
          refine T_ziinc xr_189_219 xn_189 (a := e) (z := e + 1) rfl (Nat.le_of_ble_eq_true rfl) (by omega) (ls' := [(14, .int (iI (e + 1))), (12, .int (iI (pl + 1))), (13, .int (iI hc)), (10, .long (X_st (-1) bb)), (8, .long (iL (l : Int))), (7, .int (iI (30 * b + w))), (6, .int (iI node)), (3, .int (iI j)), (2, .int (iI i)), (1, .int (iI w)), (0, .ref 530)]) rfl (pc' := 222) rfl ?_
          refine T_p xr_189_222 xn_189 (pc' := 33) (ls' := [(14, .int (iI (e + 1))), (12, .int (iI (pl + 1))), (13, .int (iI hc)), (10, .long (X_st (-1) bb)), (8, .long (iL (l : Int))), (7, .int (iI (30 * b + w))), (6, .int (iI node)), (3, .int (iI j)), (2, .int (iI i)), (1, .int (iI w)), (0, .ref 530)]) (st' := []) rfl ?_
          refine T_sub (ls := [(14, .int (iI (e + 1))), (13, .int (iI hc)), (12, .int (iI (pl + 1))), (10, .long (X_st (-1) bb)), (8, .long (iL (l : Int))), (7, .int (iI (30 * b + w))), (6, .int (iI node)), (3, .int (iI j)), (2, .int (iI i)), (1, .int (iI w)), (0, .ref 530)]) ⟨rfl, rfl, rfl, rfl, rfl, rfl, rfl, rfl, rfl, rfl, rfl, trivial⟩ rfl rfl ?_
          exact ih1605 S1612 (e + 1) (pl + 1) hc l bb HF HE cFa cTa cNa hcFa hcTa hcNa (hF1608.tr (X_Fr.rf)) (by omega) (by omega) hpp.2.2 hlm hX0 (fun h h1 h2 => hA h h1 (by omega)) (by omega)
  refine T_sub (ls := [(14, .int (iI 0)), (13, .int (iI 0)), (12, .int (iI i)), (10, .long (iL 1)), (8, .long (iL (k2 : Int))), (7, .int (iI ((30 * b) + w))), (6, .int (iI node)), (3, .int (iI j)), (2, .int (iI i)), (1, .int (iI w)), (0, .ref 530)]) ⟨rfl, rfl, rfl, rfl, rfl, rfl, rfl, rfl, rfl, rfl, rfl, trivial⟩ rfl rfl ?_
  exact L1604 ((gD G w 3 0) + 1).toNat S1597 0 i 0 k2 1 (fun _ => 0) (fun _ => 0) cF cT cN h1609 h1610 h1611 ((X_Fr.rf)) (by omega) rfl hE0 hkm rfl (fun h h1 h2 => absurd h2 (by have z : X_hn (gW G w) 0 = 0 := rfl; omega)) (by omega)
