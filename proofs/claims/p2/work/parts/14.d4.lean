theorem xr_33_0 : X_row 33 0 = some (0, (.iload_n 1, 1), (0, 0, 0)) := by decide +kernel
theorem xr_33_1 : X_row 33 1 = some (1, (.iload_n 2, 1), (0, 0, 0)) := by decide +kernel
theorem xr_33_2 : X_row 33 2 = some (2, (.invokestatic 40, 3), (24, 2, 0)) := by decide +kernel
theorem xr_33_5 : X_row 33 5 = some (5, (.istore_n 3, 1), (0, 0, 0)) := by decide +kernel
theorem xr_33_6 : X_row 33 6 = some (6, (.iconst 0, 1), (0, 0, 0)) := by decide +kernel
theorem xr_33_7 : X_row 33 7 = some (7, (.istore 4, 2), (0, 0, 0)) := by decide +kernel
theorem xr_33_9 : X_row 33 9 = some (9, (.iload 4, 2), (0, 0, 0)) := by decide +kernel
theorem xr_33_11 : X_row 33 11 = some (11, (.aload_n 0, 1), (0, 0, 0)) := by decide +kernel
theorem xr_33_12 : X_row 33 12 = some (12, (.getfield 32, 3), (1, 0, 22)) := by decide +kernel
theorem xr_33_15 : X_row 33 15 = some (15, (.getfield 48, 3), (0, 1, 13)) := by decide +kernel
theorem xr_33_18 : X_row 33 18 = some (18, (.if_icmp .ge 22, 3), (0, 0, 0)) := by decide +kernel
theorem xr_33_21 : X_row 33 21 = some (21, (.aload_n 0, 1), (0, 0, 0)) := by decide +kernel
theorem xr_33_22 : X_row 33 22 = some (22, (.getfield 15, 3), (1, 3, 28)) := by decide +kernel
theorem xr_33_25 : X_row 33 25 = some (25, (.iload_n 3, 1), (0, 0, 0)) := by decide +kernel
theorem xr_33_26 : X_row 33 26 = some (26, (.bipush 11, 2), (0, 0, 0)) := by decide +kernel
theorem xr_33_28 : X_row 33 28 = some (28, (.imul, 1), (0, 0, 0)) := by decide +kernel
theorem xr_33_29 : X_row 33 29 = some (29, (.iload 4, 2), (0, 0, 0)) := by decide +kernel
theorem xr_33_31 : X_row 33 31 = some (31, (.iadd, 1), (0, 0, 0)) := by decide +kernel
theorem xr_33_32 : X_row 33 32 = some (32, (.lconst 0, 1), (0, 0, 0)) := by decide +kernel
theorem xr_33_33 : X_row 33 33 = some (33, (.lastore, 1), (0, 0, 0)) := by decide +kernel
theorem xr_33_34 : X_row 33 34 = some (34, (.iinc 4 1, 3), (0, 0, 0)) := by decide +kernel
theorem xr_33_37 : X_row 33 37 = some (37, (.goto (-28), 3), (0, 0, 0)) := by decide +kernel
theorem xr_33_40 : X_row 33 40 = some (40, (.iload_n 2, 1), (0, 0, 0)) := by decide +kernel
theorem xr_33_41 : X_row 33 41 = some (41, (.iload_n 1, 1), (0, 0, 0)) := by decide +kernel
theorem xr_33_42 : X_row 33 42 = some (42, (.iconst 1, 1), (0, 0, 0)) := by decide +kernel
theorem xr_33_43 : X_row 33 43 = some (43, (.iadd, 1), (0, 0, 0)) := by decide +kernel
theorem xr_33_44 : X_row 33 44 = some (44, (.if_icmp .ne 35, 3), (0, 0, 0)) := by decide +kernel
theorem xr_33_47 : X_row 33 47 = some (47, (.aload_n 0, 1), (0, 0, 0)) := by decide +kernel
theorem xr_33_48 : X_row 33 48 = some (48, (.getfield 36, 3), (1, 1, 24)) := by decide +kernel
theorem xr_33_51 : X_row 33 51 = some (51, (.iload_n 1, 1), (0, 0, 0)) := by decide +kernel
theorem xr_33_52 : X_row 33 52 = some (52, (.invokevirtual 95, 3), (88, 20, 0)) := by decide +kernel
theorem xr_33_55 : X_row 33 55 = some (55, (.ifCond .eq 112, 3), (0, 0, 0)) := by decide +kernel
theorem xr_33_58 : X_row 33 58 = some (58, (.aload_n 0, 1), (0, 0, 0)) := by decide +kernel
theorem xr_33_59 : X_row 33 59 = some (59, (.getfield 15, 3), (1, 3, 28)) := by decide +kernel
theorem xr_33_62 : X_row 33 62 = some (62, (.iload_n 3, 1), (0, 0, 0)) := by decide +kernel
theorem xr_33_63 : X_row 33 63 = some (63, (.bipush 11, 2), (0, 0, 0)) := by decide +kernel
theorem xr_33_65 : X_row 33 65 = some (65, (.imul, 1), (0, 0, 0)) := by decide +kernel
theorem xr_33_66 : X_row 33 66 = some (66, (.aload_n 0, 1), (0, 0, 0)) := by decide +kernel
theorem xr_33_67 : X_row 33 67 = some (67, (.getfield 32, 3), (1, 0, 22)) := by decide +kernel
theorem xr_33_70 : X_row 33 70 = some (70, (.invokevirtual 99, 3), (13, 22, 0)) := by decide +kernel
theorem xr_33_73 : X_row 33 73 = some (73, (.iadd, 1), (0, 0, 0)) := by decide +kernel
theorem xr_33_74 : X_row 33 74 = some (74, (.lconst 1, 1), (0, 0, 0)) := by decide +kernel
theorem xr_33_75 : X_row 33 75 = some (75, (.lastore, 1), (0, 0, 0)) := by decide +kernel
theorem xr_33_76 : X_row 33 76 = some (76, (.goto 91, 3), (0, 0, 0)) := by decide +kernel
theorem xr_33_79 : X_row 33 79 = some (79, (.aload_n 0, 1), (0, 0, 0)) := by decide +kernel
theorem xr_33_80 : X_row 33 80 = some (80, (.getfield 36, 3), (1, 1, 24)) := by decide +kernel
theorem xr_33_83 : X_row 33 83 = some (83, (.iload_n 1, 1), (0, 0, 0)) := by decide +kernel
theorem xr_33_84 : X_row 33 84 = some (84, (.iload_n 2, 1), (0, 0, 0)) := by decide +kernel
theorem xr_33_85 : X_row 33 85 = some (85, (.invokevirtual 103, 3), (90, 24, 0)) := by decide +kernel
theorem xr_33_88 : X_row 33 88 = some (88, (.ifCond .eq 79, 3), (0, 0, 0)) := by decide +kernel
theorem xr_33_91 : X_row 33 91 = some (91, (.iload_n 1, 1), (0, 0, 0)) := by decide +kernel
theorem xr_33_92 : X_row 33 92 = some (92, (.iconst 1, 1), (0, 0, 0)) := by decide +kernel
theorem xr_33_93 : X_row 33 93 = some (93, (.iadd, 1), (0, 0, 0)) := by decide +kernel
theorem xr_33_94 : X_row 33 94 = some (94, (.iload_n 2, 1), (0, 0, 0)) := by decide +kernel
theorem xr_33_95 : X_row 33 95 = some (95, (.iconst 1, 1), (0, 0, 0)) := by decide +kernel
theorem xr_33_96 : X_row 33 96 = some (96, (.isub, 1), (0, 0, 0)) := by decide +kernel
theorem xr_33_97 : X_row 33 97 = some (97, (.invokestatic 40, 3), (24, 2, 0)) := by decide +kernel
theorem xr_33_100 : X_row 33 100 = some (100, (.istore 4, 2), (0, 0, 0)) := by decide +kernel
theorem xr_33_102 : X_row 33 102 = some (102, (.iconst 0, 1), (0, 0, 0)) := by decide +kernel
theorem xr_33_103 : X_row 33 103 = some (103, (.istore 5, 2), (0, 0, 0)) := by decide +kernel
theorem xr_33_105 : X_row 33 105 = some (105, (.iload 5, 2), (0, 0, 0)) := by decide +kernel
theorem xr_33_107 : X_row 33 107 = some (107, (.aload_n 0, 1), (0, 0, 0)) := by decide +kernel
theorem xr_33_108 : X_row 33 108 = some (108, (.getfield 32, 3), (1, 0, 22)) := by decide +kernel
theorem xr_33_111 : X_row 33 111 = some (111, (.getfield 48, 3), (0, 1, 13)) := by decide +kernel
theorem xr_33_114 : X_row 33 114 = some (114, (.if_icmp .ge 53, 3), (0, 0, 0)) := by decide +kernel
theorem xr_33_117 : X_row 33 117 = some (117, (.iconst 1, 1), (0, 0, 0)) := by decide +kernel
theorem xr_33_118 : X_row 33 118 = some (118, (.iload 5, 2), (0, 0, 0)) := by decide +kernel
theorem xr_33_120 : X_row 33 120 = some (120, (.ishl, 1), (0, 0, 0)) := by decide +kernel
theorem xr_33_121 : X_row 33 121 = some (121, (.istore 6, 2), (0, 0, 0)) := by decide +kernel
theorem xr_33_123 : X_row 33 123 = some (123, (.aload_n 0, 1), (0, 0, 0)) := by decide +kernel
theorem xr_33_124 : X_row 33 124 = some (124, (.getfield 15, 3), (1, 3, 28)) := by decide +kernel
theorem xr_33_127 : X_row 33 127 = some (127, (.iload_n 3, 1), (0, 0, 0)) := by decide +kernel
theorem xr_33_128 : X_row 33 128 = some (128, (.bipush 11, 2), (0, 0, 0)) := by decide +kernel
theorem xr_33_130 : X_row 33 130 = some (130, (.imul, 1), (0, 0, 0)) := by decide +kernel
theorem xr_33_131 : X_row 33 131 = some (131, (.iload 5, 2), (0, 0, 0)) := by decide +kernel
theorem xr_33_133 : X_row 33 133 = some (133, (.iadd, 1), (0, 0, 0)) := by decide +kernel
theorem xr_33_134 : X_row 33 134 = some (134, (.aload_n 0, 1), (0, 0, 0)) := by decide +kernel
theorem xr_33_135 : X_row 33 135 = some (135, (.iload 4, 2), (0, 0, 0)) := by decide +kernel
theorem xr_33_137 : X_row 33 137 = some (137, (.iload 6, 2), (0, 0, 0)) := by decide +kernel
theorem xr_33_139 : X_row 33 139 = some (139, (.invokevirtual 44, 3), (29, 26, 0)) := by decide +kernel
theorem xr_33_142 : X_row 33 142 = some (142, (.aload_n 0, 1), (0, 0, 0)) := by decide +kernel
theorem xr_33_143 : X_row 33 143 = some (143, (.iload 4, 2), (0, 0, 0)) := by decide +kernel
theorem xr_33_145 : X_row 33 145 = some (145, (.aload_n 0, 1), (0, 0, 0)) := by decide +kernel
theorem xr_33_146 : X_row 33 146 = some (146, (.getfield 32, 3), (1, 0, 22)) := by decide +kernel
theorem xr_33_149 : X_row 33 149 = some (149, (.iload 6, 2), (0, 0, 0)) := by decide +kernel
theorem xr_33_151 : X_row 33 151 = some (151, (.invokevirtual 106, 3), (15, 30, 0)) := by decide +kernel
theorem xr_33_154 : X_row 33 154 = some (154, (.invokevirtual 85, 3), (30, 32, 0)) := by decide +kernel
theorem xr_33_157 : X_row 33 157 = some (157, (.invokestatic 58, 3), (134, 17, 0)) := by decide +kernel
theorem xr_33_160 : X_row 33 160 = some (160, (.lastore, 1), (0, 0, 0)) := by decide +kernel
theorem xr_33_161 : X_row 33 161 = some (161, (.iinc 5 1, 3), (0, 0, 0)) := by decide +kernel
theorem xr_33_164 : X_row 33 164 = some (164, (.goto (-59), 3), (0, 0, 0)) := by decide +kernel
theorem xr_33_167 : X_row 33 167 = some (167, (.return_, 1), (0, 0, 0)) := by decide +kernel
theorem xr_34_0 : X_row 34 0 = some (0, (.aload_n 0, 1), (0, 0, 0)) := by decide +kernel
theorem xr_34_1 : X_row 34 1 = some (1, (.getfield 32, 3), (1, 0, 22)) := by decide +kernel
theorem xr_34_4 : X_row 34 4 = some (4, (.getfield 110, 3), (0, 7, 17)) := by decide +kernel
theorem xr_34_7 : X_row 34 7 = some (7, (.iload_n 2, 1), (0, 0, 0)) := by decide +kernel
theorem xr_34_8 : X_row 34 8 = some (8, (.aaload, 1), (0, 0, 0)) := by decide +kernel
theorem xr_34_9 : X_row 34 9 = some (9, (.astore_n 3, 1), (0, 0, 0)) := by decide +kernel
theorem xr_34_10 : X_row 34 10 = some (10, (.iconst 0, 1), (0, 0, 0)) := by decide +kernel
theorem xr_34_11 : X_row 34 11 = some (11, (.istore 4, 2), (0, 0, 0)) := by decide +kernel
theorem xr_34_13 : X_row 34 13 = some (13, (.iload 4, 2), (0, 0, 0)) := by decide +kernel
theorem xr_34_15 : X_row 34 15 = some (15, (.aload_n 3, 1), (0, 0, 0)) := by decide +kernel
theorem xr_34_16 : X_row 34 16 = some (16, (.getfield 114, 3), (8, 4, 3)) := by decide +kernel
theorem xr_34_19 : X_row 34 19 = some (19, (.if_icmp .ge 70, 3), (0, 0, 0)) := by decide +kernel
theorem xr_34_22 : X_row 34 22 = some (22, (.lconst 0, 1), (0, 0, 0)) := by decide +kernel
theorem xr_34_23 : X_row 34 23 = some (23, (.lstore 5, 2), (0, 0, 0)) := by decide +kernel
theorem xr_34_25 : X_row 34 25 = some (25, (.aload_n 0, 1), (0, 0, 0)) := by decide +kernel
theorem xr_34_26 : X_row 34 26 = some (26, (.getfield 22, 3), (1, 5, 32)) := by decide +kernel
theorem xr_34_29 : X_row 34 29 = some (29, (.iload_n 1, 1), (0, 0, 0)) := by decide +kernel
theorem xr_34_30 : X_row 34 30 = some (30, (.laload, 1), (0, 0, 0)) := by decide +kernel
theorem xr_34_31 : X_row 34 31 = some (31, (.lconst 0, 1), (0, 0, 0)) := by decide +kernel
theorem xr_34_32 : X_row 34 32 = some (32, (.lcmp, 1), (0, 0, 0)) := by decide +kernel
theorem xr_34_33 : X_row 34 33 = some (33, (.ifCond .eq 32, 3), (0, 0, 0)) := by decide +kernel
theorem xr_34_36 : X_row 34 36 = some (36, (.aload_n 0, 1), (0, 0, 0)) := by decide +kernel
theorem xr_34_37 : X_row 34 37 = some (37, (.iload_n 1, 1), (0, 0, 0)) := by decide +kernel
theorem xr_34_38 : X_row 34 38 = some (38, (.aload_n 3, 1), (0, 0, 0)) := by decide +kernel
theorem xr_34_39 : X_row 34 39 = some (39, (.getfield 119, 3), (8, 12, 11)) := by decide +kernel
theorem xr_34_42 : X_row 34 42 = some (42, (.iload 4, 2), (0, 0, 0)) := by decide +kernel
theorem xr_34_44 : X_row 34 44 = some (44, (.iaload, 1), (0, 0, 0)) := by decide +kernel
theorem xr_34_45 : X_row 34 45 = some (45, (.invokevirtual 44, 3), (29, 26, 0)) := by decide +kernel
theorem xr_34_48 : X_row 34 48 = some (48, (.aload_n 0, 1), (0, 0, 0)) := by decide +kernel
theorem xr_34_49 : X_row 34 49 = some (49, (.iload_n 1, 1), (0, 0, 0)) := by decide +kernel
theorem xr_34_50 : X_row 34 50 = some (50, (.aload_n 3, 1), (0, 0, 0)) := by decide +kernel
theorem xr_34_51 : X_row 34 51 = some (51, (.getfield 123, 3), (8, 11, 9)) := by decide +kernel
theorem xr_34_54 : X_row 34 54 = some (54, (.iload 4, 2), (0, 0, 0)) := by decide +kernel
theorem xr_34_56 : X_row 34 56 = some (56, (.iaload, 1), (0, 0, 0)) := by decide +kernel
theorem xr_34_57 : X_row 34 57 = some (57, (.invokevirtual 85, 3), (30, 32, 0)) := by decide +kernel
theorem xr_34_60 : X_row 34 60 = some (60, (.invokestatic 58, 3), (134, 17, 0)) := by decide +kernel
theorem xr_34_63 : X_row 34 63 = some (63, (.lstore 5, 2), (0, 0, 0)) := by decide +kernel
theorem xr_34_65 : X_row 34 65 = some (65, (.aload_n 0, 1), (0, 0, 0)) := by decide +kernel
theorem xr_34_66 : X_row 34 66 = some (66, (.getfield 26, 3), (1, 6, 34)) := by decide +kernel
theorem xr_34_69 : X_row 34 69 = some (69, (.iload_n 1, 1), (0, 0, 0)) := by decide +kernel
theorem xr_34_70 : X_row 34 70 = some (70, (.bipush 30, 2), (0, 0, 0)) := by decide +kernel
theorem xr_34_72 : X_row 34 72 = some (72, (.imul, 1), (0, 0, 0)) := by decide +kernel
theorem xr_34_73 : X_row 34 73 = some (73, (.iload_n 2, 1), (0, 0, 0)) := by decide +kernel
theorem xr_34_74 : X_row 34 74 = some (74, (.iadd, 1), (0, 0, 0)) := by decide +kernel
theorem xr_34_75 : X_row 34 75 = some (75, (.iconst 4, 1), (0, 0, 0)) := by decide +kernel
theorem xr_34_76 : X_row 34 76 = some (76, (.imul, 1), (0, 0, 0)) := by decide +kernel
theorem xr_34_77 : X_row 34 77 = some (77, (.iload 4, 2), (0, 0, 0)) := by decide +kernel
theorem xr_34_79 : X_row 34 79 = some (79, (.iadd, 1), (0, 0, 0)) := by decide +kernel
theorem xr_34_80 : X_row 34 80 = some (80, (.lload 5, 2), (0, 0, 0)) := by decide +kernel
theorem xr_34_82 : X_row 34 82 = some (82, (.lastore, 1), (0, 0, 0)) := by decide +kernel
theorem xr_34_83 : X_row 34 83 = some (83, (.iinc 4 1, 3), (0, 0, 0)) := by decide +kernel
theorem xr_34_86 : X_row 34 86 = some (86, (.goto (-73), 3), (0, 0, 0)) := by decide +kernel
theorem xr_34_89 : X_row 34 89 = some (89, (.return_, 1), (0, 0, 0)) := by decide +kernel
theorem xn_33 : X_nL 33 = 7 := by decide +kernel
theorem xf_33 : X_na 33 = 2 ∧ X_ci 33 = 1 ∧ X_rt 33 = none := by decide +kernel
theorem xn_34 : X_nL 34 = 7 := by decide +kernel
theorem xf_34 : X_na 34 = 2 ∧ X_ci 34 = 1 ∧ X_rt 34 = none := by decide +kernel
theorem c_fillHoles (sc : X_Sc) (S : X_S) (oK : Int → Int64) (oW : Int → Int64) (oA : Int → Int64) (oH : Int → Int64) (B : Nat) (rc : Int) (rn : Int → Int64) (kn : Int → Int64) (G : X_G) (tn : Int) (fl : Int) (i : Int) (j : Int) (w : Int) (hO511 : S.1 511 = .inr (1, [.ref B, .ref 501, .int (iI fl), .ref 512, .ref 513, .ref 514, .ref 515, .ref 516])) (hA512 : S.1 512 = .inl (.long, 5115, .inr (.inl fun k : Nat => oK (k : Int)))) (hA513 : S.1 513 = .inl (.long, 13950, .inr (.inl fun k : Nat => oW (k : Int)))) (hA514 : S.1 514 = .inl (.long, 465, .inr (.inl fun k : Nat => oA (k : Int)))) (hA515 : S.1 515 = .inl (.long, 55800, .inr (.inl fun k : Nat => oH (k : Int)))) (hB : B = 4 ∨ B = 250) (hb : C_bk S B rc (gk G) (gw G) rn (gl G) kn (ga G)) (hs : C_ws S B (gD G) (gW G)) (hG : X_Gok G) (hw : 0 ≤ w ∧ w < gw G) (hij : 0 ≤ i ∧ i < j ∧ j ≤ 30) (hK : ∀ k, 0 ≤ k → k < gk G → oK (X_ro i j * 11 + k) = X_st (-2) (X_nm G k i j + (X_T_ G).2 k i j)) (hW : ∀ w, 0 ≤ w → w < gw G → oW (X_ro i j * 30 + w) = X_st (-2) ((X_T_ G).1 w i j)) (hA : oA (X_ro i j) = X_st (-2) (X_all G i j)) : X_T sc 34 (0, [(0, .ref 511), (1, .int (iI (X_ro i j))), (2, .int (iI w))], [], S) (fun v S' => ∃ (oH1 : Int → Int64), v = none ∧ (∀ e, 0 ≤ e → e < gD G w 3 0 → gW G w e = 0 → oH1 ((X_ro i j * 30 + w) * 4 + gD G w 8 e) = X_st (-2) (X_Hw G (X_T_ G) w e i j)) ∧ (∀ q, ¬ ((X_ro i j * 30 + w) * 4 ≤ q ∧ q < (X_ro i j * 30 + w) * 4 + 4) → oH1 q = oH q) ∧ S'.1 515 = .inl (.long, 55800, .inr (.inl fun k : Nat => oH1 (k : Int))) ∧ X_Fr (fun q => q = 515) S S') := by
  obtain ⟨hb0, hb1, hb2, hb3, hb4, ⟨f, hb5, hf⟩, ⟨hrc, hrcb⟩, ⟨hkc, hkcb⟩, ⟨hwc, hwcb⟩⟩ := id hb
  have hgw := hG.2.2.2 w hw.1 hw.2
  have hsz := hgw.1
  have hho := hgw.2.1
  have hro := X_ro_r hij.1 hij.2.1 hij.2.2
  refine X_QI (fun Q hQ => ?_)
  refine T_p xr_34_0 xn_34 (pc' := 1) (ls' := [(0, .ref 511), (1, .int (iI (X_ro i j))), (2, .int (iI w))]) (st' := [.ref 511]) rfl ?_
  refine T_get xr_34_1 hO511 rfl (v := .ref B) rfl (pc' := 4) rfl ?_
  refine T_get xr_34_4 hb0 rfl (v := .ref (B + 5)) rfl (pc' := 7) rfl ?_
  refine T_p xr_34_7 xn_34 (pc' := 8) (ls' := [(0, .ref 511), (1, .int (iI (X_ro i j))), (2, .int (iI w))]) (st' := [.int (iI w), .ref (B + 5)]) rfl ?_
  have hwaw := hs w (by omega) (by omega)
  obtain ⟨aw, haaw⟩ : ∃ z : Nat, z = B + 6 + 8 * (w : Int).toNat := ⟨_, rfl⟩
  rw [← haaw] at hwaw
  obtain ⟨⟨_, _⟩, ⟨_, _⟩, ⟨_, _⟩, ⟨_, _⟩, ⟨_, _⟩, ⟨_, _⟩, ⟨_, _⟩, ⟨_, _⟩⟩ := id hwaw.2
  refine T_zaald xr_34_8 hb5 (w := aw) (by rw [haaw]; exact hf _ (by omega)) (pc' := 9) rfl ?_
  refine T_p xr_34_9 xn_34 (pc' := 10) (ls' := [(3, .ref aw), (0, .ref 511), (1, .int (iI (X_ro i j))), (2, .int (iI w))]) (st' := []) rfl ?_
  refine T_p xr_34_10 xn_34 (pc' := 11) (ls' := [(3, .ref aw), (0, .ref 511), (1, .int (iI (X_ro i j))), (2, .int (iI w))]) (st' := [.int (iI 0)]) rfl ?_
  refine T_p xr_34_11 xn_34 (pc' := 13) (ls' := [(4, .int (iI 0)), (3, .ref aw), (0, .ref 511), (1, .int (iI (X_ro i j))), (2, .int (iI w))]) (st' := []) rfl ?_
  have L746 : ∀ (m748 : Nat) (S751 : X_S) (h : Int) (oH1 : Int → Int64) (hoH1 : S751.1 515 = .inl (.long, 55800, .inr (.inl fun k : Nat => oH1 (k : Int)))) (hF750 : X_Fr (fun q => q = 515) S S751) (hh : 0 ≤ h ∧ h ≤ gD G w 4 0) (hI : ∀ e, 0 ≤ e → e < gD G w 3 0 → gW G w e = 0 → gD G w 8 e < h → oH1 ((X_ro i j * 30 + w) * 4 + gD G w 8 e) = X_st (-2) (X_Hw G (X_T_ G) w e i j)) (hOo : ∀ q, ¬ ((X_ro i j * 30 + w) * 4 ≤ q ∧ q < (X_ro i j * 30 + w) * 4 + 4) → oH1 q = oH q) (hm749 : gD G w 4 0 - h < m748), X_T sc 34 (13, [(4, .int (iI h)), (3, .ref aw), (0, .ref 511), (1, .int (iI (X_ro i j))), (2, .int (iI w))], [], S751) Q := by
    intro m748
    induction m748 with
    | zero =>
      intro S751 h oH1 hoH1 hF750 hh hI hOo hm749
      exact (show False by omega).elim
    | succ m748 ih747 =>
      intro S751 h oH1 hoH1 hF750 hh hI hOo hm749
      refine T_p xr_34_13 xn_34 (pc' := 15) (ls' := [(4, .int (iI h)), (3, .ref aw), (0, .ref 511), (1, .int (iI (X_ro i j))), (2, .int (iI w))]) (st' := [.int (iI h)]) rfl ?_
      refine T_p xr_34_15 xn_34 (pc' := 16) (ls' := [(4, .int (iI h)), (3, .ref aw), (0, .ref 511), (1, .int (iI (X_ro i j))), (2, .int (iI w))]) (st' := [.ref aw, .int (iI h)]) rfl ?_
      have h752 := (hF750.1 aw (by omega)).trans (hwaw.1.1)
      refine T_get xr_34_16 h752 rfl (v := .int (iI ((gD G) w 4 0))) rfl (pc' := 19) rfl ?_
      refine T_zicmp_ge xr_34_19 (t := 89) (pc' := 22) rfl rfl (fun c753 => ?_) (fun c753 => ?_)
      · skip
        have c753 : ((gD G) w 4 0) ≤ h := c753
        refine T_vret xr_34_89 xf_34.2.2 ?_
        refine hQ _ _ ?_
        exact ⟨oH1, rfl, (fun e g1 g2 g3 => hI e g1 g2 g3 (by have := hgw.hole g1 g2 g3; omega)), hOo, hoH1, (X_Fr.rf).tr (X_Fr.mono ⟨hF750.1, hF750.2⟩ (fun q hq => (by omega)))⟩
      · skip
        have c753 : ¬ (((gD G) w 4 0) ≤ h) := c753
        obtain ⟨e, he1, he2, he3, he4⟩ := hgw.ex (h := h) (by omega) (by omega)
        refine T_p xr_34_22 xn_34 (pc' := 23) (ls' := [(4, .int (iI h)), (3, .ref aw), (0, .ref 511), (1, .int (iI (X_ro i j))), (2, .int (iI w))]) (st' := [.long (iL 0)]) rfl ?_
        refine T_p xr_34_23 xn_34 (pc' := 25) (ls' := [(5, .long (iL 0)), (4, .int (iI h)), (3, .ref aw), (0, .ref 511), (1, .int (iI (X_ro i j))), (2, .int (iI w))]) (st' := []) rfl ?_
        refine T_p xr_34_25 xn_34 (pc' := 26) (ls' := [(5, .long (iL 0)), (4, .int (iI h)), (3, .ref aw), (0, .ref 511), (1, .int (iI (X_ro i j))), (2, .int (iI w))]) (st' := [.ref 511]) rfl ?_
        have h754 := (hF750.1 511 (by omega)).trans (hO511)
        refine T_get xr_34_26 h754 rfl (v := .ref 514) rfl (pc' := 29) rfl ?_
        refine T_p xr_34_29 xn_34 (pc' := 30) (ls' := [(5, .long (iL 0)), (4, .int (iI h)), (3, .ref aw), (0, .ref 511), (1, .int (iI (X_ro i j))), (2, .int (iI w))]) (st' := [.int (iI (X_ro i j)), .ref 514]) rfl ?_
        have h755 := (hF750.1 514 (by omega)).trans (hA514)
        refine T_zlald xr_34_30 h755 (pc' := 31) rfl ?_
        refine T_le (y := (X_st (-2) (X_all G i j))) hA ?_
        refine T_p xr_34_31 xn_34 (pc' := 32) (ls' := [(5, .long (iL 0)), (4, .int (iI h)), (3, .ref aw), (0, .ref 511), (1, .int (iI (X_ro i j))), (2, .int (iI w))]) (st' := [.long (iL 0), .long (X_st (-2) (X_all G i j))]) rfl ?_
        refine T_lc_eq xr_34_32 xr_34_33 (t := 65) (pc' := 36) rfl rfl (fun c756 => ?_) (fun c756 => ?_)
        · skip
          have c756 : (X_st (-2) (X_all G i j)) = (iL 0) := c756
          refine T_p xr_34_65 xn_34 (pc' := 66) (ls' := [(5, .long (iL 0)), (4, .int (iI h)), (3, .ref aw), (0, .ref 511), (1, .int (iI (X_ro i j))), (2, .int (iI w))]) (st' := [.ref 511]) rfl ?_
          refine T_get xr_34_66 h754 rfl (v := .ref 515) rfl (pc' := 69) rfl ?_
          refine T_p xr_34_69 xn_34 (pc' := 70) (ls' := [(5, .long (iL 0)), (4, .int (iI h)), (3, .ref aw), (0, .ref 511), (1, .int (iI (X_ro i j))), (2, .int (iI w))]) (st' := [.int (iI (X_ro i j)), .ref 515]) rfl ?_
          refine T_p xr_34_70 xn_34 (pc' := 72) (ls' := [(5, .long (iL 0)), (4, .int (iI h)), (3, .ref aw), (0, .ref 511), (1, .int (iI (X_ro i j))), (2, .int (iI w))]) (st' := [.int (iI 30), .int (iI (X_ro i j)), .ref 515]) rfl ?_
          refine T_zimul xr_34_72 (z := (X_ro i j) * 30) rfl (pc' := 73) rfl ?_
          refine T_p xr_34_73 xn_34 (pc' := 74) (ls' := [(5, .long (iL 0)), (4, .int (iI h)), (3, .ref aw), (0, .ref 511), (1, .int (iI (X_ro i j))), (2, .int (iI w))]) (st' := [.int (iI w), .int (iI ((X_ro i j) * 30)), .ref 515]) rfl ?_
          refine T_ziadd xr_34_74 (z := ((X_ro i j) * 30) + w) rfl (pc' := 75) rfl ?_
          refine T_p xr_34_75 xn_34 (pc' := 76) (ls' := [(5, .long (iL 0)), (4, .int (iI h)), (3, .ref aw), (0, .ref 511), (1, .int (iI (X_ro i j))), (2, .int (iI w))]) (st' := [.int (iI 4), .int (iI (((X_ro i j) * 30) + w)), .ref 515]) rfl ?_
          refine T_zimul xr_34_76 (z := (((X_ro i j) * 30) + w) * 4) rfl (pc' := 77) rfl ?_
          refine T_p xr_34_77 xn_34 (pc' := 79) (ls' := [(5, .long (iL 0)), (4, .int (iI h)), (3, .ref aw), (0, .ref 511), (1, .int (iI (X_ro i j))), (2, .int (iI w))]) (st' := [.int (iI h), .int (iI ((((X_ro i j) * 30) + w) * 4)), .ref 515]) rfl ?_
          refine T_ziadd xr_34_79 (z := ((((X_ro i j) * 30) + w) * 4) + h) rfl (pc' := 80) rfl ?_
          refine T_p xr_34_80 xn_34 (pc' := 82) (ls' := [(5, .long (iL 0)), (4, .int (iI h)), (3, .ref aw), (0, .ref 511), (1, .int (iI (X_ro i j))), (2, .int (iI w))]) (st' := [.long (iL 0), .int (iI (((((X_ro i j) * 30) + w) * 4) + h)), .ref 515]) rfl ?_
          refine T_le (y := (X_st (-2) (X_Hw G (X_T_ G) w e i j))) (by rw [show X_Hw G (X_T_ G) w e i j = 0 from X_Hc_0 hG ((X_st_z (m := -2) (by omega)).mp (by assumption))]; rfl) ?_
          refine T_zlast xr_34_82 hoH1 (pc' := 83) rfl (fun S757 h758 n759 e760 => ?_)
          refine T_ziinc xr_34_83 xn_34 (a := h) (z := h + 1) rfl (Nat.le_of_ble_eq_true rfl) (by omega) (ls' := [(4, .int (iI (h + 1))), (5, .long (iL 0)), (3, .ref aw), (0, .ref 511), (1, .int (iI (X_ro i j))), (2, .int (iI w))]) rfl (pc' := 86) rfl ?_
          refine T_p xr_34_86 xn_34 (pc' := 13) (ls' := [(4, .int (iI (h + 1))), (5, .long (iL 0)), (3, .ref aw), (0, .ref 511), (1, .int (iI (X_ro i j))), (2, .int (iI w))]) (st' := []) rfl ?_
          refine T_sub (ls := [(4, .int (iI (h + 1))), (3, .ref aw), (0, .ref 511), (1, .int (iI (X_ro i j))), (2, .int (iI w))]) ⟨rfl, rfl, rfl, rfl, rfl, trivial⟩ rfl rfl ?_
          exact ih747 S757 (h + 1) (X_ug oH1 (((((X_ro i j) * 30) + w) * 4) + h) (X_st (-2) (X_Hw G (X_T_ G) w e i j))) h758 (hF750.tr ((X_Fr.rf).tr (X_Fr.of n759 e760 (by omega)))) (by omega) (fun e2 g1 g2 g3 g4 => by
                by_cases hh : gD G w 8 e2 = h
                · have ee : e2 = e := hgw.inj g1 g2 g3 he1 he2 he3 (by omega)
                  subst ee
                  rw [hh, X_ug_s]
                · rw [X_ug_n _ _ (by omega)]; exact hI e2 g1 g2 g3 (by omega)) (fun q hq => by rw [X_ug_n _ _ (by omega)]; exact hOo q hq) (by omega)
        · skip
          have c756 : ¬ ((X_st (-2) (X_all G i j)) = (iL 0)) := c756
          refine T_p xr_34_36 xn_34 (pc' := 37) (ls' := [(5, .long (iL 0)), (4, .int (iI h)), (3, .ref aw), (0, .ref 511), (1, .int (iI (X_ro i j))), (2, .int (iI w))]) (st' := [.ref 511]) rfl ?_
          refine T_p xr_34_37 xn_34 (pc' := 38) (ls' := [(5, .long (iL 0)), (4, .int (iI h)), (3, .ref aw), (0, .ref 511), (1, .int (iI (X_ro i j))), (2, .int (iI w))]) (st' := [.int (iI (X_ro i j)), .ref 511]) rfl ?_
          refine T_p xr_34_38 xn_34 (pc' := 39) (ls' := [(5, .long (iL 0)), (4, .int (iI h)), (3, .ref aw), (0, .ref 511), (1, .int (iI (X_ro i j))), (2, .int (iI w))]) (st' := [.ref aw, .int (iI (X_ro i j)), .ref 511]) rfl ?_
          refine T_get xr_34_39 h752 rfl (v := .ref (aw + 5)) rfl (pc' := 42) rfl ?_
          refine T_p xr_34_42 xn_34 (pc' := 44) (ls' := [(5, .long (iL 0)), (4, .int (iI h)), (3, .ref aw), (0, .ref 511), (1, .int (iI (X_ro i j))), (2, .int (iI w))]) (st' := [.int (iI h), .ref (aw + 5), .int (iI (X_ro i j)), .ref 511]) rfl ?_
          have h761 := (hF750.1 (aw + 5) (by omega)).trans (hwaw.1.2.2.2.2.2.1)
          refine T_ziald xr_34_44 h761 (pc' := 45) rfl ?_
          refine T_cv (S := S751) (q := 511) xr_34_45 xf_29.1 xf_29.2.1 xn_29 (as := [.int (iI (X_ro i j)), .int (iI (((gD G) w 11) h))]) (r := []) rfl h754 (Nat.le_of_ble_eq_true rfl) (Nat.le_of_ble_eq_true rfl) (pc' := 48) rfl (ls' := [(0, .ref 511), (1, .int (iI (X_ro i j))), (2, .int (iI (((gD G) w 11) h)))]) rfl ?_
          have h762 := (hF750.1 512 (by omega)).trans (hA512)
          have h763 := (hF750.1 B (by omega)).trans (hb0)
          have h764 := (hF750.1 (B + 1) (by omega)).trans (hb1)
          have h765 := (hF750.1 (B + 2) (by omega)).trans (hb2)
          have h766 := (hF750.1 (B + 3) (by omega)).trans (hb3)
          have h767 := (hF750.1 (B + 4) (by omega)).trans (hb4)
          have h768 := (hF750.1 (B + 5) (by omega)).trans (hb5)
          have hs769 : C_ws S751 B (gD G) (gW G) := C_ws.fr (P := fun q => 501 ≤ q ∧ q ≤ 529) hs ((X_Fr.rf).tr (X_Fr.mono ⟨hF750.1, hF750.2⟩ (fun q hq => (by omega)))) (fun k h1 h2 => by omega)
          refine T_mono (c_sumK sc S751 oK B rc rn kn G tn fl (X_ro i j) (((gD G) w 11) h) (fun z => X_nm G z i j + (X_T_ G).2 z i j) h754 h762 hB ⟨h763, h764, h765, h766, h767, ⟨f, h768, hf⟩, ⟨by omega, by omega⟩, ⟨by omega, by omega⟩, ⟨by omega, by omega⟩⟩ hs769 hG (by omega) hK) (fun v770 S771 h772 => ?_)
          rcases h772 with ⟨hv773, hf774⟩
          rw [hv773]
          rw [hf774]
          show X_T sc 34 (48, [(5, .long (iL 0)), (4, .int (iI h)), (3, .ref aw), (0, .ref 511), (1, .int (iI (X_ro i j))), (2, .int (iI w))], [.long (X_st (-2) (X_Su (fun k => X_if (X_bt (((gD G) w 11) h) k) ((fun z => X_nm G z i j + (X_T_ G).2 z i j) k)) 0 (gk G)))], S751) _
          refine T_p xr_34_48 xn_34 (pc' := 49) (ls' := [(5, .long (iL 0)), (4, .int (iI h)), (3, .ref aw), (0, .ref 511), (1, .int (iI (X_ro i j))), (2, .int (iI w))]) (st' := [.ref 511, .long (X_st (-2) (X_Su (fun k => X_if (X_bt (((gD G) w 11) h) k) ((fun z => X_nm G z i j + (X_T_ G).2 z i j) k)) 0 (gk G)))]) rfl ?_
          refine T_p xr_34_49 xn_34 (pc' := 50) (ls' := [(5, .long (iL 0)), (4, .int (iI h)), (3, .ref aw), (0, .ref 511), (1, .int (iI (X_ro i j))), (2, .int (iI w))]) (st' := [.int (iI (X_ro i j)), .ref 511, .long (X_st (-2) (X_Su (fun k => X_if (X_bt (((gD G) w 11) h) k) ((fun z => X_nm G z i j + (X_T_ G).2 z i j) k)) 0 (gk G)))]) rfl ?_
          refine T_p xr_34_50 xn_34 (pc' := 51) (ls' := [(5, .long (iL 0)), (4, .int (iI h)), (3, .ref aw), (0, .ref 511), (1, .int (iI (X_ro i j))), (2, .int (iI w))]) (st' := [.ref aw, .int (iI (X_ro i j)), .ref 511, .long (X_st (-2) (X_Su (fun k => X_if (X_bt (((gD G) w 11) h) k) ((fun z => X_nm G z i j + (X_T_ G).2 z i j) k)) 0 (gk G)))]) rfl ?_
          refine T_get xr_34_51 h752 rfl (v := .ref (aw + 4)) rfl (pc' := 54) rfl ?_
          refine T_p xr_34_54 xn_34 (pc' := 56) (ls' := [(5, .long (iL 0)), (4, .int (iI h)), (3, .ref aw), (0, .ref 511), (1, .int (iI (X_ro i j))), (2, .int (iI w))]) (st' := [.int (iI h), .ref (aw + 4), .int (iI (X_ro i j)), .ref 511, .long (X_st (-2) (X_Su (fun k => X_if (X_bt (((gD G) w 11) h) k) ((fun z => X_nm G z i j + (X_T_ G).2 z i j) k)) 0 (gk G)))]) rfl ?_
          have h775 := (hF750.1 (aw + 4) (by omega)).trans (hwaw.1.2.2.2.2.1)
          refine T_ziald xr_34_56 h775 (pc' := 57) rfl ?_
          refine T_cv (S := S751) (q := 511) xr_34_57 xf_30.1 xf_30.2.1 xn_30 (as := [.int (iI (X_ro i j)), .int (iI (((gD G) w 10) h))]) (r := [.long (X_st (-2) (X_Su (fun k => X_if (X_bt (((gD G) w 11) h) k) ((fun z => X_nm G z i j + (X_T_ G).2 z i j) k)) 0 (gk G)))]) rfl h754 (Nat.le_of_ble_eq_true rfl) (Nat.le_of_ble_eq_true rfl) (pc' := 60) rfl (ls' := [(0, .ref 511), (1, .int (iI (X_ro i j))), (2, .int (iI (((gD G) w 10) h)))]) rfl ?_
          have h776 := (hF750.1 513 (by omega)).trans (hA513)
          refine T_mono (c_sumW sc S751 oW B rc rn kn G tn fl (X_ro i j) (((gD G) w 10) h) (fun v => (X_T_ G).1 v i j) h754 h776 hB ⟨h763, h764, h765, h766, h767, ⟨f, h768, hf⟩, ⟨by omega, by omega⟩, ⟨by omega, by omega⟩, ⟨by omega, by omega⟩⟩ hs769 hG (by omega) hW) (fun v777 S778 h779 => ?_)
          rcases h779 with ⟨hv780, hf781⟩
          rw [hv780]
          rw [hf781]
          show X_T sc 34 (60, [(5, .long (iL 0)), (4, .int (iI h)), (3, .ref aw), (0, .ref 511), (1, .int (iI (X_ro i j))), (2, .int (iI w))], [.long (X_st (-2) (X_Su (fun k => X_if (X_bt (((gD G) w 10) h) k) ((fun v => (X_T_ G).1 v i j) k)) 0 (gw G))), .long (X_st (-2) (X_Su (fun k => X_if (X_bt (((gD G) w 11) h) k) ((fun z => X_nm G z i j + (X_T_ G).2 z i j) k)) 0 (gk G)))], S751) _
          refine T_cs xr_34_60 (by decide) xf_134.1 xn_134 (as := [.long (X_st (-2) (X_Su (fun k => X_if (X_bt (((gD G) w 11) h) k) ((fun z => X_nm G z i j + (X_T_ G).2 z i j) k)) 0 (gk G))), .long (X_st (-2) (X_Su (fun k => X_if (X_bt (((gD G) w 10) h) k) ((fun v => (X_T_ G).1 v i j) k)) 0 (gw G)))]) (r := []) rfl (Nat.le_of_ble_eq_true rfl) (Nat.le_of_ble_eq_true rfl) (pc' := 63) rfl (ls' := [(0, .long (X_st (-2) (X_Su (fun k => X_if (X_bt (((gD G) w 11) h) k) ((fun z => X_nm G z i j + (X_T_ G).2 z i j) k)) 0 (gk G)))), (2, .long (X_st (-2) (X_Su (fun k => X_if (X_bt (((gD G) w 10) h) k) ((fun v => (X_T_ G).1 v i j) k)) 0 (gw G))))]) rfl ?_
          refine T_mono (c_plus sc S751 (X_Su (fun k => X_if (X_bt (((gD G) w 11) h) k) ((fun z => X_nm G z i j + (X_T_ G).2 z i j) k)) 0 (gk G)) (X_Su (fun k => X_if (X_bt (((gD G) w 10) h) k) ((fun v => (X_T_ G).1 v i j) k)) 0 (gw G))) (fun v782 S783 h784 => ?_)
          rcases h784 with ⟨hv785, hf786⟩
          rw [hv785]
          rw [hf786]
          show X_T sc 34 (63, [(5, .long (iL 0)), (4, .int (iI h)), (3, .ref aw), (0, .ref 511), (1, .int (iI (X_ro i j))), (2, .int (iI w))], [.long (X_st (-2) ((X_Su (fun k => X_if (X_bt (((gD G) w 11) h) k) ((fun z => X_nm G z i j + (X_T_ G).2 z i j) k)) 0 (gk G)) + (X_Su (fun k => X_if (X_bt (((gD G) w 10) h) k) ((fun v => (X_T_ G).1 v i j) k)) 0 (gw G))))], S751) _
          refine T_p xr_34_63 xn_34 (pc' := 65) (ls' := [(5, .long (X_st (-2) ((X_Su (fun k => X_if (X_bt (((gD G) w 11) h) k) ((fun z => X_nm G z i j + (X_T_ G).2 z i j) k)) 0 (gk G)) + (X_Su (fun k => X_if (X_bt (((gD G) w 10) h) k) ((fun v => (X_T_ G).1 v i j) k)) 0 (gw G))))), (4, .int (iI h)), (3, .ref aw), (0, .ref 511), (1, .int (iI (X_ro i j))), (2, .int (iI w))]) (st' := []) rfl ?_
          refine T_p xr_34_65 xn_34 (pc' := 66) (ls' := [(5, .long (X_st (-2) ((X_Su (fun k => X_if (X_bt (((gD G) w 11) h) k) ((fun z => X_nm G z i j + (X_T_ G).2 z i j) k)) 0 (gk G)) + (X_Su (fun k => X_if (X_bt (((gD G) w 10) h) k) ((fun v => (X_T_ G).1 v i j) k)) 0 (gw G))))), (4, .int (iI h)), (3, .ref aw), (0, .ref 511), (1, .int (iI (X_ro i j))), (2, .int (iI w))]) (st' := [.ref 511]) rfl ?_
          refine T_get xr_34_66 h754 rfl (v := .ref 515) rfl (pc' := 69) rfl ?_
          refine T_p xr_34_69 xn_34 (pc' := 70) (ls' := [(5, .long (X_st (-2) ((X_Su (fun k => X_if (X_bt (((gD G) w 11) h) k) ((fun z => X_nm G z i j + (X_T_ G).2 z i j) k)) 0 (gk G)) + (X_Su (fun k => X_if (X_bt (((gD G) w 10) h) k) ((fun v => (X_T_ G).1 v i j) k)) 0 (gw G))))), (4, .int (iI h)), (3, .ref aw), (0, .ref 511), (1, .int (iI (X_ro i j))), (2, .int (iI w))]) (st' := [.int (iI (X_ro i j)), .ref 515]) rfl ?_
          refine T_p xr_34_70 xn_34 (pc' := 72) (ls' := [(5, .long (X_st (-2) ((X_Su (fun k => X_if (X_bt (((gD G) w 11) h) k) ((fun z => X_nm G z i j + (X_T_ G).2 z i j) k)) 0 (gk G)) + (X_Su (fun k => X_if (X_bt (((gD G) w 10) h) k) ((fun v => (X_T_ G).1 v i j) k)) 0 (gw G))))), (4, .int (iI h)), (3, .ref aw), (0, .ref 511), (1, .int (iI (X_ro i j))), (2, .int (iI w))]) (st' := [.int (iI 30), .int (iI (X_ro i j)), .ref 515]) rfl ?_
          refine T_zimul xr_34_72 (z := (X_ro i j) * 30) rfl (pc' := 73) rfl ?_
          refine T_p xr_34_73 xn_34 (pc' := 74) (ls' := [(5, .long (X_st (-2) ((X_Su (fun k => X_if (X_bt (((gD G) w 11) h) k) ((fun z => X_nm G z i j + (X_T_ G).2 z i j) k)) 0 (gk G)) + (X_Su (fun k => X_if (X_bt (((gD G) w 10) h) k) ((fun v => (X_T_ G).1 v i j) k)) 0 (gw G))))), (4, .int (iI h)), (3, .ref aw), (0, .ref 511), (1, .int (iI (X_ro i j))), (2, .int (iI w))]) (st' := [.int (iI w), .int (iI ((X_ro i j) * 30)), .ref 515]) rfl ?_
          refine T_ziadd xr_34_74 (z := ((X_ro i j) * 30) + w) rfl (pc' := 75) rfl ?_
          refine T_p xr_34_75 xn_34 (pc' := 76) (ls' := [(5, .long (X_st (-2) ((X_Su (fun k => X_if (X_bt (((gD G) w 11) h) k) ((fun z => X_nm G z i j + (X_T_ G).2 z i j) k)) 0 (gk G)) + (X_Su (fun k => X_if (X_bt (((gD G) w 10) h) k) ((fun v => (X_T_ G).1 v i j) k)) 0 (gw G))))), (4, .int (iI h)), (3, .ref aw), (0, .ref 511), (1, .int (iI (X_ro i j))), (2, .int (iI w))]) (st' := [.int (iI 4), .int (iI (((X_ro i j) * 30) + w)), .ref 515]) rfl ?_
          refine T_zimul xr_34_76 (z := (((X_ro i j) * 30) + w) * 4) rfl (pc' := 77) rfl ?_
          refine T_p xr_34_77 xn_34 (pc' := 79) (ls' := [(5, .long (X_st (-2) ((X_Su (fun k => X_if (X_bt (((gD G) w 11) h) k) ((fun z => X_nm G z i j + (X_T_ G).2 z i j) k)) 0 (gk G)) + (X_Su (fun k => X_if (X_bt (((gD G) w 10) h) k) ((fun v => (X_T_ G).1 v i j) k)) 0 (gw G))))), (4, .int (iI h)), (3, .ref aw), (0, .ref 511), (1, .int (iI (X_ro i j))), (2, .int (iI w))]) (st' := [.int (iI h), .int (iI ((((X_ro i j) * 30) + w) * 4)), .ref 515]) rfl ?_
          refine T_ziadd xr_34_79 (z := ((((X_ro i j) * 30) + w) * 4) + h) rfl (pc' := 80) rfl ?_
          refine T_p xr_34_80 xn_34 (pc' := 82) (ls' := [(5, .long (X_st (-2) ((X_Su (fun k => X_if (X_bt (((gD G) w 11) h) k) ((fun z => X_nm G z i j + (X_T_ G).2 z i j) k)) 0 (gk G)) + (X_Su (fun k => X_if (X_bt (((gD G) w 10) h) k) ((fun v => (X_T_ G).1 v i j) k)) 0 (gw G))))), (4, .int (iI h)), (3, .ref aw), (0, .ref 511), (1, .int (iI (X_ro i j))), (2, .int (iI w))]) (st' := [.long (X_st (-2) ((X_Su (fun k => X_if (X_bt (((gD G) w 11) h) k) ((fun z => X_nm G z i j + (X_T_ G).2 z i j) k)) 0 (gk G)) + (X_Su (fun k => X_if (X_bt (((gD G) w 10) h) k) ((fun v => (X_T_ G).1 v i j) k)) 0 (gw G)))), .int (iI (((((X_ro i j) * 30) + w) * 4) + h)), .ref 515]) rfl ?_
          refine T_le (y := (X_st (-2) (X_Hw G (X_T_ G) w e i j))) (by rw [X_Hw_b hG hw.1 hw.2 he1 he2 he3, he4]) ?_
          refine T_zlast xr_34_82 hoH1 (pc' := 83) rfl (fun S787 h788 n789 e790 => ?_)
          refine T_ziinc xr_34_83 xn_34 (a := h) (z := h + 1) rfl (Nat.le_of_ble_eq_true rfl) (by omega) (ls' := [(4, .int (iI (h + 1))), (5, .long (X_st (-2) ((X_Su (fun k => X_if (X_bt (((gD G) w 11) h) k) ((fun z => X_nm G z i j + (X_T_ G).2 z i j) k)) 0 (gk G)) + (X_Su (fun k => X_if (X_bt (((gD G) w 10) h) k) ((fun v => (X_T_ G).1 v i j) k)) 0 (gw G))))), (3, .ref aw), (0, .ref 511), (1, .int (iI (X_ro i j))), (2, .int (iI w))]) rfl (pc' := 86) rfl ?_
          refine T_p xr_34_86 xn_34 (pc' := 13) (ls' := [(4, .int (iI (h + 1))), (5, .long (X_st (-2) ((X_Su (fun k => X_if (X_bt (((gD G) w 11) h) k) ((fun z => X_nm G z i j + (X_T_ G).2 z i j) k)) 0 (gk G)) + (X_Su (fun k => X_if (X_bt (((gD G) w 10) h) k) ((fun v => (X_T_ G).1 v i j) k)) 0 (gw G))))), (3, .ref aw), (0, .ref 511), (1, .int (iI (X_ro i j))), (2, .int (iI w))]) (st' := []) rfl ?_
          refine T_sub (ls := [(4, .int (iI (h + 1))), (3, .ref aw), (0, .ref 511), (1, .int (iI (X_ro i j))), (2, .int (iI w))]) ⟨rfl, rfl, rfl, rfl, rfl, trivial⟩ rfl rfl ?_
          exact ih747 S787 (h + 1) (X_ug oH1 (((((X_ro i j) * 30) + w) * 4) + h) (X_st (-2) (X_Hw G (X_T_ G) w e i j))) h788 (hF750.tr ((X_Fr.rf).tr (X_Fr.of n789 e790 (by omega)))) (by omega) (fun e2 g1 g2 g3 g4 => by
                by_cases hh : gD G w 8 e2 = h
                · have ee : e2 = e := hgw.inj g1 g2 g3 he1 he2 he3 (by omega)
                  subst ee
                  rw [hh, X_ug_s]
                · rw [X_ug_n _ _ (by omega)]; exact hI e2 g1 g2 g3 (by omega)) (fun q hq => by rw [X_ug_n _ _ (by omega)]; exact hOo q hq) (by omega)
  exact L746 ((gD G w 4 0) + 1).toNat S 0 oH hA515 ((X_Fr.rf)) (by omega) (fun e g1 g2 g3 g4 => absurd g4 (by have := hgw.hole g1 g2 g3; omega)) (fun _ _ => rfl) (by omega)
theorem c_fillKinds (sc : X_Sc) (S : X_S) (oK : Int → Int64) (oW : Int → Int64) (B : Nat) (rc : Int) (rn : Int → Int64) (kn : Int → Int64) (G : X_G) (tn : Int) (fl : Int) (i : Int) (j : Int) (hO501 : S.1 501 = .inr (6, [.int (iI tn), .ref 502, .ref 503])) (hO511 : S.1 511 = .inr (1, [.ref B, .ref 501, .int (iI fl), .ref 512, .ref 513, .ref 514, .ref 515, .ref 516])) (hA512 : S.1 512 = .inl (.long, 5115, .inr (.inl fun k : Nat => oK (k : Int)))) (hA513 : S.1 513 = .inl (.long, 13950, .inr (.inl fun k : Nat => oW (k : Int)))) (hB : B = 4 ∨ B = 250) (hb : C_bk S B rc (gk G) (gw G) rn (gl G) kn (ga G)) (hs : C_ws S B (gD G) (gW G)) (hG : X_Gok G) (hA502 : S.1 502 = .inl (.long, 30, .inr (.inl fun k : Nat => (gt G) (k : Int)))) (hij : 0 ≤ i ∧ i < j ∧ j ≤ tn ∧ tn ≤ 30) (hR : X_brk G i j → (∀ k, 0 ≤ k → k < gk G → oK (X_ro (i + 1) (j - 1) * 11 + k) = X_st (-2) (X_nm G k (i + 1) (j - 1) + (X_T_ G).2 k (i + 1) (j - 1))) ∧ (∀ w, 0 ≤ w → w < gw G → oW (X_ro (i + 1) (j - 1) * 30 + w) = X_st (-2) ((X_T_ G).1 w (i + 1) (j - 1)))) : X_T sc 33 (0, [(0, .ref 511), (1, .int (iI i)), (2, .int (iI j))], [], S) (fun v S' => ∃ (oK1 : Int → Int64), v = none ∧ (∀ k, 0 ≤ k → k < gk G → oK1 (X_ro i j * 11 + k) = X_st (-2) (X_nm G k i j + (X_T_ G).2 k i j)) ∧ (∀ q, ¬ (X_ro i j * 11 ≤ q ∧ q < X_ro i j * 11 + 11) → oK1 q = oK q) ∧ S'.1 512 = .inl (.long, 5115, .inr (.inl fun k : Nat => oK1 (k : Int))) ∧ X_Fr (fun q => q = 512) S S') := by
  obtain ⟨hb0, hb1, hb2, hb3, hb4, ⟨f, hb5, hf⟩, ⟨hrc, hrcb⟩, ⟨hkc, hkcb⟩, ⟨hwc, hwcb⟩⟩ := id hb
  have hkr := hG.2.1
  have hro := X_ro_r hij.1 hij.2.1 (show j ≤ 30 by omega)
  refine X_QI (fun Q hQ => ?_)
  refine T_p xr_33_0 xn_33 (pc' := 1) (ls' := [(0, .ref 511), (1, .int (iI i)), (2, .int (iI j))]) (st' := [.int (iI i)]) rfl ?_
  refine T_p xr_33_1 xn_33 (pc' := 2) (ls' := [(0, .ref 511), (1, .int (iI i)), (2, .int (iI j))]) (st' := [.int (iI j), .int (iI i)]) rfl ?_
  refine T_cs xr_33_2 (by decide) xf_24.1 xn_24 (as := [.int (iI i), .int (iI j)]) (r := []) rfl (Nat.le_of_ble_eq_true rfl) (Nat.le_of_ble_eq_true rfl) (pc' := 5) rfl (ls' := [(0, .int (iI i)), (1, .int (iI j))]) rfl ?_
  refine T_mono (c_rowOf sc S i j (by omega)) (fun v791 S792 h793 => ?_)
  rcases h793 with ⟨hv794, hf795⟩
  rw [hv794]
  rw [hf795]
  have hr796 := X_ro_r (i := i) (j := j) (by omega) (by omega) (by omega)
  show X_T sc 33 (5, [(0, .ref 511), (1, .int (iI i)), (2, .int (iI j))], [.int (iI (X_ro i j))], S) _
  refine T_p xr_33_5 xn_33 (pc' := 6) (ls' := [(3, .int (iI (X_ro i j))), (0, .ref 511), (1, .int (iI i)), (2, .int (iI j))]) (st' := []) rfl ?_
  refine T_p xr_33_6 xn_33 (pc' := 7) (ls' := [(3, .int (iI (X_ro i j))), (0, .ref 511), (1, .int (iI i)), (2, .int (iI j))]) (st' := [.int (iI 0)]) rfl ?_
  refine T_p xr_33_7 xn_33 (pc' := 9) (ls' := [(4, .int (iI 0)), (3, .int (iI (X_ro i j))), (0, .ref 511), (1, .int (iI i)), (2, .int (iI j))]) (st' := []) rfl ?_
  have L797 : ∀ (m799 : Nat) (S802 : X_S) (k : Int) (oK1 : Int → Int64) (hoK1 : S802.1 512 = .inl (.long, 5115, .inr (.inl fun k : Nat => oK1 (k : Int)))) (hF801 : X_Fr (fun q => q = 512) S S802) (hk : 0 ≤ k ∧ k ≤ gk G) (hz : ∀ z, 0 ≤ z → z < k → oK1 (X_ro i j * 11 + z) = iL 0) (hOk : ∀ q, ¬ (X_ro i j * 11 ≤ q ∧ q < X_ro i j * 11 + 11) → oK1 q = oK q) (hm800 : gk G - k < m799), X_T sc 33 (9, [(4, .int (iI k)), (3, .int (iI (X_ro i j))), (0, .ref 511), (1, .int (iI i)), (2, .int (iI j))], [], S802) Q := by
    intro m799
    induction m799 with
    | zero =>
      intro S802 k oK1 hoK1 hF801 hk hz hOk hm800
      exact (show False by omega).elim
    | succ m799 ih798 =>
      intro S802 k oK1 hoK1 hF801 hk hz hOk hm800
      refine T_p xr_33_9 xn_33 (pc' := 11) (ls' := [(4, .int (iI k)), (3, .int (iI (X_ro i j))), (0, .ref 511), (1, .int (iI i)), (2, .int (iI j))]) (st' := [.int (iI k)]) rfl ?_
      refine T_p xr_33_11 xn_33 (pc' := 12) (ls' := [(4, .int (iI k)), (3, .int (iI (X_ro i j))), (0, .ref 511), (1, .int (iI i)), (2, .int (iI j))]) (st' := [.ref 511, .int (iI k)]) rfl ?_
      have h803 := (hF801.1 511 (by omega)).trans (hO511)
      refine T_get xr_33_12 h803 rfl (v := .ref B) rfl (pc' := 15) rfl ?_
      have h804 := (hF801.1 B (by omega)).trans (hb0)
      refine T_get xr_33_15 h804 rfl (v := .int (iI (gk G))) rfl (pc' := 18) rfl ?_
      refine T_zicmp_ge xr_33_18 (t := 40) (pc' := 21) rfl rfl (fun c805 => ?_) (fun c805 => ?_)
      · skip
        have c805 : (gk G) ≤ k := c805
        refine T_p xr_33_40 xn_33 (pc' := 41) (ls' := [(4, .int (iI k)), (3, .int (iI (X_ro i j))), (0, .ref 511), (1, .int (iI i)), (2, .int (iI j))]) (st' := [.int (iI j)]) rfl ?_
        refine T_p xr_33_41 xn_33 (pc' := 42) (ls' := [(4, .int (iI k)), (3, .int (iI (X_ro i j))), (0, .ref 511), (1, .int (iI i)), (2, .int (iI j))]) (st' := [.int (iI i), .int (iI j)]) rfl ?_
        refine T_p xr_33_42 xn_33 (pc' := 43) (ls' := [(4, .int (iI k)), (3, .int (iI (X_ro i j))), (0, .ref 511), (1, .int (iI i)), (2, .int (iI j))]) (st' := [.int (iI 1), .int (iI i), .int (iI j)]) rfl ?_
        refine T_ziadd xr_33_43 (z := i + 1) rfl (pc' := 44) rfl ?_
        refine T_zicmp_ne xr_33_44 (t := 79) (pc' := 47) rfl rfl (fun c806 => ?_) (fun c806 => ?_)
        · skip
          have c806 : ¬ j = (i + 1) := c806
          refine T_p xr_33_79 xn_33 (pc' := 80) (ls' := [(4, .int (iI k)), (3, .int (iI (X_ro i j))), (0, .ref 511), (1, .int (iI i)), (2, .int (iI j))]) (st' := [.ref 511]) rfl ?_
          refine T_get xr_33_80 h803 rfl (v := .ref 501) rfl (pc' := 83) rfl ?_
          refine T_p xr_33_83 xn_33 (pc' := 84) (ls' := [(4, .int (iI k)), (3, .int (iI (X_ro i j))), (0, .ref 511), (1, .int (iI i)), (2, .int (iI j))]) (st' := [.int (iI i), .ref 501]) rfl ?_
          refine T_p xr_33_84 xn_33 (pc' := 85) (ls' := [(4, .int (iI k)), (3, .int (iI (X_ro i j))), (0, .ref 511), (1, .int (iI i)), (2, .int (iI j))]) (st' := [.int (iI j), .int (iI i), .ref 501]) rfl ?_
          have h807 := (hF801.1 501 (by omega)).trans (hO501)
          refine T_cv (S := S802) (q := 501) xr_33_85 xf_90.1 xf_90.2.1 xn_90 (as := [.int (iI i), .int (iI j)]) (r := []) rfl h807 (Nat.le_of_ble_eq_true rfl) (Nat.le_of_ble_eq_true rfl) (pc' := 88) rfl (ls' := [(0, .ref 501), (1, .int (iI i)), (2, .int (iI j))]) rfl ?_
          have h808 := (hF801.1 502 (by omega)).trans (hA502)
          refine T_mono (c_isBracketed sc S802 tn G i j h807 h808 (by omega)) (fun v809 S810 h811 => ?_)
          rcases h811 with ⟨hv812, hf813⟩
          rw [hv812]
          rw [hf813]
          show X_T sc 33 (88, [(4, .int (iI k)), (3, .int (iI (X_ro i j))), (0, .ref 511), (1, .int (iI i)), (2, .int (iI j))], [.int (iI (bI (X_brk G i j)))], S802) _
          refine T_bif_eq xr_33_88 (t := 167) (pc' := 91) rfl rfl (fun c814 => ?_) (fun c814 => ?_)
          · skip
            have c814 : ¬ (X_brk G i j) := c814
            refine T_vret xr_33_167 xf_33.2.2 ?_
            refine hQ _ _ ?_
            exact ⟨oK1, rfl, (fun k h1 h2 => by
                  first
                    | (rw [(X_nmB (k := k) hij.2.1 (by omega)).1 (by omega), X_if_f (fun z => absurd z.1 (by assumption))]; exact hz k h1 (by omega))
                    | (rw [(X_nmB (k := k) hij.2.1 (by omega)).2 (by omega), X_if_f (by assumption)]; exact hz k h1 (by omega))), hOk, hoK1, (X_Fr.rf).tr (X_Fr.mono ⟨hF801.1, hF801.2⟩ (fun q hq => (by omega)))⟩
          · skip
            have c814 : (X_brk G i j) := c814
            have hbk : X_brk G i j := by assumption
            obtain ⟨hRK, hRW⟩ := hR hbk
            have hbk3 := hbk.1
            have hro2 := X_ro_r (i := i + 1) (j := j - 1) (by omega) (by omega) (by omega)
            have hne := X_ro_ne (i := i + 1) (j := j - 1) (i' := i) (j' := j) (by omega) (by omega) (by omega)
            refine T_p xr_33_91 xn_33 (pc' := 92) (ls' := [(4, .int (iI k)), (3, .int (iI (X_ro i j))), (0, .ref 511), (1, .int (iI i)), (2, .int (iI j))]) (st' := [.int (iI i)]) rfl ?_
            refine T_p xr_33_92 xn_33 (pc' := 93) (ls' := [(4, .int (iI k)), (3, .int (iI (X_ro i j))), (0, .ref 511), (1, .int (iI i)), (2, .int (iI j))]) (st' := [.int (iI 1), .int (iI i)]) rfl ?_
            refine T_ziadd xr_33_93 (z := i + 1) rfl (pc' := 94) rfl ?_
            refine T_p xr_33_94 xn_33 (pc' := 95) (ls' := [(4, .int (iI k)), (3, .int (iI (X_ro i j))), (0, .ref 511), (1, .int (iI i)), (2, .int (iI j))]) (st' := [.int (iI j), .int (iI (i + 1))]) rfl ?_
            refine T_p xr_33_95 xn_33 (pc' := 96) (ls' := [(4, .int (iI k)), (3, .int (iI (X_ro i j))), (0, .ref 511), (1, .int (iI i)), (2, .int (iI j))]) (st' := [.int (iI 1), .int (iI j), .int (iI (i + 1))]) rfl ?_
            refine T_zisub xr_33_96 (z := j - 1) rfl (pc' := 97) rfl ?_
            refine T_cs xr_33_97 (by decide) xf_24.1 xn_24 (as := [.int (iI (i + 1)), .int (iI (j - 1))]) (r := []) rfl (Nat.le_of_ble_eq_true rfl) (Nat.le_of_ble_eq_true rfl) (pc' := 100) rfl (ls' := [(0, .int (iI (i + 1))), (1, .int (iI (j - 1)))]) rfl ?_
            refine T_mono (c_rowOf sc S802 (i + 1) (j - 1) (by omega)) (fun v815 S816 h817 => ?_)
            rcases h817 with ⟨hv818, hf819⟩
            rw [hv818]
            rw [hf819]
            have hr820 := X_ro_r (i := (i + 1)) (j := (j - 1)) (by omega) (by omega) (by omega)
            show X_T sc 33 (100, [(4, .int (iI k)), (3, .int (iI (X_ro i j))), (0, .ref 511), (1, .int (iI i)), (2, .int (iI j))], [.int (iI (X_ro (i + 1) (j - 1)))], S802) _
            refine T_p xr_33_100 xn_33 (pc' := 102) (ls' := [(4, .int (iI (X_ro (i + 1) (j - 1)))), (3, .int (iI (X_ro i j))), (0, .ref 511), (1, .int (iI i)), (2, .int (iI j))]) (st' := []) rfl ?_
            refine T_p xr_33_102 xn_33 (pc' := 103) (ls' := [(4, .int (iI (X_ro (i + 1) (j - 1)))), (3, .int (iI (X_ro i j))), (0, .ref 511), (1, .int (iI i)), (2, .int (iI j))]) (st' := [.int (iI 0)]) rfl ?_
            refine T_p xr_33_103 xn_33 (pc' := 105) (ls' := [(5, .int (iI 0)), (4, .int (iI (X_ro (i + 1) (j - 1)))), (3, .int (iI (X_ro i j))), (0, .ref 511), (1, .int (iI i)), (2, .int (iI j))]) (st' := []) rfl ?_
            have L821 : ∀ (m823 : Nat) (S826 : X_S) (kd : Int) (oK2 : Int → Int64) (hoK2 : S826.1 512 = .inl (.long, 5115, .inr (.inl fun k : Nat => oK2 (k : Int)))) (hF825 : X_Fr (fun q => q = 512) S802 S826) (hkd : 0 ≤ kd ∧ kd ≤ gk G) (hI : ∀ z, 0 ≤ z → z < kd → oK2 (X_ro i j * 11 + z) = X_st (-2) (X_Kd G (X_T_ G) z (i + 1) (j - 1))) (hOk2 : ∀ q, ¬ (X_ro i j * 11 ≤ q ∧ q < X_ro i j * 11 + 11) → oK2 q = oK q) (hm824 : gk G - kd < m823), X_T sc 33 (105, [(5, .int (iI kd)), (4, .int (iI (X_ro (i + 1) (j - 1)))), (3, .int (iI (X_ro i j))), (0, .ref 511), (1, .int (iI i)), (2, .int (iI j))], [], S826) Q := by
              intro m823
              induction m823 with
              | zero =>
                intro S826 kd oK2 hoK2 hF825 hkd hI hOk2 hm824
                exact (show False by omega).elim
              | succ m823 ih822 =>
                intro S826 kd oK2 hoK2 hF825 hkd hI hOk2 hm824
                refine T_p xr_33_105 xn_33 (pc' := 107) (ls' := [(5, .int (iI kd)), (4, .int (iI (X_ro (i + 1) (j - 1)))), (3, .int (iI (X_ro i j))), (0, .ref 511), (1, .int (iI i)), (2, .int (iI j))]) (st' := [.int (iI kd)]) rfl ?_
                refine T_p xr_33_107 xn_33 (pc' := 108) (ls' := [(5, .int (iI kd)), (4, .int (iI (X_ro (i + 1) (j - 1)))), (3, .int (iI (X_ro i j))), (0, .ref 511), (1, .int (iI i)), (2, .int (iI j))]) (st' := [.ref 511, .int (iI kd)]) rfl ?_
                have h827 := (hF825.1 511 (by omega)).trans (h803)
                refine T_get xr_33_108 h827 rfl (v := .ref B) rfl (pc' := 111) rfl ?_
                have h828 := (hF825.1 B (by omega)).trans (h804)
                refine T_get xr_33_111 h828 rfl (v := .int (iI (gk G))) rfl (pc' := 114) rfl ?_
                refine T_zicmp_ge xr_33_114 (t := 167) (pc' := 117) rfl rfl (fun c829 => ?_) (fun c829 => ?_)
                · skip
                  have c829 : (gk G) ≤ kd := c829
                  refine T_vret xr_33_167 xf_33.2.2 ?_
                  refine hQ _ _ ?_
                  exact ⟨oK2, rfl, (fun k h1 h2 => by rw [(X_nmB (k := k) hij.2.1 (by omega)).2 (by omega), X_if_t hbk]; exact hI k h1 (by omega)), hOk2, hoK2, ((X_Fr.rf).tr (X_Fr.mono ⟨hF801.1, hF801.2⟩ (fun q hq => (by omega)))).tr (X_Fr.mono ⟨hF825.1, hF825.2⟩ (fun q hq => (by omega)))⟩
                · skip
                  have c829 : ¬ ((gk G) ≤ kd) := c829
                  have hkk : kd < gk G := by omega
                  refine T_p xr_33_117 xn_33 (pc' := 118) (ls' := [(5, .int (iI kd)), (4, .int (iI (X_ro (i + 1) (j - 1)))), (3, .int (iI (X_ro i j))), (0, .ref 511), (1, .int (iI i)), (2, .int (iI j))]) (st' := [.int (iI 1)]) rfl ?_
                  refine T_p xr_33_118 xn_33 (pc' := 120) (ls' := [(5, .int (iI kd)), (4, .int (iI (X_ro (i + 1) (j - 1)))), (3, .int (iI (X_ro i j))), (0, .ref 511), (1, .int (iI i)), (2, .int (iI j))]) (st' := [.int (iI kd), .int (iI 1)]) rfl ?_
                  refine T_zop xr_33_120 (pc' := 121) rfl (z := (iI 1 <<< (iI kd &&& 31)).toInt) (iI_of _) ?_
                  refine T_ie (y := iI (X_bS kd)) (by rfl) ?_
                  refine T_p xr_33_121 xn_33 (pc' := 123) (ls' := [(6, .int (iI (X_bS kd))), (5, .int (iI kd)), (4, .int (iI (X_ro (i + 1) (j - 1)))), (3, .int (iI (X_ro i j))), (0, .ref 511), (1, .int (iI i)), (2, .int (iI j))]) (st' := []) rfl ?_
                  refine T_p xr_33_123 xn_33 (pc' := 124) (ls' := [(6, .int (iI (X_bS kd))), (5, .int (iI kd)), (4, .int (iI (X_ro (i + 1) (j - 1)))), (3, .int (iI (X_ro i j))), (0, .ref 511), (1, .int (iI i)), (2, .int (iI j))]) (st' := [.ref 511]) rfl ?_
                  refine T_get xr_33_124 h827 rfl (v := .ref 512) rfl (pc' := 127) rfl ?_
                  refine T_p xr_33_127 xn_33 (pc' := 128) (ls' := [(6, .int (iI (X_bS kd))), (5, .int (iI kd)), (4, .int (iI (X_ro (i + 1) (j - 1)))), (3, .int (iI (X_ro i j))), (0, .ref 511), (1, .int (iI i)), (2, .int (iI j))]) (st' := [.int (iI (X_ro i j)), .ref 512]) rfl ?_
                  refine T_p xr_33_128 xn_33 (pc' := 130) (ls' := [(6, .int (iI (X_bS kd))), (5, .int (iI kd)), (4, .int (iI (X_ro (i + 1) (j - 1)))), (3, .int (iI (X_ro i j))), (0, .ref 511), (1, .int (iI i)), (2, .int (iI j))]) (st' := [.int (iI 11), .int (iI (X_ro i j)), .ref 512]) rfl ?_
                  refine T_zimul xr_33_130 (z := (X_ro i j) * 11) rfl (pc' := 131) rfl ?_
                  refine T_p xr_33_131 xn_33 (pc' := 133) (ls' := [(6, .int (iI (X_bS kd))), (5, .int (iI kd)), (4, .int (iI (X_ro (i + 1) (j - 1)))), (3, .int (iI (X_ro i j))), (0, .ref 511), (1, .int (iI i)), (2, .int (iI j))]) (st' := [.int (iI kd), .int (iI ((X_ro i j) * 11)), .ref 512]) rfl ?_
                  refine T_ziadd xr_33_133 (z := ((X_ro i j) * 11) + kd) rfl (pc' := 134) rfl ?_
                  refine T_p xr_33_134 xn_33 (pc' := 135) (ls' := [(6, .int (iI (X_bS kd))), (5, .int (iI kd)), (4, .int (iI (X_ro (i + 1) (j - 1)))), (3, .int (iI (X_ro i j))), (0, .ref 511), (1, .int (iI i)), (2, .int (iI j))]) (st' := [.ref 511, .int (iI (((X_ro i j) * 11) + kd)), .ref 512]) rfl ?_
                  refine T_p xr_33_135 xn_33 (pc' := 137) (ls' := [(6, .int (iI (X_bS kd))), (5, .int (iI kd)), (4, .int (iI (X_ro (i + 1) (j - 1)))), (3, .int (iI (X_ro i j))), (0, .ref 511), (1, .int (iI i)), (2, .int (iI j))]) (st' := [.int (iI (X_ro (i + 1) (j - 1))), .ref 511, .int (iI (((X_ro i j) * 11) + kd)), .ref 512]) rfl ?_
                  refine T_p xr_33_137 xn_33 (pc' := 139) (ls' := [(6, .int (iI (X_bS kd))), (5, .int (iI kd)), (4, .int (iI (X_ro (i + 1) (j - 1)))), (3, .int (iI (X_ro i j))), (0, .ref 511), (1, .int (iI i)), (2, .int (iI j))]) (st' := [.int (iI (X_bS kd)), .int (iI (X_ro (i + 1) (j - 1))), .ref 511, .int (iI (((X_ro i j) * 11) + kd)), .ref 512]) rfl ?_
                  refine T_cv (S := S826) (q := 511) xr_33_139 xf_29.1 xf_29.2.1 xn_29 (as := [.int (iI (X_ro (i + 1) (j - 1))), .int (iI (X_bS kd))]) (r := [.int (iI (((X_ro i j) * 11) + kd)), .ref 512]) rfl h827 (Nat.le_of_ble_eq_true rfl) (Nat.le_of_ble_eq_true rfl) (pc' := 142) rfl (ls' := [(0, .ref 511), (1, .int (iI (X_ro (i + 1) (j - 1)))), (2, .int (iI (X_bS kd)))]) rfl ?_
                  have h830 := (hF825.1 (B + 1) (by omega)).trans ((hF801.1 (B + 1) (by omega)).trans (hb1))
                  have h831 := (hF825.1 (B + 2) (by omega)).trans ((hF801.1 (B + 2) (by omega)).trans (hb2))
                  have h832 := (hF825.1 (B + 3) (by omega)).trans ((hF801.1 (B + 3) (by omega)).trans (hb3))
                  have h833 := (hF825.1 (B + 4) (by omega)).trans ((hF801.1 (B + 4) (by omega)).trans (hb4))
                  have h834 := (hF825.1 (B + 5) (by omega)).trans ((hF801.1 (B + 5) (by omega)).trans (hb5))
                  have hs835 : C_ws S826 B (gD G) (gW G) := C_ws.fr (P := fun q => 501 ≤ q ∧ q ≤ 529) hs (((X_Fr.rf).tr (X_Fr.mono ⟨hF801.1, hF801.2⟩ (fun q hq => (by omega)))).tr (X_Fr.mono ⟨hF825.1, hF825.2⟩ (fun q hq => (by omega)))) (fun k h1 h2 => by omega)
                  refine T_mono (c_sumK sc S826 oK2 B rc rn kn G tn fl (X_ro (i + 1) (j - 1)) (X_bS kd) (fun z => X_nm G z (i + 1) (j - 1) + (X_T_ G).2 z (i + 1) (j - 1)) h827 hoK2 hB ⟨h828, h830, h831, h832, h833, ⟨f, h834, hf⟩, ⟨by omega, by omega⟩, ⟨by omega, by omega⟩, ⟨by omega, by omega⟩⟩ hs835 hG (by omega) (fun z h1 h2 => (hOk2 _ (by omega)).trans (hRK z h1 h2))) (fun v836 S837 h838 => ?_)
                  rcases h838 with ⟨hv839, hf840⟩
                  rw [hv839]
                  rw [hf840]
                  show X_T sc 33 (142, [(6, .int (iI (X_bS kd))), (5, .int (iI kd)), (4, .int (iI (X_ro (i + 1) (j - 1)))), (3, .int (iI (X_ro i j))), (0, .ref 511), (1, .int (iI i)), (2, .int (iI j))], [.long (X_st (-2) (X_Su (fun k => X_if (X_bt (X_bS kd) k) ((fun z => X_nm G z (i + 1) (j - 1) + (X_T_ G).2 z (i + 1) (j - 1)) k)) 0 (gk G))), .int (iI (((X_ro i j) * 11) + kd)), .ref 512], S826) _
                  refine T_p xr_33_142 xn_33 (pc' := 143) (ls' := [(6, .int (iI (X_bS kd))), (5, .int (iI kd)), (4, .int (iI (X_ro (i + 1) (j - 1)))), (3, .int (iI (X_ro i j))), (0, .ref 511), (1, .int (iI i)), (2, .int (iI j))]) (st' := [.ref 511, .long (X_st (-2) (X_Su (fun k => X_if (X_bt (X_bS kd) k) ((fun z => X_nm G z (i + 1) (j - 1) + (X_T_ G).2 z (i + 1) (j - 1)) k)) 0 (gk G))), .int (iI (((X_ro i j) * 11) + kd)), .ref 512]) rfl ?_
                  refine T_p xr_33_143 xn_33 (pc' := 145) (ls' := [(6, .int (iI (X_bS kd))), (5, .int (iI kd)), (4, .int (iI (X_ro (i + 1) (j - 1)))), (3, .int (iI (X_ro i j))), (0, .ref 511), (1, .int (iI i)), (2, .int (iI j))]) (st' := [.int (iI (X_ro (i + 1) (j - 1))), .ref 511, .long (X_st (-2) (X_Su (fun k => X_if (X_bt (X_bS kd) k) ((fun z => X_nm G z (i + 1) (j - 1) + (X_T_ G).2 z (i + 1) (j - 1)) k)) 0 (gk G))), .int (iI (((X_ro i j) * 11) + kd)), .ref 512]) rfl ?_
                  refine T_p xr_33_145 xn_33 (pc' := 146) (ls' := [(6, .int (iI (X_bS kd))), (5, .int (iI kd)), (4, .int (iI (X_ro (i + 1) (j - 1)))), (3, .int (iI (X_ro i j))), (0, .ref 511), (1, .int (iI i)), (2, .int (iI j))]) (st' := [.ref 511, .int (iI (X_ro (i + 1) (j - 1))), .ref 511, .long (X_st (-2) (X_Su (fun k => X_if (X_bt (X_bS kd) k) ((fun z => X_nm G z (i + 1) (j - 1) + (X_T_ G).2 z (i + 1) (j - 1)) k)) 0 (gk G))), .int (iI (((X_ro i j) * 11) + kd)), .ref 512]) rfl ?_
                  refine T_get xr_33_146 h827 rfl (v := .ref B) rfl (pc' := 149) rfl ?_
                  refine T_p xr_33_149 xn_33 (pc' := 151) (ls' := [(6, .int (iI (X_bS kd))), (5, .int (iI kd)), (4, .int (iI (X_ro (i + 1) (j - 1)))), (3, .int (iI (X_ro i j))), (0, .ref 511), (1, .int (iI i)), (2, .int (iI j))]) (st' := [.int (iI (X_bS kd)), .ref B, .int (iI (X_ro (i + 1) (j - 1))), .ref 511, .long (X_st (-2) (X_Su (fun k => X_if (X_bt (X_bS kd) k) ((fun z => X_nm G z (i + 1) (j - 1) + (X_T_ G).2 z (i + 1) (j - 1)) k)) 0 (gk G))), .int (iI (((X_ro i j) * 11) + kd)), .ref 512]) rfl ?_
                  refine T_cv (S := S826) (q := B) xr_33_151 xf_15.1 xf_15.2.1 xn_15 (as := [.int (iI (X_bS kd))]) (r := [.int (iI (X_ro (i + 1) (j - 1))), .ref 511, .long (X_st (-2) (X_Su (fun k => X_if (X_bt (X_bS kd) k) ((fun z => X_nm G z (i + 1) (j - 1) + (X_T_ G).2 z (i + 1) (j - 1)) k)) 0 (gk G))), .int (iI (((X_ro i j) * 11) + kd)), .ref 512]) rfl h828 (Nat.le_of_ble_eq_true rfl) (Nat.le_of_ble_eq_true rfl) (pc' := 154) rfl (ls' := [(0, .ref B), (1, .int (iI (X_bS kd)))]) rfl ?_
                  refine T_mono (c_wordsOfKinds sc S826 B rc (gk G) (gw G) rn (gl G) kn (ga G) (gD G) (gW G) (X_bS kd) ⟨h828, h830, h831, h832, h833, ⟨f, h834, hf⟩, ⟨by omega, by omega⟩, ⟨by omega, by omega⟩, ⟨by omega, by omega⟩⟩ hs835) (fun v841 S842 h843 => ?_)
                  obtain ⟨r844, h845, hx846, h847⟩ := h843
                  rw [h845, h847]
                  show X_T sc 33 (154, [(6, .int (iI (X_bS kd))), (5, .int (iI kd)), (4, .int (iI (X_ro (i + 1) (j - 1)))), (3, .int (iI (X_ro i j))), (0, .ref 511), (1, .int (iI i)), (2, .int (iI j))], [.int (iI r844), .int (iI (X_ro (i + 1) (j - 1))), .ref 511, .long (X_st (-2) (X_Su (fun k => X_if (X_bt (X_bS kd) k) ((fun z => X_nm G z (i + 1) (j - 1) + (X_T_ G).2 z (i + 1) (j - 1)) k)) 0 (gk G))), .int (iI (((X_ro i j) * 11) + kd)), .ref 512], S826) _
                  refine T_cv (S := S826) (q := 511) xr_33_154 xf_30.1 xf_30.2.1 xn_30 (as := [.int (iI (X_ro (i + 1) (j - 1))), .int (iI r844)]) (r := [.long (X_st (-2) (X_Su (fun k => X_if (X_bt (X_bS kd) k) ((fun z => X_nm G z (i + 1) (j - 1) + (X_T_ G).2 z (i + 1) (j - 1)) k)) 0 (gk G))), .int (iI (((X_ro i j) * 11) + kd)), .ref 512]) rfl h827 (Nat.le_of_ble_eq_true rfl) (Nat.le_of_ble_eq_true rfl) (pc' := 157) rfl (ls' := [(0, .ref 511), (1, .int (iI (X_ro (i + 1) (j - 1)))), (2, .int (iI r844))]) rfl ?_
                  have h848 := (hF825.1 513 (by omega)).trans ((hF801.1 513 (by omega)).trans (hA513))
                  refine T_mono (c_sumW sc S826 oW B rc rn kn G tn fl (X_ro (i + 1) (j - 1)) r844 (fun v => (X_T_ G).1 v (i + 1) (j - 1)) h827 h848 hB ⟨h828, h830, h831, h832, h833, ⟨f, h834, hf⟩, ⟨by omega, by omega⟩, ⟨by omega, by omega⟩, ⟨by omega, by omega⟩⟩ hs835 hG (by omega) hRW) (fun v849 S850 h851 => ?_)
                  rcases h851 with ⟨hv852, hf853⟩
                  rw [hv852]
                  rw [hf853]
                  show X_T sc 33 (157, [(6, .int (iI (X_bS kd))), (5, .int (iI kd)), (4, .int (iI (X_ro (i + 1) (j - 1)))), (3, .int (iI (X_ro i j))), (0, .ref 511), (1, .int (iI i)), (2, .int (iI j))], [.long (X_st (-2) (X_Su (fun k => X_if (X_bt r844 k) ((fun v => (X_T_ G).1 v (i + 1) (j - 1)) k)) 0 (gw G))), .long (X_st (-2) (X_Su (fun k => X_if (X_bt (X_bS kd) k) ((fun z => X_nm G z (i + 1) (j - 1) + (X_T_ G).2 z (i + 1) (j - 1)) k)) 0 (gk G))), .int (iI (((X_ro i j) * 11) + kd)), .ref 512], S826) _
                  refine T_cs xr_33_157 (by decide) xf_134.1 xn_134 (as := [.long (X_st (-2) (X_Su (fun k => X_if (X_bt (X_bS kd) k) ((fun z => X_nm G z (i + 1) (j - 1) + (X_T_ G).2 z (i + 1) (j - 1)) k)) 0 (gk G))), .long (X_st (-2) (X_Su (fun k => X_if (X_bt r844 k) ((fun v => (X_T_ G).1 v (i + 1) (j - 1)) k)) 0 (gw G)))]) (r := [.int (iI (((X_ro i j) * 11) + kd)), .ref 512]) rfl (Nat.le_of_ble_eq_true rfl) (Nat.le_of_ble_eq_true rfl) (pc' := 160) rfl (ls' := [(0, .long (X_st (-2) (X_Su (fun k => X_if (X_bt (X_bS kd) k) ((fun z => X_nm G z (i + 1) (j - 1) + (X_T_ G).2 z (i + 1) (j - 1)) k)) 0 (gk G)))), (2, .long (X_st (-2) (X_Su (fun k => X_if (X_bt r844 k) ((fun v => (X_T_ G).1 v (i + 1) (j - 1)) k)) 0 (gw G))))]) rfl ?_
                  refine T_mono (c_plus sc S826 (X_Su (fun k => X_if (X_bt (X_bS kd) k) ((fun z => X_nm G z (i + 1) (j - 1) + (X_T_ G).2 z (i + 1) (j - 1)) k)) 0 (gk G)) (X_Su (fun k => X_if (X_bt r844 k) ((fun v => (X_T_ G).1 v (i + 1) (j - 1)) k)) 0 (gw G))) (fun v854 S855 h856 => ?_)
                  rcases h856 with ⟨hv857, hf858⟩
                  rw [hv857]
                  rw [hf858]
                  show X_T sc 33 (160, [(6, .int (iI (X_bS kd))), (5, .int (iI kd)), (4, .int (iI (X_ro (i + 1) (j - 1)))), (3, .int (iI (X_ro i j))), (0, .ref 511), (1, .int (iI i)), (2, .int (iI j))], [.long (X_st (-2) ((X_Su (fun k => X_if (X_bt (X_bS kd) k) ((fun z => X_nm G z (i + 1) (j - 1) + (X_T_ G).2 z (i + 1) (j - 1)) k)) 0 (gk G)) + (X_Su (fun k => X_if (X_bt r844 k) ((fun v => (X_T_ G).1 v (i + 1) (j - 1)) k)) 0 (gw G)))), .int (iI (((X_ro i j) * 11) + kd)), .ref 512], S826) _
                  refine T_le (y := (X_st (-2) (X_Kd G (X_T_ G) kd (i + 1) (j - 1)))) (by rw [← X_Kd_b hG hkd.1 hkk hx846]) ?_
                  refine T_zlast xr_33_160 hoK2 (pc' := 161) rfl (fun S859 h860 n861 e862 => ?_)
                  refine T_ziinc xr_33_161 xn_33 (a := kd) (z := kd + 1) rfl (Nat.le_of_ble_eq_true rfl) (by omega) (ls' := [(5, .int (iI (kd + 1))), (6, .int (iI (X_bS kd))), (4, .int (iI (X_ro (i + 1) (j - 1)))), (3, .int (iI (X_ro i j))), (0, .ref 511), (1, .int (iI i)), (2, .int (iI j))]) rfl (pc' := 164) rfl ?_
                  refine T_p xr_33_164 xn_33 (pc' := 105) (ls' := [(5, .int (iI (kd + 1))), (6, .int (iI (X_bS kd))), (4, .int (iI (X_ro (i + 1) (j - 1)))), (3, .int (iI (X_ro i j))), (0, .ref 511), (1, .int (iI i)), (2, .int (iI j))]) (st' := []) rfl ?_
                  refine T_sub (ls := [(5, .int (iI (kd + 1))), (4, .int (iI (X_ro (i + 1) (j - 1)))), (3, .int (iI (X_ro i j))), (0, .ref 511), (1, .int (iI i)), (2, .int (iI j))]) ⟨rfl, rfl, rfl, rfl, rfl, rfl, trivial⟩ rfl rfl ?_
                  exact ih822 S859 (kd + 1) (X_ug oK2 (((X_ro i j) * 11) + kd) (X_st (-2) (X_Kd G (X_T_ G) kd (i + 1) (j - 1)))) h860 (hF825.tr ((X_Fr.rf).tr (X_Fr.of n861 e862 (by omega)))) (by omega) (fun z h1 h2 => by
                        by_cases hz1 : z = kd
                        · subst hz1; rw [X_ug_s]
                        · rw [X_ug_n _ _ (by omega)]; exact hI z h1 (by omega)) (fun q hq => by rw [X_ug_n _ _ (by omega)]; exact hOk2 q hq) (by omega)
            exact L821 ((gk G) + 1).toNat S802 0 oK1 hoK1 ((X_Fr.rf)) (by omega) (fun z h1 h2 => absurd h2 (by omega)) hOk (by omega)
        · skip
          have c806 : ¬ (¬ j = (i + 1)) := c806
          refine T_p xr_33_47 xn_33 (pc' := 48) (ls' := [(4, .int (iI k)), (3, .int (iI (X_ro i j))), (0, .ref 511), (1, .int (iI i)), (2, .int (iI j))]) (st' := [.ref 511]) rfl ?_
          refine T_get xr_33_48 h803 rfl (v := .ref 501) rfl (pc' := 51) rfl ?_
          refine T_p xr_33_51 xn_33 (pc' := 52) (ls' := [(4, .int (iI k)), (3, .int (iI (X_ro i j))), (0, .ref 511), (1, .int (iI i)), (2, .int (iI j))]) (st' := [.int (iI i), .ref 501]) rfl ?_
          have h863 := (hF801.1 501 (by omega)).trans (hO501)
          refine T_cv (S := S802) (q := 501) xr_33_52 xf_88.1 xf_88.2.1 xn_88 (as := [.int (iI i)]) (r := []) rfl h863 (Nat.le_of_ble_eq_true rfl) (Nat.le_of_ble_eq_true rfl) (pc' := 55) rfl (ls' := [(0, .ref 501), (1, .int (iI i))]) rfl ?_
          have h864 := (hF801.1 502 (by omega)).trans (hA502)
          refine T_mono (c_sIsNumber sc S802 tn G i h863 h864 (by omega)) (fun v865 S866 h867 => ?_)
          rcases h867 with ⟨hv868, hf869⟩
          rw [hv868]
          rw [hf869]
          show X_T sc 33 (55, [(4, .int (iI k)), (3, .int (iI (X_ro i j))), (0, .ref 511), (1, .int (iI i)), (2, .int (iI j))], [.int (iI (bI (0 ≤ X_nv (gt G i))))], S802) _
          refine T_bif_eq xr_33_55 (t := 167) (pc' := 58) rfl rfl (fun c870 => ?_) (fun c870 => ?_)
          · skip
            have c870 : ¬ (0 ≤ X_nv (gt G i)) := c870
            refine T_vret xr_33_167 xf_33.2.2 ?_
            refine hQ _ _ ?_
            exact ⟨oK1, rfl, (fun k h1 h2 => by
                  first
                    | (rw [(X_nmB (k := k) hij.2.1 (by omega)).1 (by omega), X_if_f (fun z => absurd z.1 (by assumption))]; exact hz k h1 (by omega))
                    | (rw [(X_nmB (k := k) hij.2.1 (by omega)).2 (by omega), X_if_f (by assumption)]; exact hz k h1 (by omega))), hOk, hoK1, (X_Fr.rf).tr (X_Fr.mono ⟨hF801.1, hF801.2⟩ (fun q hq => (by omega)))⟩
          · skip
            have c870 : (0 ≤ X_nv (gt G i)) := c870
            refine T_p xr_33_58 xn_33 (pc' := 59) (ls' := [(4, .int (iI k)), (3, .int (iI (X_ro i j))), (0, .ref 511), (1, .int (iI i)), (2, .int (iI j))]) (st' := [.ref 511]) rfl ?_
            refine T_get xr_33_59 h803 rfl (v := .ref 512) rfl (pc' := 62) rfl ?_
            refine T_p xr_33_62 xn_33 (pc' := 63) (ls' := [(4, .int (iI k)), (3, .int (iI (X_ro i j))), (0, .ref 511), (1, .int (iI i)), (2, .int (iI j))]) (st' := [.int (iI (X_ro i j)), .ref 512]) rfl ?_
            refine T_p xr_33_63 xn_33 (pc' := 65) (ls' := [(4, .int (iI k)), (3, .int (iI (X_ro i j))), (0, .ref 511), (1, .int (iI i)), (2, .int (iI j))]) (st' := [.int (iI 11), .int (iI (X_ro i j)), .ref 512]) rfl ?_
            refine T_zimul xr_33_65 (z := (X_ro i j) * 11) rfl (pc' := 66) rfl ?_
            refine T_p xr_33_66 xn_33 (pc' := 67) (ls' := [(4, .int (iI k)), (3, .int (iI (X_ro i j))), (0, .ref 511), (1, .int (iI i)), (2, .int (iI j))]) (st' := [.ref 511, .int (iI ((X_ro i j) * 11)), .ref 512]) rfl ?_
            refine T_get xr_33_67 h803 rfl (v := .ref B) rfl (pc' := 70) rfl ?_
            refine T_cv (S := S802) (q := B) xr_33_70 xf_13.1 xf_13.2.1 xn_13 (as := []) (r := [.int (iI ((X_ro i j) * 11)), .ref 512]) rfl h804 (Nat.le_of_ble_eq_true rfl) (Nat.le_of_ble_eq_true rfl) (pc' := 73) rfl (ls' := [(0, .ref B)]) rfl ?_
            have h871 := (hF801.1 (B + 1) (by omega)).trans (hb1)
            have h872 := (hF801.1 (B + 2) (by omega)).trans (hb2)
            have h873 := (hF801.1 (B + 3) (by omega)).trans (hb3)
            have h874 := (hF801.1 (B + 4) (by omega)).trans (hb4)
            have h875 := (hF801.1 (B + 5) (by omega)).trans (hb5)
            refine T_mono (c_numberKind sc S802 B rc (gk G) (gw G) rn (gl G) kn (ga G) ⟨h804, h871, h872, h873, h874, ⟨f, h875, hf⟩, ⟨by omega, by omega⟩, ⟨by omega, by omega⟩, ⟨by omega, by omega⟩⟩) (fun v877 S878 h876 => ?_)
            obtain ⟨h879, h880⟩ := h876
            rw [h879, h880]
            show X_T sc 33 (73, [(4, .int (iI k)), (3, .int (iI (X_ro i j))), (0, .ref 511), (1, .int (iI i)), (2, .int (iI j))], [.int (iI (bI (1 < (gk G)))), .int (iI ((X_ro i j) * 11)), .ref 512], S802) _
            have hbr := bI_r (1 < gk G)
            refine T_ziadd xr_33_73 (z := ((X_ro i j) * 11) + (bI (1 < (gk G)))) rfl (pc' := 74) rfl ?_
            refine T_p xr_33_74 xn_33 (pc' := 75) (ls' := [(4, .int (iI k)), (3, .int (iI (X_ro i j))), (0, .ref 511), (1, .int (iI i)), (2, .int (iI j))]) (st' := [.long (iL 1), .int (iI (((X_ro i j) * 11) + (bI (1 < (gk G))))), .ref 512]) rfl ?_
            refine T_zlast xr_33_75 hoK1 (pc' := 76) rfl (fun S881 h882 n883 e884 => ?_)
            refine T_p xr_33_76 xn_33 (pc' := 167) (ls' := [(4, .int (iI k)), (3, .int (iI (X_ro i j))), (0, .ref 511), (1, .int (iI i)), (2, .int (iI j))]) (st' := []) rfl ?_
            refine T_vret xr_33_167 xf_33.2.2 ?_
            refine hQ _ _ ?_
            exact ⟨(X_ug oK1 (((X_ro i j) * 11) + (bI (1 < (gk G)))) (iL 1)), rfl, (fun k h1 h2 => by
                  rw [(X_nmB (k := k) hij.2.1 (by omega)).1 (by omega)]
                  by_cases hk : k = bI (1 < gk G)
                  · rw [X_if_t ⟨by assumption, hk⟩, hk, X_ug_s]; rfl
                  · rw [X_if_f (fun z => hk z.2), X_ug_n _ _ (by omega)]; exact hz k h1 (by omega)), (fun q hq => by rw [X_ug_n _ _ (by omega)]; exact hOk q hq), h882, ((X_Fr.rf).tr (X_Fr.mono ⟨hF801.1, hF801.2⟩ (fun q hq => (by omega)))).tr (X_Fr.of n883 e884 (by omega))⟩
      · skip
        have c805 : ¬ ((gk G) ≤ k) := c805
        refine T_p xr_33_21 xn_33 (pc' := 22) (ls' := [(4, .int (iI k)), (3, .int (iI (X_ro i j))), (0, .ref 511), (1, .int (iI i)), (2, .int (iI j))]) (st' := [.ref 511]) rfl ?_
        refine T_get xr_33_22 h803 rfl (v := .ref 512) rfl (pc' := 25) rfl ?_
        refine T_p xr_33_25 xn_33 (pc' := 26) (ls' := [(4, .int (iI k)), (3, .int (iI (X_ro i j))), (0, .ref 511), (1, .int (iI i)), (2, .int (iI j))]) (st' := [.int (iI (X_ro i j)), .ref 512]) rfl ?_
        refine T_p xr_33_26 xn_33 (pc' := 28) (ls' := [(4, .int (iI k)), (3, .int (iI (X_ro i j))), (0, .ref 511), (1, .int (iI i)), (2, .int (iI j))]) (st' := [.int (iI 11), .int (iI (X_ro i j)), .ref 512]) rfl ?_
        refine T_zimul xr_33_28 (z := (X_ro i j) * 11) rfl (pc' := 29) rfl ?_
        refine T_p xr_33_29 xn_33 (pc' := 31) (ls' := [(4, .int (iI k)), (3, .int (iI (X_ro i j))), (0, .ref 511), (1, .int (iI i)), (2, .int (iI j))]) (st' := [.int (iI k), .int (iI ((X_ro i j) * 11)), .ref 512]) rfl ?_
        refine T_ziadd xr_33_31 (z := ((X_ro i j) * 11) + k) rfl (pc' := 32) rfl ?_
        refine T_p xr_33_32 xn_33 (pc' := 33) (ls' := [(4, .int (iI k)), (3, .int (iI (X_ro i j))), (0, .ref 511), (1, .int (iI i)), (2, .int (iI j))]) (st' := [.long (iL 0), .int (iI (((X_ro i j) * 11) + k)), .ref 512]) rfl ?_
        refine T_zlast xr_33_33 hoK1 (pc' := 34) rfl (fun S885 h886 n887 e888 => ?_)
        refine T_ziinc xr_33_34 xn_33 (a := k) (z := k + 1) rfl (Nat.le_of_ble_eq_true rfl) (by omega) (ls' := [(4, .int (iI (k + 1))), (3, .int (iI (X_ro i j))), (0, .ref 511), (1, .int (iI i)), (2, .int (iI j))]) rfl (pc' := 37) rfl ?_
        refine T_p xr_33_37 xn_33 (pc' := 9) (ls' := [(4, .int (iI (k + 1))), (3, .int (iI (X_ro i j))), (0, .ref 511), (1, .int (iI i)), (2, .int (iI j))]) (st' := []) rfl ?_
        exact ih798 S885 (k + 1) (X_ug oK1 (((X_ro i j) * 11) + k) (iL 0)) h886 (hF801.tr ((X_Fr.rf).tr (X_Fr.of n887 e888 (by omega)))) (by omega) (fun z h1 h2 => by
              by_cases hz1 : z = k
              · subst hz1; rw [X_ug_s]
              · rw [X_ug_n _ _ (by omega)]; exact hz z h1 (by omega)) (fun q hq => by rw [X_ug_n _ _ (by omega)]; exact hOk q hq) (by omega)
  exact L797 ((gk G) + 1).toNat S 0 oK hA512 ((X_Fr.rf)) (by omega) (fun z h1 h2 => absurd h2 (by omega)) (fun _ _ => rfl) (by omega)
