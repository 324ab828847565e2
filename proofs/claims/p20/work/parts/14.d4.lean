theorem xr_29_0 : X_row 29 0 = some (0, (.iload_n 1, 1), (0, 0, 0)) := by decide +kernel
theorem xr_29_1 : X_row 29 1 = some (1, (.iload_n 2, 1), (0, 0, 0)) := by decide +kernel
theorem xr_29_2 : X_row 29 2 = some (2, (.invokestatic 40, 3), (20, 2, 0)) := by decide +kernel
theorem xr_29_5 : X_row 29 5 = some (5, (.istore_n 3, 1), (0, 0, 0)) := by decide +kernel
theorem xr_29_6 : X_row 29 6 = some (6, (.iconst 0, 1), (0, 0, 0)) := by decide +kernel
theorem xr_29_7 : X_row 29 7 = some (7, (.istore 4, 2), (0, 0, 0)) := by decide +kernel
theorem xr_29_9 : X_row 29 9 = some (9, (.iload 4, 2), (0, 0, 0)) := by decide +kernel
theorem xr_29_11 : X_row 29 11 = some (11, (.aload_n 0, 1), (0, 0, 0)) := by decide +kernel
theorem xr_29_12 : X_row 29 12 = some (12, (.getfield 32, 3), (1, 0, 22)) := by decide +kernel
theorem xr_29_15 : X_row 29 15 = some (15, (.getfield 48, 3), (0, 1, 13)) := by decide +kernel
theorem xr_29_18 : X_row 29 18 = some (18, (.if_icmp .ge 22, 3), (0, 0, 0)) := by decide +kernel
theorem xr_29_21 : X_row 29 21 = some (21, (.aload_n 0, 1), (0, 0, 0)) := by decide +kernel
theorem xr_29_22 : X_row 29 22 = some (22, (.getfield 15, 3), (1, 3, 28)) := by decide +kernel
theorem xr_29_25 : X_row 29 25 = some (25, (.iload_n 3, 1), (0, 0, 0)) := by decide +kernel
theorem xr_29_26 : X_row 29 26 = some (26, (.bipush 11, 2), (0, 0, 0)) := by decide +kernel
theorem xr_29_28 : X_row 29 28 = some (28, (.imul, 1), (0, 0, 0)) := by decide +kernel
theorem xr_29_29 : X_row 29 29 = some (29, (.iload 4, 2), (0, 0, 0)) := by decide +kernel
theorem xr_29_31 : X_row 29 31 = some (31, (.iadd, 1), (0, 0, 0)) := by decide +kernel
theorem xr_29_32 : X_row 29 32 = some (32, (.lconst 0, 1), (0, 0, 0)) := by decide +kernel
theorem xr_29_33 : X_row 29 33 = some (33, (.lastore, 1), (0, 0, 0)) := by decide +kernel
theorem xr_29_34 : X_row 29 34 = some (34, (.iinc 4 1, 3), (0, 0, 0)) := by decide +kernel
theorem xr_29_37 : X_row 29 37 = some (37, (.goto (-28), 3), (0, 0, 0)) := by decide +kernel
theorem xr_29_40 : X_row 29 40 = some (40, (.iload_n 2, 1), (0, 0, 0)) := by decide +kernel
theorem xr_29_41 : X_row 29 41 = some (41, (.iload_n 1, 1), (0, 0, 0)) := by decide +kernel
theorem xr_29_42 : X_row 29 42 = some (42, (.iconst 1, 1), (0, 0, 0)) := by decide +kernel
theorem xr_29_43 : X_row 29 43 = some (43, (.iadd, 1), (0, 0, 0)) := by decide +kernel
theorem xr_29_44 : X_row 29 44 = some (44, (.if_icmp .ne 35, 3), (0, 0, 0)) := by decide +kernel
theorem xr_29_47 : X_row 29 47 = some (47, (.aload_n 0, 1), (0, 0, 0)) := by decide +kernel
theorem xr_29_48 : X_row 29 48 = some (48, (.getfield 36, 3), (1, 1, 24)) := by decide +kernel
theorem xr_29_51 : X_row 29 51 = some (51, (.iload_n 1, 1), (0, 0, 0)) := by decide +kernel
theorem xr_29_52 : X_row 29 52 = some (52, (.invokevirtual 95, 3), (83, 20, 0)) := by decide +kernel
theorem xr_29_55 : X_row 29 55 = some (55, (.ifCond .eq 112, 3), (0, 0, 0)) := by decide +kernel
theorem xr_29_58 : X_row 29 58 = some (58, (.aload_n 0, 1), (0, 0, 0)) := by decide +kernel
theorem xr_29_59 : X_row 29 59 = some (59, (.getfield 15, 3), (1, 3, 28)) := by decide +kernel
theorem xr_29_62 : X_row 29 62 = some (62, (.iload_n 3, 1), (0, 0, 0)) := by decide +kernel
theorem xr_29_63 : X_row 29 63 = some (63, (.bipush 11, 2), (0, 0, 0)) := by decide +kernel
theorem xr_29_65 : X_row 29 65 = some (65, (.imul, 1), (0, 0, 0)) := by decide +kernel
theorem xr_29_66 : X_row 29 66 = some (66, (.aload_n 0, 1), (0, 0, 0)) := by decide +kernel
theorem xr_29_67 : X_row 29 67 = some (67, (.getfield 32, 3), (1, 0, 22)) := by decide +kernel
theorem xr_29_70 : X_row 29 70 = some (70, (.invokevirtual 99, 3), (12, 22, 0)) := by decide +kernel
theorem xr_29_73 : X_row 29 73 = some (73, (.iadd, 1), (0, 0, 0)) := by decide +kernel
theorem xr_29_74 : X_row 29 74 = some (74, (.lconst 1, 1), (0, 0, 0)) := by decide +kernel
theorem xr_29_75 : X_row 29 75 = some (75, (.lastore, 1), (0, 0, 0)) := by decide +kernel
theorem xr_29_76 : X_row 29 76 = some (76, (.goto 91, 3), (0, 0, 0)) := by decide +kernel
theorem xr_29_79 : X_row 29 79 = some (79, (.aload_n 0, 1), (0, 0, 0)) := by decide +kernel
theorem xr_29_80 : X_row 29 80 = some (80, (.getfield 36, 3), (1, 1, 24)) := by decide +kernel
theorem xr_29_83 : X_row 29 83 = some (83, (.iload_n 1, 1), (0, 0, 0)) := by decide +kernel
theorem xr_29_84 : X_row 29 84 = some (84, (.iload_n 2, 1), (0, 0, 0)) := by decide +kernel
theorem xr_29_85 : X_row 29 85 = some (85, (.invokevirtual 103, 3), (85, 24, 0)) := by decide +kernel
theorem xr_29_88 : X_row 29 88 = some (88, (.ifCond .eq 79, 3), (0, 0, 0)) := by decide +kernel
theorem xr_29_91 : X_row 29 91 = some (91, (.iload_n 1, 1), (0, 0, 0)) := by decide +kernel
theorem xr_29_92 : X_row 29 92 = some (92, (.iconst 1, 1), (0, 0, 0)) := by decide +kernel
theorem xr_29_93 : X_row 29 93 = some (93, (.iadd, 1), (0, 0, 0)) := by decide +kernel
theorem xr_29_94 : X_row 29 94 = some (94, (.iload_n 2, 1), (0, 0, 0)) := by decide +kernel
theorem xr_29_95 : X_row 29 95 = some (95, (.iconst 1, 1), (0, 0, 0)) := by decide +kernel
theorem xr_29_96 : X_row 29 96 = some (96, (.isub, 1), (0, 0, 0)) := by decide +kernel
theorem xr_29_97 : X_row 29 97 = some (97, (.invokestatic 40, 3), (20, 2, 0)) := by decide +kernel
theorem xr_29_100 : X_row 29 100 = some (100, (.istore 4, 2), (0, 0, 0)) := by decide +kernel
theorem xr_29_102 : X_row 29 102 = some (102, (.iconst 0, 1), (0, 0, 0)) := by decide +kernel
theorem xr_29_103 : X_row 29 103 = some (103, (.istore 5, 2), (0, 0, 0)) := by decide +kernel
theorem xr_29_105 : X_row 29 105 = some (105, (.iload 5, 2), (0, 0, 0)) := by decide +kernel
theorem xr_29_107 : X_row 29 107 = some (107, (.aload_n 0, 1), (0, 0, 0)) := by decide +kernel
theorem xr_29_108 : X_row 29 108 = some (108, (.getfield 32, 3), (1, 0, 22)) := by decide +kernel
theorem xr_29_111 : X_row 29 111 = some (111, (.getfield 48, 3), (0, 1, 13)) := by decide +kernel
theorem xr_29_114 : X_row 29 114 = some (114, (.if_icmp .ge 53, 3), (0, 0, 0)) := by decide +kernel
theorem xr_29_117 : X_row 29 117 = some (117, (.iconst 1, 1), (0, 0, 0)) := by decide +kernel
theorem xr_29_118 : X_row 29 118 = some (118, (.iload 5, 2), (0, 0, 0)) := by decide +kernel
theorem xr_29_120 : X_row 29 120 = some (120, (.ishl, 1), (0, 0, 0)) := by decide +kernel
theorem xr_29_121 : X_row 29 121 = some (121, (.istore 6, 2), (0, 0, 0)) := by decide +kernel
theorem xr_29_123 : X_row 29 123 = some (123, (.aload_n 0, 1), (0, 0, 0)) := by decide +kernel
theorem xr_29_124 : X_row 29 124 = some (124, (.getfield 15, 3), (1, 3, 28)) := by decide +kernel
theorem xr_29_127 : X_row 29 127 = some (127, (.iload_n 3, 1), (0, 0, 0)) := by decide +kernel
theorem xr_29_128 : X_row 29 128 = some (128, (.bipush 11, 2), (0, 0, 0)) := by decide +kernel
theorem xr_29_130 : X_row 29 130 = some (130, (.imul, 1), (0, 0, 0)) := by decide +kernel
theorem xr_29_131 : X_row 29 131 = some (131, (.iload 5, 2), (0, 0, 0)) := by decide +kernel
theorem xr_29_133 : X_row 29 133 = some (133, (.iadd, 1), (0, 0, 0)) := by decide +kernel
theorem xr_29_134 : X_row 29 134 = some (134, (.aload_n 0, 1), (0, 0, 0)) := by decide +kernel
theorem xr_29_135 : X_row 29 135 = some (135, (.iload 4, 2), (0, 0, 0)) := by decide +kernel
theorem xr_29_137 : X_row 29 137 = some (137, (.iload 6, 2), (0, 0, 0)) := by decide +kernel
theorem xr_29_139 : X_row 29 139 = some (139, (.invokevirtual 44, 3), (25, 26, 0)) := by decide +kernel
theorem xr_29_142 : X_row 29 142 = some (142, (.aload_n 0, 1), (0, 0, 0)) := by decide +kernel
theorem xr_29_143 : X_row 29 143 = some (143, (.iload 4, 2), (0, 0, 0)) := by decide +kernel
theorem xr_29_145 : X_row 29 145 = some (145, (.aload_n 0, 1), (0, 0, 0)) := by decide +kernel
theorem xr_29_146 : X_row 29 146 = some (146, (.getfield 32, 3), (1, 0, 22)) := by decide +kernel
theorem xr_29_149 : X_row 29 149 = some (149, (.iload 6, 2), (0, 0, 0)) := by decide +kernel
theorem xr_29_151 : X_row 29 151 = some (151, (.invokevirtual 106, 3), (14, 30, 0)) := by decide +kernel
theorem xr_29_154 : X_row 29 154 = some (154, (.invokevirtual 85, 3), (26, 32, 0)) := by decide +kernel
theorem xr_29_157 : X_row 29 157 = some (157, (.invokestatic 58, 3), (115, 17, 0)) := by decide +kernel
theorem xr_29_160 : X_row 29 160 = some (160, (.lastore, 1), (0, 0, 0)) := by decide +kernel
theorem xr_29_161 : X_row 29 161 = some (161, (.iinc 5 1, 3), (0, 0, 0)) := by decide +kernel
theorem xr_29_164 : X_row 29 164 = some (164, (.goto (-59), 3), (0, 0, 0)) := by decide +kernel
theorem xr_29_167 : X_row 29 167 = some (167, (.return_, 1), (0, 0, 0)) := by decide +kernel
theorem xr_30_0 : X_row 30 0 = some (0, (.aload_n 0, 1), (0, 0, 0)) := by decide +kernel
theorem xr_30_1 : X_row 30 1 = some (1, (.getfield 32, 3), (1, 0, 22)) := by decide +kernel
theorem xr_30_4 : X_row 30 4 = some (4, (.getfield 110, 3), (0, 7, 17)) := by decide +kernel
theorem xr_30_7 : X_row 30 7 = some (7, (.iload_n 2, 1), (0, 0, 0)) := by decide +kernel
theorem xr_30_8 : X_row 30 8 = some (8, (.aaload, 1), (0, 0, 0)) := by decide +kernel
theorem xr_30_9 : X_row 30 9 = some (9, (.astore_n 3, 1), (0, 0, 0)) := by decide +kernel
theorem xr_30_10 : X_row 30 10 = some (10, (.iconst 0, 1), (0, 0, 0)) := by decide +kernel
theorem xr_30_11 : X_row 30 11 = some (11, (.istore 4, 2), (0, 0, 0)) := by decide +kernel
theorem xr_30_13 : X_row 30 13 = some (13, (.iload 4, 2), (0, 0, 0)) := by decide +kernel
theorem xr_30_15 : X_row 30 15 = some (15, (.aload_n 3, 1), (0, 0, 0)) := by decide +kernel
theorem xr_30_16 : X_row 30 16 = some (16, (.getfield 114, 3), (8, 4, 3)) := by decide +kernel
theorem xr_30_19 : X_row 30 19 = some (19, (.if_icmp .ge 70, 3), (0, 0, 0)) := by decide +kernel
theorem xr_30_22 : X_row 30 22 = some (22, (.lconst 0, 1), (0, 0, 0)) := by decide +kernel
theorem xr_30_23 : X_row 30 23 = some (23, (.lstore 5, 2), (0, 0, 0)) := by decide +kernel
theorem xr_30_25 : X_row 30 25 = some (25, (.aload_n 0, 1), (0, 0, 0)) := by decide +kernel
theorem xr_30_26 : X_row 30 26 = some (26, (.getfield 22, 3), (1, 5, 32)) := by decide +kernel
theorem xr_30_29 : X_row 30 29 = some (29, (.iload_n 1, 1), (0, 0, 0)) := by decide +kernel
theorem xr_30_30 : X_row 30 30 = some (30, (.laload, 1), (0, 0, 0)) := by decide +kernel
theorem xr_30_31 : X_row 30 31 = some (31, (.lconst 0, 1), (0, 0, 0)) := by decide +kernel
theorem xr_30_32 : X_row 30 32 = some (32, (.lcmp, 1), (0, 0, 0)) := by decide +kernel
theorem xr_30_33 : X_row 30 33 = some (33, (.ifCond .eq 32, 3), (0, 0, 0)) := by decide +kernel
theorem xr_30_36 : X_row 30 36 = some (36, (.aload_n 0, 1), (0, 0, 0)) := by decide +kernel
theorem xr_30_37 : X_row 30 37 = some (37, (.iload_n 1, 1), (0, 0, 0)) := by decide +kernel
theorem xr_30_38 : X_row 30 38 = some (38, (.aload_n 3, 1), (0, 0, 0)) := by decide +kernel
theorem xr_30_39 : X_row 30 39 = some (39, (.getfield 119, 3), (8, 12, 11)) := by decide +kernel
theorem xr_30_42 : X_row 30 42 = some (42, (.iload 4, 2), (0, 0, 0)) := by decide +kernel
theorem xr_30_44 : X_row 30 44 = some (44, (.iaload, 1), (0, 0, 0)) := by decide +kernel
theorem xr_30_45 : X_row 30 45 = some (45, (.invokevirtual 44, 3), (25, 26, 0)) := by decide +kernel
theorem xr_30_48 : X_row 30 48 = some (48, (.aload_n 0, 1), (0, 0, 0)) := by decide +kernel
theorem xr_30_49 : X_row 30 49 = some (49, (.iload_n 1, 1), (0, 0, 0)) := by decide +kernel
theorem xr_30_50 : X_row 30 50 = some (50, (.aload_n 3, 1), (0, 0, 0)) := by decide +kernel
theorem xr_30_51 : X_row 30 51 = some (51, (.getfield 123, 3), (8, 11, 9)) := by decide +kernel
theorem xr_30_54 : X_row 30 54 = some (54, (.iload 4, 2), (0, 0, 0)) := by decide +kernel
theorem xr_30_56 : X_row 30 56 = some (56, (.iaload, 1), (0, 0, 0)) := by decide +kernel
theorem xr_30_57 : X_row 30 57 = some (57, (.invokevirtual 85, 3), (26, 32, 0)) := by decide +kernel
theorem xr_30_60 : X_row 30 60 = some (60, (.invokestatic 58, 3), (115, 17, 0)) := by decide +kernel
theorem xr_30_63 : X_row 30 63 = some (63, (.lstore 5, 2), (0, 0, 0)) := by decide +kernel
theorem xr_30_65 : X_row 30 65 = some (65, (.aload_n 0, 1), (0, 0, 0)) := by decide +kernel
theorem xr_30_66 : X_row 30 66 = some (66, (.getfield 26, 3), (1, 6, 34)) := by decide +kernel
theorem xr_30_69 : X_row 30 69 = some (69, (.iload_n 1, 1), (0, 0, 0)) := by decide +kernel
theorem xr_30_70 : X_row 30 70 = some (70, (.bipush 30, 2), (0, 0, 0)) := by decide +kernel
theorem xr_30_72 : X_row 30 72 = some (72, (.imul, 1), (0, 0, 0)) := by decide +kernel
theorem xr_30_73 : X_row 30 73 = some (73, (.iload_n 2, 1), (0, 0, 0)) := by decide +kernel
theorem xr_30_74 : X_row 30 74 = some (74, (.iadd, 1), (0, 0, 0)) := by decide +kernel
theorem xr_30_75 : X_row 30 75 = some (75, (.iconst 4, 1), (0, 0, 0)) := by decide +kernel
theorem xr_30_76 : X_row 30 76 = some (76, (.imul, 1), (0, 0, 0)) := by decide +kernel
theorem xr_30_77 : X_row 30 77 = some (77, (.iload 4, 2), (0, 0, 0)) := by decide +kernel
theorem xr_30_79 : X_row 30 79 = some (79, (.iadd, 1), (0, 0, 0)) := by decide +kernel
theorem xr_30_80 : X_row 30 80 = some (80, (.lload 5, 2), (0, 0, 0)) := by decide +kernel
theorem xr_30_82 : X_row 30 82 = some (82, (.lastore, 1), (0, 0, 0)) := by decide +kernel
theorem xr_30_83 : X_row 30 83 = some (83, (.iinc 4 1, 3), (0, 0, 0)) := by decide +kernel
theorem xr_30_86 : X_row 30 86 = some (86, (.goto (-73), 3), (0, 0, 0)) := by decide +kernel
theorem xr_30_89 : X_row 30 89 = some (89, (.return_, 1), (0, 0, 0)) := by decide +kernel
theorem xn_29 : X_nL 29 = 7 := by decide +kernel
theorem xf_29 : X_na 29 = 2 ∧ X_ci 29 = 1 ∧ X_rt 29 = none := by decide +kernel
theorem xn_30 : X_nL 30 = 7 := by decide +kernel
theorem xf_30 : X_na 30 = 2 ∧ X_ci 30 = 1 ∧ X_rt 30 = none := by decide +kernel
theorem c_fillHoles (sc : X_Sc) (S : X_S) (oK : Int → Int64) (oW : Int → Int64) (oA : Int → Int64) (oH : Int → Int64) (B : Nat) (rc : Int) (rn : Int → Int64) (kn : Int → Int64) (G : X_G) (tn : Int) (fl : Int) (i : Int) (j : Int) (w : Int) (hO511 : S.1 511 = .inr (1, [.ref B, .ref 501, .int (iI fl), .ref 512, .ref 513, .ref 514, .ref 515, .ref 516])) (hA512 : S.1 512 = .inl (.long, 5115, .inr (.inl fun k : Nat => oK (k : Int)))) (hA513 : S.1 513 = .inl (.long, 13950, .inr (.inl fun k : Nat => oW (k : Int)))) (hA514 : S.1 514 = .inl (.long, 465, .inr (.inl fun k : Nat => oA (k : Int)))) (hA515 : S.1 515 = .inl (.long, 55800, .inr (.inl fun k : Nat => oH (k : Int)))) (hB : B = 4 ∨ B = 250) (hb : C_bk S B rc (gk G) (gw G) rn (gl G) kn (ga G)) (hs : C_ws S B (gD G) (gW G)) (hG : X_Gok G) (hw : 0 ≤ w ∧ w < gw G) (hij : 0 ≤ i ∧ i < j ∧ j ≤ 30) (hK : ∀ k, 0 ≤ k → k < gk G → oK (X_ro i j * 11 + k) = X_st (-2) (X_nm G k i j + (X_T_ G).2 k i j)) (hW : ∀ w, 0 ≤ w → w < gw G → oW (X_ro i j * 30 + w) = X_st (-2) ((X_T_ G).1 w i j)) (hA : oA (X_ro i j) = X_st (-2) (X_all G i j)) : X_T sc 30 (0, [(0, .ref 511), (1, .int (iI (X_ro i j))), (2, .int (iI w))], [], S) (fun v S' => ∃ (oH1 : Int → Int64), v = none ∧ (∀ e, 0 ≤ e → e < gD G w 3 0 → gW G w e = 0 → oH1 ((X_ro i j * 30 + w) * 4 + gD G w 8 e) = X_st (-2) (X_Hw G (X_T_ G) w e i j)) ∧ (∀ q, ¬ ((X_ro i j * 30 + w) * 4 ≤ q ∧ q < (X_ro i j * 30 + w) * 4 + 4) → oH1 q = oH q) ∧ S'.1 515 = .inl (.long, 55800, .inr (.inl fun k : Nat => oH1 (k : Int))) ∧ X_Fr (fun q => q = 515) S S') := by
  obtain ⟨hb0, hb1, hb2, hb3, hb4, ⟨f, hb5, hf⟩, ⟨hrc, hrcb⟩, ⟨hkc, hkcb⟩, ⟨hwc, hwcb⟩⟩ := id hb
  have hgw := hG.2.2.2 w hw.1 hw.2
  have hsz := hgw.1
  have hho := hgw.2.1
  have hro := X_ro_r hij.1 hij.2.1 hij.2.2
  refine X_QI (fun Q hQ => ?_)
  refine T_p xr_30_0 xn_30 (pc' := 1) (ls' := [(0, .ref 511), (1, .int (iI (X_ro i j))), (2, .int (iI w))]) (st' := [.ref 511]) rfl ?_
  refine T_get xr_30_1 hO511 rfl (v := .ref B) rfl (pc' := 4) rfl ?_
  refine T_get xr_30_4 hb0 rfl (v := .ref (B + 5)) rfl (pc' := 7) rfl ?_
  refine T_p xr_30_7 xn_30 (pc' := 8) (ls' := [(0, .ref 511), (1, .int (iI (X_ro i j))), (2, .int (iI w))]) (st' := [.int (iI w), .ref (B + 5)]) rfl ?_
  have hwaw := hs w (by omega) (by omega)
  obtain ⟨aw, haaw⟩ : ∃ z : Nat, z = B + 6 + 8 * (w : Int).toNat := ⟨_, rfl⟩
  rw [← haaw] at hwaw
  obtain ⟨⟨_, _⟩, ⟨_, _⟩, ⟨_, _⟩, ⟨_, _⟩, ⟨_, _⟩, ⟨_, _⟩, ⟨_, _⟩, ⟨_, _⟩⟩ := id hwaw.2
  refine T_zaald xr_30_8 hb5 (w := aw) (by rw [haaw]; exact hf _ (by omega)) (pc' := 9) rfl ?_
  refine T_p xr_30_9 xn_30 (pc' := 10) (ls' := [(3, .ref aw), (0, .ref 511), (1, .int (iI (X_ro i j))), (2, .int (iI w))]) (st' := []) rfl ?_
  refine T_p xr_30_10 xn_30 (pc' := 11) (ls' := [(3, .ref aw), (0, .ref 511), (1, .int (iI (X_ro i j))), (2, .int (iI w))]) (st' := [.int (iI 0)]) rfl ?_
  refine T_p xr_30_11 xn_30 (pc' := 13) (ls' := [(4, .int (iI 0)), (3, .ref aw), (0, .ref 511), (1, .int (iI (X_ro i j))), (2, .int (iI w))]) (st' := []) rfl ?_
  have L645 : ∀ (m647 : Nat) (S650 : X_S) (h : Int) (oH1 : Int → Int64) (hoH1 : S650.1 515 = .inl (.long, 55800, .inr (.inl fun k : Nat => oH1 (k : Int)))) (hF649 : X_Fr (fun q => q = 515) S S650) (hh : 0 ≤ h ∧ h ≤ gD G w 4 0) (hI : ∀ e, 0 ≤ e → e < gD G w 3 0 → gW G w e = 0 → gD G w 8 e < h → oH1 ((X_ro i j * 30 + w) * 4 + gD G w 8 e) = X_st (-2) (X_Hw G (X_T_ G) w e i j)) (hOo : ∀ q, ¬ ((X_ro i j * 30 + w) * 4 ≤ q ∧ q < (X_ro i j * 30 + w) * 4 + 4) → oH1 q = oH q) (hm648 : gD G w 4 0 - h < m647), X_T sc 30 (13, [(4, .int (iI h)), (3, .ref aw), (0, .ref 511), (1, .int (iI (X_ro i j))), (2, .int (iI w))], [], S650) Q := by
    intro m647
    induction m647 with
    | zero =>
      intro S650 h oH1 hoH1 hF649 hh hI hOo hm648
      exact (show False by omega).elim
    | succ m647 ih646 =>
      intro S650 h oH1 hoH1 hF649 hh hI hOo hm648
      refine T_p xr_30_13 xn_30 (pc' := 15) (ls' := [(4, .int (iI h)), (3, .ref aw), (0, .ref 511), (1, .int (iI (X_ro i j))), (2, .int (iI w))]) (st' := [.int (iI h)]) rfl ?_
      refine T_p xr_30_15 xn_30 (pc' := 16) (ls' := [(4, .int (iI h)), (3, .ref aw), (0, .ref 511), (1, .int (iI (X_ro i j))), (2, .int (iI w))]) (st' := [.ref aw, .int (iI h)]) rfl ?_
      have h651 := (hF649.1 aw (by omega)).trans (hwaw.1.1)
      refine T_get xr_30_16 h651 rfl (v := .int (iI ((gD G) w 4 0))) rfl (pc' := 19) rfl ?_
      refine T_zicmp_ge xr_30_19 (t := 89) (pc' := 22) rfl rfl (fun c652 => ?_) (fun c652 => ?_)
      · skip
        have c652 : ((gD G) w 4 0) ≤ h := c652
        refine T_vret xr_30_89 xf_30.2.2 ?_
        refine hQ _ _ ?_
        exact ⟨oH1, rfl, (fun e g1 g2 g3 => hI e g1 g2 g3 (by have := hgw.hole g1 g2 g3; omega)), hOo, hoH1, (X_Fr.rf).tr (X_Fr.mono ⟨hF649.1, hF649.2⟩ (fun q hq => (by omega)))⟩
      · skip
        have c652 : ¬ (((gD G) w 4 0) ≤ h) := c652
        obtain ⟨e, he1, he2, he3, he4⟩ := hgw.ex (h := h) (by omega) (by omega)
        refine T_p xr_30_22 xn_30 (pc' := 23) (ls' := [(4, .int (iI h)), (3, .ref aw), (0, .ref 511), (1, .int (iI (X_ro i j))), (2, .int (iI w))]) (st' := [.long (iL 0)]) rfl ?_
        refine T_p xr_30_23 xn_30 (pc' := 25) (ls' := [(5, .long (iL 0)), (4, .int (iI h)), (3, .ref aw), (0, .ref 511), (1, .int (iI (X_ro i j))), (2, .int (iI w))]) (st' := []) rfl ?_
        refine T_p xr_30_25 xn_30 (pc' := 26) (ls' := [(5, .long (iL 0)), (4, .int (iI h)), (3, .ref aw), (0, .ref 511), (1, .int (iI (X_ro i j))), (2, .int (iI w))]) (st' := [.ref 511]) rfl ?_
        have h653 := (hF649.1 511 (by omega)).trans (hO511)
        refine T_get xr_30_26 h653 rfl (v := .ref 514) rfl (pc' := 29) rfl ?_
        refine T_p xr_30_29 xn_30 (pc' := 30) (ls' := [(5, .long (iL 0)), (4, .int (iI h)), (3, .ref aw), (0, .ref 511), (1, .int (iI (X_ro i j))), (2, .int (iI w))]) (st' := [.int (iI (X_ro i j)), .ref 514]) rfl ?_
        have h654 := (hF649.1 514 (by omega)).trans (hA514)
        refine T_zlald xr_30_30 h654 (pc' := 31) rfl ?_
        refine T_le (y := (X_st (-2) (X_all G i j))) hA ?_
        refine T_p xr_30_31 xn_30 (pc' := 32) (ls' := [(5, .long (iL 0)), (4, .int (iI h)), (3, .ref aw), (0, .ref 511), (1, .int (iI (X_ro i j))), (2, .int (iI w))]) (st' := [.long (iL 0), .long (X_st (-2) (X_all G i j))]) rfl ?_
        refine T_lc_eq xr_30_32 xr_30_33 (t := 65) (pc' := 36) rfl rfl (fun c655 => ?_) (fun c655 => ?_)
        · skip
          have c655 : (X_st (-2) (X_all G i j)) = (iL 0) := c655
          refine T_p xr_30_65 xn_30 (pc' := 66) (ls' := [(5, .long (iL 0)), (4, .int (iI h)), (3, .ref aw), (0, .ref 511), (1, .int (iI (X_ro i j))), (2, .int (iI w))]) (st' := [.ref 511]) rfl ?_
          refine T_get xr_30_66 h653 rfl (v := .ref 515) rfl (pc' := 69) rfl ?_
          refine T_p xr_30_69 xn_30 (pc' := 70) (ls' := [(5, .long (iL 0)), (4, .int (iI h)), (3, .ref aw), (0, .ref 511), (1, .int (iI (X_ro i j))), (2, .int (iI w))]) (st' := [.int (iI (X_ro i j)), .ref 515]) rfl ?_
          refine T_p xr_30_70 xn_30 (pc' := 72) (ls' := [(5, .long (iL 0)), (4, .int (iI h)), (3, .ref aw), (0, .ref 511), (1, .int (iI (X_ro i j))), (2, .int (iI w))]) (st' := [.int (iI 30), .int (iI (X_ro i j)), .ref 515]) rfl ?_
          refine T_zimul xr_30_72 (z := (X_ro i j) * 30) rfl (pc' := 73) rfl ?_
          refine T_p xr_30_73 xn_30 (pc' := 74) (ls' := [(5, .long (iL 0)), (4, .int (iI h)), (3, .ref aw), (0, .ref 511), (1, .int (iI (X_ro i j))), (2, .int (iI w))]) (st' := [.int (iI w), .int (iI ((X_ro i j) * 30)), .ref 515]) rfl ?_
          refine T_ziadd xr_30_74 (z := ((X_ro i j) * 30) + w) rfl (pc' := 75) rfl ?_
          refine T_p xr_30_75 xn_30 (pc' := 76) (ls' := [(5, .long (iL 0)), (4, .int (iI h)), (3, .ref aw), (0, .ref 511), (1, .int (iI (X_ro i j))), (2, .int (iI w))]) (st' := [.int (iI 4), .int (iI (((X_ro i j) * 30) + w)), .ref 515]) rfl ?_
          refine T_zimul xr_30_76 (z := (((X_ro i j) * 30) + w) * 4) rfl (pc' := 77) rfl ?_
          refine T_p xr_30_77 xn_30 (pc' := 79) (ls' := [(5, .long (iL 0)), (4, .int (iI h)), (3, .ref aw), (0, .ref 511), (1, .int (iI (X_ro i j))), (2, .int (iI w))]) (st' := [.int (iI h), .int (iI ((((X_ro i j) * 30) + w) * 4)), .ref 515]) rfl ?_
          refine T_ziadd xr_30_79 (z := ((((X_ro i j) * 30) + w) * 4) + h) rfl (pc' := 80) rfl ?_
          refine T_p xr_30_80 xn_30 (pc' := 82) (ls' := [(5, .long (iL 0)), (4, .int (iI h)), (3, .ref aw), (0, .ref 511), (1, .int (iI (X_ro i j))), (2, .int (iI w))]) (st' := [.long (iL 0), .int (iI (((((X_ro i j) * 30) + w) * 4) + h)), .ref 515]) rfl ?_
          refine T_le (y := (X_st (-2) (X_Hw G (X_T_ G) w e i j))) (by rw [show X_Hw G (X_T_ G) w e i j = 0 from X_Hc_0 hG ((X_st_z (m := -2) (by omega)).mp (by assumption))]; rfl) ?_
          refine T_zlast xr_30_82 hoH1 (pc' := 83) rfl (fun S656 h657 n658 e659 => ?_)
          refine T_ziinc xr_30_83 xn_30 (a := h) (z := h + 1) rfl (Nat.le_of_ble_eq_true rfl) (by omega) (ls' := [(4, .int (iI (h + 1))), (5, .long (iL 0)), (3, .ref aw), (0, .ref 511), (1, .int (iI (X_ro i j))), (2, .int (iI w))]) rfl (pc' := 86) rfl ?_
          refine T_p xr_30_86 xn_30 (pc' := 13) (ls' := [(4, .int (iI (h + 1))), (5, .long (iL 0)), (3, .ref aw), (0, .ref 511), (1, .int (iI (X_ro i j))), (2, .int (iI w))]) (st' := []) rfl ?_
          refine T_sub (ls := [(4, .int (iI (h + 1))), (3, .ref aw), (0, .ref 511), (1, .int (iI (X_ro i j))), (2, .int (iI w))]) ⟨rfl, rfl, rfl, rfl, rfl, trivial⟩ rfl rfl ?_
          exact ih646 S656 (h + 1) (X_ug oH1 (((((X_ro i j) * 30) + w) * 4) + h) (X_st (-2) (X_Hw G (X_T_ G) w e i j))) h657 (hF649.tr ((X_Fr.rf).tr (X_Fr.of n658 e659 (by omega)))) (by omega) (fun e2 g1 g2 g3 g4 => by
                by_cases hh : gD G w 8 e2 = h
                · have ee : e2 = e := hgw.inj g1 g2 g3 he1 he2 he3 (by omega)
                  subst ee
                  rw [hh, X_ug_s]
                · rw [X_ug_n _ _ (by omega)]; exact hI e2 g1 g2 g3 (by omega)) (fun q hq => by rw [X_ug_n _ _ (by omega)]; exact hOo q hq) (by omega)
        · skip
          have c655 : ¬ ((X_st (-2) (X_all G i j)) = (iL 0)) := c655
          refine T_p xr_30_36 xn_30 (pc' := 37) (ls' := [(5, .long (iL 0)), (4, .int (iI h)), (3, .ref aw), (0, .ref 511), (1, .int (iI (X_ro i j))), (2, .int (iI w))]) (st' := [.ref 511]) rfl ?_
          refine T_p xr_30_37 xn_30 (pc' := 38) (ls' := [(5, .long (iL 0)), (4, .int (iI h)), (3, .ref aw), (0, .ref 511), (1, .int (iI (X_ro i j))), (2, .int (iI w))]) (st' := [.int (iI (X_ro i j)), .ref 511]) rfl ?_
          refine T_p xr_30_38 xn_30 (pc' := 39) (ls' := [(5, .long (iL 0)), (4, .int (iI h)), (3, .ref aw), (0, .ref 511), (1, .int (iI (X_ro i j))), (2, .int (iI w))]) (st' := [.ref aw, .int (iI (X_ro i j)), .ref 511]) rfl ?_
          refine T_get xr_30_39 h651 rfl (v := .ref (aw + 5)) rfl (pc' := 42) rfl ?_
          refine T_p xr_30_42 xn_30 (pc' := 44) (ls' := [(5, .long (iL 0)), (4, .int (iI h)), (3, .ref aw), (0, .ref 511), (1, .int (iI (X_ro i j))), (2, .int (iI w))]) (st' := [.int (iI h), .ref (aw + 5), .int (iI (X_ro i j)), .ref 511]) rfl ?_
          have h660 := (hF649.1 (aw + 5) (by omega)).trans (hwaw.1.2.2.2.2.2.1)
          refine T_ziald xr_30_44 h660 (pc' := 45) rfl ?_
          refine T_cv (S := S650) (q := 511) xr_30_45 xf_25.1 xf_25.2.1 xn_25 (as := [.int (iI (X_ro i j)), .int (iI (((gD G) w 11) h))]) (r := []) rfl h653 (Nat.le_of_ble_eq_true rfl) (Nat.le_of_ble_eq_true rfl) (pc' := 48) rfl (ls' := [(0, .ref 511), (1, .int (iI (X_ro i j))), (2, .int (iI (((gD G) w 11) h)))]) rfl ?_
          have h661 := (hF649.1 512 (by omega)).trans (hA512)
          have h662 := (hF649.1 B (by omega)).trans (hb0)
          have h663 := (hF649.1 (B + 1) (by omega)).trans (hb1)
          have h664 := (hF649.1 (B + 2) (by omega)).trans (hb2)
          have h665 := (hF649.1 (B + 3) (by omega)).trans (hb3)
          have h666 := (hF649.1 (B + 4) (by omega)).trans (hb4)
          have h667 := (hF649.1 (B + 5) (by omega)).trans (hb5)
          have hs668 : C_ws S650 B (gD G) (gW G) := C_ws.fr (P := fun q => 501 ≤ q ∧ q ≤ 529) hs ((X_Fr.rf).tr (X_Fr.mono ⟨hF649.1, hF649.2⟩ (fun q hq => (by omega)))) (fun k h1 h2 => by omega)
          refine T_mono (c_sumK sc S650 oK B rc rn kn G tn fl (X_ro i j) (((gD G) w 11) h) (fun z => X_nm G z i j + (X_T_ G).2 z i j) h653 h661 hB ⟨h662, h663, h664, h665, h666, ⟨f, h667, hf⟩, ⟨by omega, by omega⟩, ⟨by omega, by omega⟩, ⟨by omega, by omega⟩⟩ hs668 hG (by omega) hK) (fun v669 S670 h671 => ?_)
          rcases h671 with ⟨hv672, hf673⟩
          rw [hv672]
          rw [hf673]
          show X_T sc 30 (48, [(5, .long (iL 0)), (4, .int (iI h)), (3, .ref aw), (0, .ref 511), (1, .int (iI (X_ro i j))), (2, .int (iI w))], [.long (X_st (-2) (X_Su (fun k => X_if (X_bt (((gD G) w 11) h) k) ((fun z => X_nm G z i j + (X_T_ G).2 z i j) k)) 0 (gk G)))], S650) _
          refine T_p xr_30_48 xn_30 (pc' := 49) (ls' := [(5, .long (iL 0)), (4, .int (iI h)), (3, .ref aw), (0, .ref 511), (1, .int (iI (X_ro i j))), (2, .int (iI w))]) (st' := [.ref 511, .long (X_st (-2) (X_Su (fun k => X_if (X_bt (((gD G) w 11) h) k) ((fun z => X_nm G z i j + (X_T_ G).2 z i j) k)) 0 (gk G)))]) rfl ?_
          refine T_p xr_30_49 xn_30 (pc' := 50) (ls' := [(5, .long (iL 0)), (4, .int (iI h)), (3, .ref aw), (0, .ref 511), (1, .int (iI (X_ro i j))), (2, .int (iI w))]) (st' := [.int (iI (X_ro i j)), .ref 511, .long (X_st (-2) (X_Su (fun k => X_if (X_bt (((gD G) w 11) h) k) ((fun z => X_nm G z i j + (X_T_ G).2 z i j) k)) 0 (gk G)))]) rfl ?_
          refine T_p xr_30_50 xn_30 (pc' := 51) (ls' := [(5, .long (iL 0)), (4, .int (iI h)), (3, .ref aw), (0, .ref 511), (1, .int (iI (X_ro i j))), (2, .int (iI w))]) (st' := [.ref aw, .int (iI (X_ro i j)), .ref 511, .long (X_st (-2) (X_Su (fun k => X_if (X_bt (((gD G) w 11) h) k) ((fun z => X_nm G z i j + (X_T_ G).2 z i j) k)) 0 (gk G)))]) rfl ?_
          refine T_get xr_30_51 h651 rfl (v := .ref (aw + 4)) rfl (pc' := 54) rfl ?_
          refine T_p xr_30_54 xn_30 (pc' := 56) (ls' := [(5, .long (iL 0)), (4, .int (iI h)), (3, .ref aw), (0, .ref 511), (1, .int (iI (X_ro i j))), (2, .int (iI w))]) (st' := [.int (iI h), .ref (aw + 4), .int (iI (X_ro i j)), .ref 511, .long (X_st (-2) (X_Su (fun k => X_if (X_bt (((gD G) w 11) h) k) ((fun z => X_nm G z i j + (X_T_ G).2 z i j) k)) 0 (gk G)))]) rfl ?_
          have h674 := (hF649.1 (aw + 4) (by omega)).trans (hwaw.1.2.2.2.2.1)
          refine T_ziald xr_30_56 h674 (pc' := 57) rfl ?_
          refine T_cv (S := S650) (q := 511) xr_30_57 xf_26.1 xf_26.2.1 xn_26 (as := [.int (iI (X_ro i j)), .int (iI (((gD G) w 10) h))]) (r := [.long (X_st (-2) (X_Su (fun k => X_if (X_bt (((gD G) w 11) h) k) ((fun z => X_nm G z i j + (X_T_ G).2 z i j) k)) 0 (gk G)))]) rfl h653 (Nat.le_of_ble_eq_true rfl) (Nat.le_of_ble_eq_true rfl) (pc' := 60) rfl (ls' := [(0, .ref 511), (1, .int (iI (X_ro i j))), (2, .int (iI (((gD G) w 10) h)))]) rfl ?_
          have h675 := (hF649.1 513 (by omega)).trans (hA513)
          refine T_mono (c_sumW sc S650 oW B rc rn kn G tn fl (X_ro i j) (((gD G) w 10) h) (fun v => (X_T_ G).1 v i j) h653 h675 hB ⟨h662, h663, h664, h665, h666, ⟨f, h667, hf⟩, ⟨by omega, by omega⟩, ⟨by omega, by omega⟩, ⟨by omega, by omega⟩⟩ hs668 hG (by omega) hW) (fun v676 S677 h678 => ?_)
          rcases h678 with ⟨hv679, hf680⟩
          rw [hv679]
          rw [hf680]
          show X_T sc 30 (60, [(5, .long (iL 0)), (4, .int (iI h)), (3, .ref aw), (0, .ref 511), (1, .int (iI (X_ro i j))), (2, .int (iI w))], [.long (X_st (-2) (X_Su (fun k => X_if (X_bt (((gD G) w 10) h) k) ((fun v => (X_T_ G).1 v i j) k)) 0 (gw G))), .long (X_st (-2) (X_Su (fun k => X_if (X_bt (((gD G) w 11) h) k) ((fun z => X_nm G z i j + (X_T_ G).2 z i j) k)) 0 (gk G)))], S650) _
          refine T_cs xr_30_60 (by decide) xf_115.1 xn_115 (as := [.long (X_st (-2) (X_Su (fun k => X_if (X_bt (((gD G) w 11) h) k) ((fun z => X_nm G z i j + (X_T_ G).2 z i j) k)) 0 (gk G))), .long (X_st (-2) (X_Su (fun k => X_if (X_bt (((gD G) w 10) h) k) ((fun v => (X_T_ G).1 v i j) k)) 0 (gw G)))]) (r := []) rfl (Nat.le_of_ble_eq_true rfl) (Nat.le_of_ble_eq_true rfl) (pc' := 63) rfl (ls' := [(0, .long (X_st (-2) (X_Su (fun k => X_if (X_bt (((gD G) w 11) h) k) ((fun z => X_nm G z i j + (X_T_ G).2 z i j) k)) 0 (gk G)))), (2, .long (X_st (-2) (X_Su (fun k => X_if (X_bt (((gD G) w 10) h) k) ((fun v => (X_T_ G).1 v i j) k)) 0 (gw G))))]) rfl ?_
          refine T_mono (c_plus sc S650 (X_Su (fun k => X_if (X_bt (((gD G) w 11) h) k) ((fun z => X_nm G z i j + (X_T_ G).2 z i j) k)) 0 (gk G)) (X_Su (fun k => X_if (X_bt (((gD G) w 10) h) k) ((fun v => (X_T_ G).1 v i j) k)) 0 (gw G))) (fun v681 S682 h683 => ?_)
          rcases h683 with ⟨hv684, hf685⟩
          rw [hv684]
          rw [hf685]
          show X_T sc 30 (63, [(5, .long (iL 0)), (4, .int (iI h)), (3, .ref aw), (0, .ref 511), (1, .int (iI (X_ro i j))), (2, .int (iI w))], [.long (X_st (-2) ((X_Su (fun k => X_if (X_bt (((gD G) w 11) h) k) ((fun z => X_nm G z i j + (X_T_ G).2 z i j) k)) 0 (gk G)) + (X_Su (fun k => X_if (X_bt (((gD G) w 10) h) k) ((fun v => (X_T_ G).1 v i j) k)) 0 (gw G))))], S650) _
          refine T_p xr_30_63 xn_30 (pc' := 65) (ls' := [(5, .long (X_st (-2) ((X_Su (fun k => X_if (X_bt (((gD G) w 11) h) k) ((fun z => X_nm G z i j + (X_T_ G).2 z i j) k)) 0 (gk G)) + (X_Su (fun k => X_if (X_bt (((gD G) w 10) h) k) ((fun v => (X_T_ G).1 v i j) k)) 0 (gw G))))), (4, .int (iI h)), (3, .ref aw), (0, .ref 511), (1, .int (iI (X_ro i j))), (2, .int (iI w))]) (st' := []) rfl ?_
          refine T_p xr_30_65 xn_30 (pc' := 66) (ls' := [(5, .long (X_st (-2) ((X_Su (fun k => X_if (X_bt (((gD G) w 11) h) k) ((fun z => X_nm G z i j + (X_T_ G).2 z i j) k)) 0 (gk G)) + (X_Su (fun k => X_if (X_bt (((gD G) w 10) h) k) ((fun v => (X_T_ G).1 v i j) k)) 0 (gw G))))), (4, .int (iI h)), (3, .ref aw), (0, .ref 511), (1, .int (iI (X_ro i j))), (2, .int (iI w))]) (st' := [.ref 511]) rfl ?_
          refine T_get xr_30_66 h653 rfl (v := .ref 515) rfl (pc' := 69) rfl ?_
          refine T_p xr_30_69 xn_30 (pc' := 70) (ls' := [(5, .long (X_st (-2) ((X_Su (fun k => X_if (X_bt (((gD G) w 11) h) k) ((fun z => X_nm G z i j + (X_T_ G).2 z i j) k)) 0 (gk G)) + (X_Su (fun k => X_if (X_bt (((gD G) w 10) h) k) ((fun v => (X_T_ G).1 v i j) k)) 0 (gw G))))), (4, .int (iI h)), (3, .ref aw), (0, .ref 511), (1, .int (iI (X_ro i j))), (2, .int (iI w))]) (st' := [.int (iI (X_ro i j)), .ref 515]) rfl ?_
          refine T_p xr_30_70 xn_30 (pc' := 72) (ls' := [(5, .long (X_st (-2) ((X_Su (fun k => X_if (X_bt (((gD G) w 11) h) k) ((fun z => X_nm G z i j + (X_T_ G).2 z i j) k)) 0 (gk G)) + (X_Su (fun k => X_if (X_bt (((gD G) w 10) h) k) ((fun v => (X_T_ G).1 v i j) k)) 0 (gw G))))), (4, .int (iI h)), (3, .ref aw), (0, .ref 511), (1, .int (iI (X_ro i j))), (2, .int (iI w))]) (st' := [.int (iI 30), .int (iI (X_ro i j)), .ref 515]) rfl ?_
          refine T_zimul xr_30_72 (z := (X_ro i j) * 30) rfl (pc' := 73) rfl ?_
          refine T_p xr_30_73 xn_30 (pc' := 74) (ls' := [(5, .long (X_st (-2) ((X_Su (fun k => X_if (X_bt (((gD G) w 11) h) k) ((fun z => X_nm G z i j + (X_T_ G).2 z i j) k)) 0 (gk G)) + (X_Su (fun k => X_if (X_bt (((gD G) w 10) h) k) ((fun v => (X_T_ G).1 v i j) k)) 0 (gw G))))), (4, .int (iI h)), (3, .ref aw), (0, .ref 511), (1, .int (iI (X_ro i j))), (2, .int (iI w))]) (st' := [.int (iI w), .int (iI ((X_ro i j) * 30)), .ref 515]) rfl ?_
          refine T_ziadd xr_30_74 (z := ((X_ro i j) * 30) + w) rfl (pc' := 75) rfl ?_
          refine T_p xr_30_75 xn_30 (pc' := 76) (ls' := [(5, .long (X_st (-2) ((X_Su (fun k => X_if (X_bt (((gD G) w 11) h) k) ((fun z => X_nm G z i j + (X_T_ G).2 z i j) k)) 0 (gk G)) + (X_Su (fun k => X_if (X_bt (((gD G) w 10) h) k) ((fun v => (X_T_ G).1 v i j) k)) 0 (gw G))))), (4, .int (iI h)), (3, .ref aw), (0, .ref 511), (1, .int (iI (X_ro i j))), (2, .int (iI w))]) (st' := [.int (iI 4), .int (iI (((X_ro i j) * 30) + w)), .ref 515]) rfl ?_
          refine T_zimul xr_30_76 (z := (((X_ro i j) * 30) + w) * 4) rfl (pc' := 77) rfl ?_
          refine T_p xr_30_77 xn_30 (pc' := 79) (ls' := [(5, .long (X_st (-2) ((X_Su (fun k => X_if (X_bt (((gD G) w 11) h) k) ((fun z => X_nm G z i j + (X_T_ G).2 z i j) k)) 0 (gk G)) + (X_Su (fun k => X_if (X_bt (((gD G) w 10) h) k) ((fun v => (X_T_ G).1 v i j) k)) 0 (gw G))))), (4, .int (iI h)), (3, .ref aw), (0, .ref 511), (1, .int (iI (X_ro i j))), (2, .int (iI w))]) (st' := [.int (iI h), .int (iI ((((X_ro i j) * 30) + w) * 4)), .ref 515]) rfl ?_
          refine T_ziadd xr_30_79 (z := ((((X_ro i j) * 30) + w) * 4) + h) rfl (pc' := 80) rfl ?_
          refine T_p xr_30_80 xn_30 (pc' := 82) (ls' := [(5, .long (X_st (-2) ((X_Su (fun k => X_if (X_bt (((gD G) w 11) h) k) ((fun z => X_nm G z i j + (X_T_ G).2 z i j) k)) 0 (gk G)) + (X_Su (fun k => X_if (X_bt (((gD G) w 10) h) k) ((fun v => (X_T_ G).1 v i j) k)) 0 (gw G))))), (4, .int (iI h)), (3, .ref aw), (0, .ref 511), (1, .int (iI (X_ro i j))), (2, .int (iI w))]) (st' := [.long (X_st (-2) ((X_Su (fun k => X_if (X_bt (((gD G) w 11) h) k) ((fun z => X_nm G z i j + (X_T_ G).2 z i j) k)) 0 (gk G)) + (X_Su (fun k => X_if (X_bt (((gD G) w 10) h) k) ((fun v => (X_T_ G).1 v i j) k)) 0 (gw G)))), .int (iI (((((X_ro i j) * 30) + w) * 4) + h)), .ref 515]) rfl ?_
          refine T_le (y := (X_st (-2) (X_Hw G (X_T_ G) w e i j))) (by rw [X_Hw_b hG hw.1 hw.2 he1 he2 he3, he4]) ?_
          refine T_zlast xr_30_82 hoH1 (pc' := 83) rfl (fun S686 h687 n688 e689 => ?_)
          refine T_ziinc xr_30_83 xn_30 (a := h) (z := h + 1) rfl (Nat.le_of_ble_eq_true rfl) (by omega) (ls' := [(4, .int (iI (h + 1))), (5, .long (X_st (-2) ((X_Su (fun k => X_if (X_bt (((gD G) w 11) h) k) ((fun z => X_nm G z i j + (X_T_ G).2 z i j) k)) 0 (gk G)) + (X_Su (fun k => X_if (X_bt (((gD G) w 10) h) k) ((fun v => (X_T_ G).1 v i j) k)) 0 (gw G))))), (3, .ref aw), (0, .ref 511), (1, .int (iI (X_ro i j))), (2, .int (iI w))]) rfl (pc' := 86) rfl ?_
          refine T_p xr_30_86 xn_30 (pc' := 13) (ls' := [(4, .int (iI (h + 1))), (5, .long (X_st (-2) ((X_Su (fun k => X_if (X_bt (((gD G) w 11) h) k) ((fun z => X_nm G z i j + (X_T_ G).2 z i j) k)) 0 (gk G)) + (X_Su (fun k => X_if (X_bt (((gD G) w 10) h) k) ((fun v => (X_T_ G).1 v i j) k)) 0 (gw G))))), (3, .ref aw), (0, .ref 511), (1, .int (iI (X_ro i j))), (2, .int (iI w))]) (st' := []) rfl ?_
          refine T_sub (ls := [(4, .int (iI (h + 1))), (3, .ref aw), (0, .ref 511), (1, .int (iI (X_ro i j))), (2, .int (iI w))]) ⟨rfl, rfl, rfl, rfl, rfl, trivial⟩ rfl rfl ?_
          exact ih646 S686 (h + 1) (X_ug oH1 (((((X_ro i j) * 30) + w) * 4) + h) (X_st (-2) (X_Hw G (X_T_ G) w e i j))) h687 (hF649.tr ((X_Fr.rf).tr (X_Fr.of n688 e689 (by omega)))) (by omega) (fun e2 g1 g2 g3 g4 => by
                by_cases hh : gD G w 8 e2 = h
                · have ee : e2 = e := hgw.inj g1 g2 g3 he1 he2 he3 (by omega)
                  subst ee
                  rw [hh, X_ug_s]
                · rw [X_ug_n _ _ (by omega)]; exact hI e2 g1 g2 g3 (by omega)) (fun q hq => by rw [X_ug_n _ _ (by omega)]; exact hOo q hq) (by omega)
  exact L645 ((gD G w 4 0) + 1).toNat S 0 oH hA515 ((X_Fr.rf)) (by omega) (fun e g1 g2 g3 g4 => absurd g4 (by have := hgw.hole g1 g2 g3; omega)) (fun _ _ => rfl) (by omega)
theorem c_fillKinds (sc : X_Sc) (S : X_S) (oK : Int → Int64) (oW : Int → Int64) (B : Nat) (rc : Int) (rn : Int → Int64) (kn : Int → Int64) (G : X_G) (tn : Int) (fl : Int) (i : Int) (j : Int) (hO501 : S.1 501 = .inr (6, [.int (iI tn), .ref 502, .ref 503])) (hO511 : S.1 511 = .inr (1, [.ref B, .ref 501, .int (iI fl), .ref 512, .ref 513, .ref 514, .ref 515, .ref 516])) (hA512 : S.1 512 = .inl (.long, 5115, .inr (.inl fun k : Nat => oK (k : Int)))) (hA513 : S.1 513 = .inl (.long, 13950, .inr (.inl fun k : Nat => oW (k : Int)))) (hB : B = 4 ∨ B = 250) (hb : C_bk S B rc (gk G) (gw G) rn (gl G) kn (ga G)) (hs : C_ws S B (gD G) (gW G)) (hG : X_Gok G) (hA502 : S.1 502 = .inl (.long, 30, .inr (.inl fun k : Nat => (gt G) (k : Int)))) (hij : 0 ≤ i ∧ i < j ∧ j ≤ tn ∧ tn ≤ 30) (hR : X_brk G i j → (∀ k, 0 ≤ k → k < gk G → oK (X_ro (i + 1) (j - 1) * 11 + k) = X_st (-2) (X_nm G k (i + 1) (j - 1) + (X_T_ G).2 k (i + 1) (j - 1))) ∧ (∀ w, 0 ≤ w → w < gw G → oW (X_ro (i + 1) (j - 1) * 30 + w) = X_st (-2) ((X_T_ G).1 w (i + 1) (j - 1)))) : X_T sc 29 (0, [(0, .ref 511), (1, .int (iI i)), (2, .int (iI j))], [], S) (fun v S' => ∃ (oK1 : Int → Int64), v = none ∧ (∀ k, 0 ≤ k → k < gk G → oK1 (X_ro i j * 11 + k) = X_st (-2) (X_nm G k i j + (X_T_ G).2 k i j)) ∧ (∀ q, ¬ (X_ro i j * 11 ≤ q ∧ q < X_ro i j * 11 + 11) → oK1 q = oK q) ∧ S'.1 512 = .inl (.long, 5115, .inr (.inl fun k : Nat => oK1 (k : Int))) ∧ X_Fr (fun q => q = 512) S S') := by
  obtain ⟨hb0, hb1, hb2, hb3, hb4, ⟨f, hb5, hf⟩, ⟨hrc, hrcb⟩, ⟨hkc, hkcb⟩, ⟨hwc, hwcb⟩⟩ := id hb
  have hkr := hG.2.1
  have hro := X_ro_r hij.1 hij.2.1 (show j ≤ 30 by omega)
  refine X_QI (fun Q hQ => ?_)
  refine T_p xr_29_0 xn_29 (pc' := 1) (ls' := [(0, .ref 511), (1, .int (iI i)), (2, .int (iI j))]) (st' := [.int (iI i)]) rfl ?_
  refine T_p xr_29_1 xn_29 (pc' := 2) (ls' := [(0, .ref 511), (1, .int (iI i)), (2, .int (iI j))]) (st' := [.int (iI j), .int (iI i)]) rfl ?_
  refine T_cs xr_29_2 (by decide) xf_20.1 xn_20 (as := [.int (iI i), .int (iI j)]) (r := []) rfl (Nat.le_of_ble_eq_true rfl) (Nat.le_of_ble_eq_true rfl) (pc' := 5) rfl (ls' := [(0, .int (iI i)), (1, .int (iI j))]) rfl ?_
  refine T_mono (c_rowOf sc S i j (by omega)) (fun v690 S691 h692 => ?_)
  rcases h692 with ⟨hv693, hf694⟩
  rw [hv693]
  rw [hf694]
  have hr695 := X_ro_r (i := i) (j := j) (by omega) (by omega) (by omega)
  show X_T sc 29 (5, [(0, .ref 511), (1, .int (iI i)), (2, .int (iI j))], [.int (iI (X_ro i j))], S) _
  refine T_p xr_29_5 xn_29 (pc' := 6) (ls' := [(3, .int (iI (X_ro i j))), (0, .ref 511), (1, .int (iI i)), (2, .int (iI j))]) (st' := []) rfl ?_
  refine T_p xr_29_6 xn_29 (pc' := 7) (ls' := [(3, .int (iI (X_ro i j))), (0, .ref 511), (1, .int (iI i)), (2, .int (iI j))]) (st' := [.int (iI 0)]) rfl ?_
  refine T_p xr_29_7 xn_29 (pc' := 9) (ls' := [(4, .int (iI 0)), (3, .int (iI (X_ro i j))), (0, .ref 511), (1, .int (iI i)), (2, .int (iI j))]) (st' := []) rfl ?_
  have L696 : ∀ (m698 : Nat) (S701 : X_S) (k : Int) (oK1 : Int → Int64) (hoK1 : S701.1 512 = .inl (.long, 5115, .inr (.inl fun k : Nat => oK1 (k : Int)))) (hF700 : X_Fr (fun q => q = 512) S S701) (hk : 0 ≤ k ∧ k ≤ gk G) (hz : ∀ z, 0 ≤ z → z < k → oK1 (X_ro i j * 11 + z) = iL 0) (hOk : ∀ q, ¬ (X_ro i j * 11 ≤ q ∧ q < X_ro i j * 11 + 11) → oK1 q = oK q) (hm699 : gk G - k < m698), X_T sc 29 (9, [(4, .int (iI k)), (3, .int (iI (X_ro i j))), (0, .ref 511), (1, .int (iI i)), (2, .int (iI j))], [], S701) Q := by
    intro m698
    induction m698 with
    | zero =>
      intro S701 k oK1 hoK1 hF700 hk hz hOk hm699
      exact (show False by omega).elim
    | succ m698 ih697 =>
      intro S701 k oK1 hoK1 hF700 hk hz hOk hm699
      refine T_p xr_29_9 xn_29 (pc' := 11) (ls' := [(4, .int (iI k)), (3, .int (iI (X_ro i j))), (0, .ref 511), (1, .int (iI i)), (2, .int (iI j))]) (st' := [.int (iI k)]) rfl ?_
      refine T_p xr_29_11 xn_29 (pc' := 12) (ls' := [(4, .int (iI k)), (3, .int (iI (X_ro i j))), (0, .ref 511), (1, .int (iI i)), (2, .int (iI j))]) (st' := [.ref 511, .int (iI k)]) rfl ?_
      have h702 := (hF700.1 511 (by omega)).trans (hO511)
      refine T_get xr_29_12 h702 rfl (v := .ref B) rfl (pc' := 15) rfl ?_
      have h703 := (hF700.1 B (by omega)).trans (hb0)
      refine T_get xr_29_15 h703 rfl (v := .int (iI (gk G))) rfl (pc' := 18) rfl ?_
      refine T_zicmp_ge xr_29_18 (t := 40) (pc' := 21) rfl rfl (fun c704 => ?_) (fun c704 => ?_)
      · skip
        have c704 : (gk G) ≤ k := c704
        refine T_p xr_29_40 xn_29 (pc' := 41) (ls' := [(4, .int (iI k)), (3, .int (iI (X_ro i j))), (0, .ref 511), (1, .int (iI i)), (2, .int (iI j))]) (st' := [.int (iI j)]) rfl ?_
        refine T_p xr_29_41 xn_29 (pc' := 42) (ls' := [(4, .int (iI k)), (3, .int (iI (X_ro i j))), (0, .ref 511), (1, .int (iI i)), (2, .int (iI j))]) (st' := [.int (iI i), .int (iI j)]) rfl ?_
        refine T_p xr_29_42 xn_29 (pc' := 43) (ls' := [(4, .int (iI k)), (3, .int (iI (X_ro i j))), (0, .ref 511), (1, .int (iI i)), (2, .int (iI j))]) (st' := [.int (iI 1), .int (iI i), .int (iI j)]) rfl ?_
        refine T_ziadd xr_29_43 (z := i + 1) rfl (pc' := 44) rfl ?_
        refine T_zicmp_ne xr_29_44 (t := 79) (pc' := 47) rfl rfl (fun c705 => ?_) (fun c705 => ?_)
        · skip
          have c705 : ¬ j = (i + 1) := c705
          refine T_p xr_29_79 xn_29 (pc' := 80) (ls' := [(4, .int (iI k)), (3, .int (iI (X_ro i j))), (0, .ref 511), (1, .int (iI i)), (2, .int (iI j))]) (st' := [.ref 511]) rfl ?_
          refine T_get xr_29_80 h702 rfl (v := .ref 501) rfl (pc' := 83) rfl ?_
          refine T_p xr_29_83 xn_29 (pc' := 84) (ls' := [(4, .int (iI k)), (3, .int (iI (X_ro i j))), (0, .ref 511), (1, .int (iI i)), (2, .int (iI j))]) (st' := [.int (iI i), .ref 501]) rfl ?_
          refine T_p xr_29_84 xn_29 (pc' := 85) (ls' := [(4, .int (iI k)), (3, .int (iI (X_ro i j))), (0, .ref 511), (1, .int (iI i)), (2, .int (iI j))]) (st' := [.int (iI j), .int (iI i), .ref 501]) rfl ?_
          have h706 := (hF700.1 501 (by omega)).trans (hO501)
          refine T_cv (S := S701) (q := 501) xr_29_85 xf_85.1 xf_85.2.1 xn_85 (as := [.int (iI i), .int (iI j)]) (r := []) rfl h706 (Nat.le_of_ble_eq_true rfl) (Nat.le_of_ble_eq_true rfl) (pc' := 88) rfl (ls' := [(0, .ref 501), (1, .int (iI i)), (2, .int (iI j))]) rfl ?_
          have h707 := (hF700.1 502 (by omega)).trans (hA502)
          refine T_mono (c_isBracketed sc S701 tn G i j h706 h707 (by omega)) (fun v708 S709 h710 => ?_)
          rcases h710 with ⟨hv711, hf712⟩
          rw [hv711]
          rw [hf712]
          show X_T sc 29 (88, [(4, .int (iI k)), (3, .int (iI (X_ro i j))), (0, .ref 511), (1, .int (iI i)), (2, .int (iI j))], [.int (iI (bI (X_brk G i j)))], S701) _
          refine T_bif_eq xr_29_88 (t := 167) (pc' := 91) rfl rfl (fun c713 => ?_) (fun c713 => ?_)
          · skip
            have c713 : ¬ (X_brk G i j) := c713
            refine T_vret xr_29_167 xf_29.2.2 ?_
            refine hQ _ _ ?_
            exact ⟨oK1, rfl, (fun k h1 h2 => by
                  first
                    | (rw [(X_nmB (k := k) hij.2.1 (by omega)).1 (by omega), X_if_f (fun z => absurd z.1 (by assumption))]; exact hz k h1 (by omega))
                    | (rw [(X_nmB (k := k) hij.2.1 (by omega)).2 (by omega), X_if_f (by assumption)]; exact hz k h1 (by omega))), hOk, hoK1, (X_Fr.rf).tr (X_Fr.mono ⟨hF700.1, hF700.2⟩ (fun q hq => (by omega)))⟩
          · skip
            have c713 : (X_brk G i j) := c713
            have hbk : X_brk G i j := by assumption
            obtain ⟨hRK, hRW⟩ := hR hbk
            have hbk3 := hbk.1
            have hro2 := X_ro_r (i := i + 1) (j := j - 1) (by omega) (by omega) (by omega)
            have hne := X_ro_ne (i := i + 1) (j := j - 1) (i' := i) (j' := j) (by omega) (by omega) (by omega)
            refine T_p xr_29_91 xn_29 (pc' := 92) (ls' := [(4, .int (iI k)), (3, .int (iI (X_ro i j))), (0, .ref 511), (1, .int (iI i)), (2, .int (iI j))]) (st' := [.int (iI i)]) rfl ?_
            refine T_p xr_29_92 xn_29 (pc' := 93) (ls' := [(4, .int (iI k)), (3, .int (iI (X_ro i j))), (0, .ref 511), (1, .int (iI i)), (2, .int (iI j))]) (st' := [.int (iI 1), .int (iI i)]) rfl ?_
            refine T_ziadd xr_29_93 (z := i + 1) rfl (pc' := 94) rfl ?_
            refine T_p xr_29_94 xn_29 (pc' := 95) (ls' := [(4, .int (iI k)), (3, .int (iI (X_ro i j))), (0, .ref 511), (1, .int (iI i)), (2, .int (iI j))]) (st' := [.int (iI j), .int (iI (i + 1))]) rfl ?_
            refine T_p xr_29_95 xn_29 (pc' := 96) (ls' := [(4, .int (iI k)), (3, .int (iI (X_ro i j))), (0, .ref 511), (1, .int (iI i)), (2, .int (iI j))]) (st' := [.int (iI 1), .int (iI j), .int (iI (i + 1))]) rfl ?_
            refine T_zisub xr_29_96 (z := j - 1) rfl (pc' := 97) rfl ?_
            refine T_cs xr_29_97 (by decide) xf_20.1 xn_20 (as := [.int (iI (i + 1)), .int (iI (j - 1))]) (r := []) rfl (Nat.le_of_ble_eq_true rfl) (Nat.le_of_ble_eq_true rfl) (pc' := 100) rfl (ls' := [(0, .int (iI (i + 1))), (1, .int (iI (j - 1)))]) rfl ?_
            refine T_mono (c_rowOf sc S701 (i + 1) (j - 1) (by omega)) (fun v714 S715 h716 => ?_)
            rcases h716 with ⟨hv717, hf718⟩
            rw [hv717]
            rw [hf718]
            have hr719 := X_ro_r (i := (i + 1)) (j := (j - 1)) (by omega) (by omega) (by omega)
            show X_T sc 29 (100, [(4, .int (iI k)), (3, .int (iI (X_ro i j))), (0, .ref 511), (1, .int (iI i)), (2, .int (iI j))], [.int (iI (X_ro (i + 1) (j - 1)))], S701) _
            refine T_p xr_29_100 xn_29 (pc' := 102) (ls' := [(4, .int (iI (X_ro (i + 1) (j - 1)))), (3, .int (iI (X_ro i j))), (0, .ref 511), (1, .int (iI i)), (2, .int (iI j))]) (st' := []) rfl ?_
            refine T_p xr_29_102 xn_29 (pc' := 103) (ls' := [(4, .int (iI (X_ro (i + 1) (j - 1)))), (3, .int (iI (X_ro i j))), (0, .ref 511), (1, .int (iI i)), (2, .int (iI j))]) (st' := [.int (iI 0)]) rfl ?_
            refine T_p xr_29_103 xn_29 (pc' := 105) (ls' := [(5, .int (iI 0)), (4, .int (iI (X_ro (i + 1) (j - 1)))), (3, .int (iI (X_ro i j))), (0, .ref 511), (1, .int (iI i)), (2, .int (iI j))]) (st' := []) rfl ?_
            have L720 : ∀ (m722 : Nat) (S725 : X_S) (kd : Int) (oK2 : Int → Int64) (hoK2 : S725.1 512 = .inl (.long, 5115, .inr (.inl fun k : Nat => oK2 (k : Int)))) (hF724 : X_Fr (fun q => q = 512) S701 S725) (hkd : 0 ≤ kd ∧ kd ≤ gk G) (hI : ∀ z, 0 ≤ z → z < kd → oK2 (X_ro i j * 11 + z) = X_st (-2) (X_Kd G (X_T_ G) z (i + 1) (j - 1))) (hOk2 : ∀ q, ¬ (X_ro i j * 11 ≤ q ∧ q < X_ro i j * 11 + 11) → oK2 q = oK q) (hm723 : gk G - kd < m722), X_T sc 29 (105, [(5, .int (iI kd)), (4, .int (iI (X_ro (i + 1) (j - 1)))), (3, .int (iI (X_ro i j))), (0, .ref 511), (1, .int (iI i)), (2, .int (iI j))], [], S725) Q := by
              intro m722
              induction m722 with
              | zero =>
                intro S725 kd oK2 hoK2 hF724 hkd hI hOk2 hm723
                exact (show False by omega).elim
              | succ m722 ih721 =>
                intro S725 kd oK2 hoK2 hF724 hkd hI hOk2 hm723
                refine T_p xr_29_105 xn_29 (pc' := 107) (ls' := [(5, .int (iI kd)), (4, .int (iI (X_ro (i + 1) (j - 1)))), (3, .int (iI (X_ro i j))), (0, .ref 511), (1, .int (iI i)), (2, .int (iI j))]) (st' := [.int (iI kd)]) rfl ?_
                refine T_p xr_29_107 xn_29 (pc' := 108) (ls' := [(5, .int (iI kd)), (4, .int (iI (X_ro (i + 1) (j - 1)))), (3, .int (iI (X_ro i j))), (0, .ref 511), (1, .int (iI i)), (2, .int (iI j))]) (st' := [.ref 511, .int (iI kd)]) rfl ?_
                have h726 := (hF724.1 511 (by omega)).trans (h702)
                refine T_get xr_29_108 h726 rfl (v := .ref B) rfl (pc' := 111) rfl ?_
                have h727 := (hF724.1 B (by omega)).trans (h703)
                refine T_get xr_29_111 h727 rfl (v := .int (iI (gk G))) rfl (pc' := 114) rfl ?_
                refine T_zicmp_ge xr_29_114 (t := 167) (pc' := 117) rfl rfl (fun c728 => ?_) (fun c728 => ?_)
                · skip
                  have c728 : (gk G) ≤ kd := c728
                  refine T_vret xr_29_167 xf_29.2.2 ?_
                  refine hQ _ _ ?_
                  exact ⟨oK2, rfl, (fun k h1 h2 => by rw [(X_nmB (k := k) hij.2.1 (by omega)).2 (by omega), X_if_t hbk]; exact hI k h1 (by omega)), hOk2, hoK2, ((X_Fr.rf).tr (X_Fr.mono ⟨hF700.1, hF700.2⟩ (fun q hq => (by omega)))).tr (X_Fr.mono ⟨hF724.1, hF724.2⟩ (fun q hq => (by omega)))⟩
                · skip
                  have c728 : ¬ ((gk G) ≤ kd) := c728
                  have hkk : kd < gk G := by omega
                  refine T_p xr_29_117 xn_29 (pc' := 118) (ls' := [(5, .int (iI kd)), (4, .int (iI (X_ro (i + 1) (j - 1)))), (3, .int (iI (X_ro i j))), (0, .ref 511), (1, .int (iI i)), (2, .int (iI j))]) (st' := [.int (iI 1)]) rfl ?_
                  refine T_p xr_29_118 xn_29 (pc' := 120) (ls' := [(5, .int (iI kd)), (4, .int (iI (X_ro (i + 1) (j - 1)))), (3, .int (iI (X_ro i j))), (0, .ref 511), (1, .int (iI i)), (2, .int (iI j))]) (st' := [.int (iI kd), .int (iI 1)]) rfl ?_
                  refine T_zop xr_29_120 (pc' := 121) rfl (z := (iI 1 <<< (iI kd &&& 31)).toInt) (iI_of _) ?_
                  refine T_ie (y := iI (X_bS kd)) (by rfl) ?_
                  refine T_p xr_29_121 xn_29 (pc' := 123) (ls' := [(6, .int (iI (X_bS kd))), (5, .int (iI kd)), (4, .int (iI (X_ro (i + 1) (j - 1)))), (3, .int (iI (X_ro i j))), (0, .ref 511), (1, .int (iI i)), (2, .int (iI j))]) (st' := []) rfl ?_
                  refine T_p xr_29_123 xn_29 (pc' := 124) (ls' := [(6, .int (iI (X_bS kd))), (5, .int (iI kd)), (4, .int (iI (X_ro (i + 1) (j - 1)))), (3, .int (iI (X_ro i j))), (0, .ref 511), (1, .int (iI i)), (2, .int (iI j))]) (st' := [.ref 511]) rfl ?_
                  refine T_get xr_29_124 h726 rfl (v := .ref 512) rfl (pc' := 127) rfl ?_
                  refine T_p xr_29_127 xn_29 (pc' := 128) (ls' := [(6, .int (iI (X_bS kd))), (5, .int (iI kd)), (4, .int (iI (X_ro (i + 1) (j - 1)))), (3, .int (iI (X_ro i j))), (0, .ref 511), (1, .int (iI i)), (2, .int (iI j))]) (st' := [.int (iI (X_ro i j)), .ref 512]) rfl ?_
                  refine T_p xr_29_128 xn_29 (pc' := 130) (ls' := [(6, .int (iI (X_bS kd))), (5, .int (iI kd)), (4, .int (iI (X_ro (i + 1) (j - 1)))), (3, .int (iI (X_ro i j))), (0, .ref 511), (1, .int (iI i)), (2, .int (iI j))]) (st' := [.int (iI 11), .int (iI (X_ro i j)), .ref 512]) rfl ?_
                  refine T_zimul xr_29_130 (z := (X_ro i j) * 11) rfl (pc' := 131) rfl ?_
                  refine T_p xr_29_131 xn_29 (pc' := 133) (ls' := [(6, .int (iI (X_bS kd))), (5, .int (iI kd)), (4, .int (iI (X_ro (i + 1) (j - 1)))), (3, .int (iI (X_ro i j))), (0, .ref 511), (1, .int (iI i)), (2, .int (iI j))]) (st' := [.int (iI kd), .int (iI ((X_ro i j) * 11)), .ref 512]) rfl ?_
                  refine T_ziadd xr_29_133 (z := ((X_ro i j) * 11) + kd) rfl (pc' := 134) rfl ?_
                  refine T_p xr_29_134 xn_29 (pc' := 135) (ls' := [(6, .int (iI (X_bS kd))), (5, .int (iI kd)), (4, .int (iI (X_ro (i + 1) (j - 1)))), (3, .int (iI (X_ro i j))), (0, .ref 511), (1, .int (iI i)), (2, .int (iI j))]) (st' := [.ref 511, .int (iI (((X_ro i j) * 11) + kd)), .ref 512]) rfl ?_
                  refine T_p xr_29_135 xn_29 (pc' := 137) (ls' := [(6, .int (iI (X_bS kd))), (5, .int (iI kd)), (4, .int (iI (X_ro (i + 1) (j - 1)))), (3, .int (iI (X_ro i j))), (0, .ref 511), (1, .int (iI i)), (2, .int (iI j))]) (st' := [.int (iI (X_ro (i + 1) (j - 1))), .ref 511, .int (iI (((X_ro i j) * 11) + kd)), .ref 512]) rfl ?_
                  refine T_p xr_29_137 xn_29 (pc' := 139) (ls' := [(6, .int (iI (X_bS kd))), (5, .int (iI kd)), (4, .int (iI (X_ro (i + 1) (j - 1)))), (3, .int (iI (X_ro i j))), (0, .ref 511), (1, .int (iI i)), (2, .int (iI j))]) (st' := [.int (iI (X_bS kd)), .int (iI (X_ro (i + 1) (j - 1))), .ref 511, .int (iI (((X_ro i j) * 11) + kd)), .ref 512]) rfl ?_
                  refine T_cv (S := S725) (q := 511) xr_29_139 xf_25.1 xf_25.2.1 xn_25 (as := [.int (iI (X_ro (i + 1) (j - 1))), .int (iI (X_bS kd))]) (r := [.int (iI (((X_ro i j) * 11) + kd)), .ref 512]) rfl h726 (Nat.le_of_ble_eq_true rfl) (Nat.le_of_ble_eq_true rfl) (pc' := 142) rfl (ls' := [(0, .ref 511), (1, .int (iI (X_ro (i + 1) (j - 1)))), (2, .int (iI (X_bS kd)))]) rfl ?_
                  have h729 := (hF724.1 (B + 1) (by omega)).trans ((hF700.1 (B + 1) (by omega)).trans (hb1))
                  have h730 := (hF724.1 (B + 2) (by omega)).trans ((hF700.1 (B + 2) (by omega)).trans (hb2))
                  have h731 := (hF724.1 (B + 3) (by omega)).trans ((hF700.1 (B + 3) (by omega)).trans (hb3))
                  have h732 := (hF724.1 (B + 4) (by omega)).trans ((hF700.1 (B + 4) (by omega)).trans (hb4))
                  have h733 := (hF724.1 (B + 5) (by omega)).trans ((hF700.1 (B + 5) (by omega)).trans (hb5))
                  have hs734 : C_ws S725 B (gD G) (gW G) := C_ws.fr (P := fun q => 501 ≤ q ∧ q ≤ 529) hs (((X_Fr.rf).tr (X_Fr.mono ⟨hF700.1, hF700.2⟩ (fun q hq => (by omega)))).tr (X_Fr.mono ⟨hF724.1, hF724.2⟩ (fun q hq => (by omega)))) (fun k h1 h2 => by omega)
                  refine T_mono (c_sumK sc S725 oK2 B rc rn kn G tn fl (X_ro (i + 1) (j - 1)) (X_bS kd) (fun z => X_nm G z (i + 1) (j - 1) + (X_T_ G).2 z (i + 1) (j - 1)) h726 hoK2 hB ⟨h727, h729, h730, h731, h732, ⟨f, h733, hf⟩, ⟨by omega, by omega⟩, ⟨by omega, by omega⟩, ⟨by omega, by omega⟩⟩ hs734 hG (by omega) (fun z h1 h2 => (hOk2 _ (by omega)).trans (hRK z h1 h2))) (fun v735 S736 h737 => ?_)
                  rcases h737 with ⟨hv738, hf739⟩
                  rw [hv738]
                  rw [hf739]
                  show X_T sc 29 (142, [(6, .int (iI (X_bS kd))), (5, .int (iI kd)), (4, .int (iI (X_ro (i + 1) (j - 1)))), (3, .int (iI (X_ro i j))), (0, .ref 511), (1, .int (iI i)), (2, .int (iI j))], [.long (X_st (-2) (X_Su (fun k => X_if (X_bt (X_bS kd) k) ((fun z => X_nm G z (i + 1) (j - 1) + (X_T_ G).2 z (i + 1) (j - 1)) k)) 0 (gk G))), .int (iI (((X_ro i j) * 11) + kd)), .ref 512], S725) _
                  refine T_p xr_29_142 xn_29 (pc' := 143) (ls' := [(6, .int (iI (X_bS kd))), (5, .int (iI kd)), (4, .int (iI (X_ro (i + 1) (j - 1)))), (3, .int (iI (X_ro i j))), (0, .ref 511), (1, .int (iI i)), (2, .int (iI j))]) (st' := [.ref 511, .long (X_st (-2) (X_Su (fun k => X_if (X_bt (X_bS kd) k) ((fun z => X_nm G z (i + 1) (j - 1) + (X_T_ G).2 z (i + 1) (j - 1)) k)) 0 (gk G))), .int (iI (((X_ro i j) * 11) + kd)), .ref 512]) rfl ?_
                  refine T_p xr_29_143 xn_29 (pc' := 145) (ls' := [(6, .int (iI (X_bS kd))), (5, .int (iI kd)), (4, .int (iI (X_ro (i + 1) (j - 1)))), (3, .int (iI (X_ro i j))), (0, .ref 511), (1, .int (iI i)), (2, .int (iI j))]) (st' := [.int (iI (X_ro (i + 1) (j - 1))), .ref 511, .long (X_st (-2) (X_Su (fun k => X_if (X_bt (X_bS kd) k) ((fun z => X_nm G z (i + 1) (j - 1) + (X_T_ G).2 z (i + 1) (j - 1)) k)) 0 (gk G))), .int (iI (((X_ro i j) * 11) + kd)), .ref 512]) rfl ?_
                  refine T_p xr_29_145 xn_29 (pc' := 146) (ls' := [(6, .int (iI (X_bS kd))), (5, .int (iI kd)), (4, .int (iI (X_ro (i + 1) (j - 1)))), (3, .int (iI (X_ro i j))), (0, .ref 511), (1, .int (iI i)), (2, .int (iI j))]) (st' := [.ref 511, .int (iI (X_ro (i + 1) (j - 1))), .ref 511, .long (X_st (-2) (X_Su (fun k => X_if (X_bt (X_bS kd) k) ((fun z => X_nm G z (i + 1) (j - 1) + (X_T_ G).2 z (i + 1) (j - 1)) k)) 0 (gk G))), .int (iI (((X_ro i j) * 11) + kd)), .ref 512]) rfl ?_
                  refine T_get xr_29_146 h726 rfl (v := .ref B) rfl (pc' := 149) rfl ?_
                  refine T_p xr_29_149 xn_29 (pc' := 151) (ls' := [(6, .int (iI (X_bS kd))), (5, .int (iI kd)), (4, .int (iI (X_ro (i + 1) (j - 1)))), (3, .int (iI (X_ro i j))), (0, .ref 511), (1, .int (iI i)), (2, .int (iI j))]) (st' := [.int (iI (X_bS kd)), .ref B, .int (iI (X_ro (i + 1) (j - 1))), .ref 511, .long (X_st (-2) (X_Su (fun k => X_if (X_bt (X_bS kd) k) ((fun z => X_nm G z (i + 1) (j - 1) + (X_T_ G).2 z (i + 1) (j - 1)) k)) 0 (gk G))), .int (iI (((X_ro i j) * 11) + kd)), .ref 512]) rfl ?_
                  refine T_cv (S := S725) (q := B) xr_29_151 xf_14.1 xf_14.2.1 xn_14 (as := [.int (iI (X_bS kd))]) (r := [.int (iI (X_ro (i + 1) (j - 1))), .ref 511, .long (X_st (-2) (X_Su (fun k => X_if (X_bt (X_bS kd) k) ((fun z => X_nm G z (i + 1) (j - 1) + (X_T_ G).2 z (i + 1) (j - 1)) k)) 0 (gk G))), .int (iI (((X_ro i j) * 11) + kd)), .ref 512]) rfl h727 (Nat.le_of_ble_eq_true rfl) (Nat.le_of_ble_eq_true rfl) (pc' := 154) rfl (ls' := [(0, .ref B), (1, .int (iI (X_bS kd)))]) rfl ?_
                  refine T_mono (c_wordsOfKinds sc S725 B rc (gk G) (gw G) rn (gl G) kn (ga G) (gD G) (gW G) (X_bS kd) ⟨h727, h729, h730, h731, h732, ⟨f, h733, hf⟩, ⟨by omega, by omega⟩, ⟨by omega, by omega⟩, ⟨by omega, by omega⟩⟩ hs734) (fun v740 S741 h742 => ?_)
                  obtain ⟨r743, h744, hx745, h746⟩ := h742
                  rw [h744, h746]
                  show X_T sc 29 (154, [(6, .int (iI (X_bS kd))), (5, .int (iI kd)), (4, .int (iI (X_ro (i + 1) (j - 1)))), (3, .int (iI (X_ro i j))), (0, .ref 511), (1, .int (iI i)), (2, .int (iI j))], [.int (iI r743), .int (iI (X_ro (i + 1) (j - 1))), .ref 511, .long (X_st (-2) (X_Su (fun k => X_if (X_bt (X_bS kd) k) ((fun z => X_nm G z (i + 1) (j - 1) + (X_T_ G).2 z (i + 1) (j - 1)) k)) 0 (gk G))), .int (iI (((X_ro i j) * 11) + kd)), .ref 512], S725) _
                  refine T_cv (S := S725) (q := 511) xr_29_154 xf_26.1 xf_26.2.1 xn_26 (as := [.int (iI (X_ro (i + 1) (j - 1))), .int (iI r743)]) (r := [.long (X_st (-2) (X_Su (fun k => X_if (X_bt (X_bS kd) k) ((fun z => X_nm G z (i + 1) (j - 1) + (X_T_ G).2 z (i + 1) (j - 1)) k)) 0 (gk G))), .int (iI (((X_ro i j) * 11) + kd)), .ref 512]) rfl h726 (Nat.le_of_ble_eq_true rfl) (Nat.le_of_ble_eq_true rfl) (pc' := 157) rfl (ls' := [(0, .ref 511), (1, .int (iI (X_ro (i + 1) (j - 1)))), (2, .int (iI r743))]) rfl ?_
                  have h747 := (hF724.1 513 (by omega)).trans ((hF700.1 513 (by omega)).trans (hA513))
                  refine T_mono (c_sumW sc S725 oW B rc rn kn G tn fl (X_ro (i + 1) (j - 1)) r743 (fun v => (X_T_ G).1 v (i + 1) (j - 1)) h726 h747 hB ⟨h727, h729, h730, h731, h732, ⟨f, h733, hf⟩, ⟨by omega, by omega⟩, ⟨by omega, by omega⟩, ⟨by omega, by omega⟩⟩ hs734 hG (by omega) hRW) (fun v748 S749 h750 => ?_)
                  rcases h750 with ⟨hv751, hf752⟩
                  rw [hv751]
                  rw [hf752]
                  show X_T sc 29 (157, [(6, .int (iI (X_bS kd))), (5, .int (iI kd)), (4, .int (iI (X_ro (i + 1) (j - 1)))), (3, .int (iI (X_ro i j))), (0, .ref 511), (1, .int (iI i)), (2, .int (iI j))], [.long (X_st (-2) (X_Su (fun k => X_if (X_bt r743 k) ((fun v => (X_T_ G).1 v (i + 1) (j - 1)) k)) 0 (gw G))), .long (X_st (-2) (X_Su (fun k => X_if (X_bt (X_bS kd) k) ((fun z => X_nm G z (i + 1) (j - 1) + (X_T_ G).2 z (i + 1) (j - 1)) k)) 0 (gk G))), .int (iI (((X_ro i j) * 11) + kd)), .ref 512], S725) _
                  refine T_cs xr_29_157 (by decide) xf_115.1 xn_115 (as := [.long (X_st (-2) (X_Su (fun k => X_if (X_bt (X_bS kd) k) ((fun z => X_nm G z (i + 1) (j - 1) + (X_T_ G).2 z (i + 1) (j - 1)) k)) 0 (gk G))), .long (X_st (-2) (X_Su (fun k => X_if (X_bt r743 k) ((fun v => (X_T_ G).1 v (i + 1) (j - 1)) k)) 0 (gw G)))]) (r := [.int (iI (((X_ro i j) * 11) + kd)), .ref 512]) rfl (Nat.le_of_ble_eq_true rfl) (Nat.le_of_ble_eq_true rfl) (pc' := 160) rfl (ls' := [(0, .long (X_st (-2) (X_Su (fun k => X_if (X_bt (X_bS kd) k) ((fun z => X_nm G z (i + 1) (j - 1) + (X_T_ G).2 z (i + 1) (j - 1)) k)) 0 (gk G)))), (2, .long (X_st (-2) (X_Su (fun k => X_if (X_bt r743 k) ((fun v => (X_T_ G).1 v (i + 1) (j - 1)) k)) 0 (gw G))))]) rfl ?_
                  refine T_mono (c_plus sc S725 (X_Su (fun k => X_if (X_bt (X_bS kd) k) ((fun z => X_nm G z (i + 1) (j - 1) + (X_T_ G).2 z (i + 1) (j - 1)) k)) 0 (gk G)) (X_Su (fun k => X_if (X_bt r743 k) ((fun v => (X_T_ G).1 v (i + 1) (j - 1)) k)) 0 (gw G))) (fun v753 S754 h755 => ?_)
                  rcases h755 with ⟨hv756, hf757⟩
                  rw [hv756]
                  rw [hf757]
                  show X_T sc 29 (160, [(6, .int (iI (X_bS kd))), (5, .int (iI kd)), (4, .int (iI (X_ro (i + 1) (j - 1)))), (3, .int (iI (X_ro i j))), (0, .ref 511), (1, .int (iI i)), (2, .int (iI j))], [.long (X_st (-2) ((X_Su (fun k => X_if (X_bt (X_bS kd) k) ((fun z => X_nm G z (i + 1) (j - 1) + (X_T_ G).2 z (i + 1) (j - 1)) k)) 0 (gk G)) + (X_Su (fun k => X_if (X_bt r743 k) ((fun v => (X_T_ G).1 v (i + 1) (j - 1)) k)) 0 (gw G)))), .int (iI (((X_ro i j) * 11) + kd)), .ref 512], S725) _
                  refine T_le (y := (X_st (-2) (X_Kd G (X_T_ G) kd (i + 1) (j - 1)))) (by rw [← X_Kd_b hG hkd.1 hkk hx745]) ?_
                  refine T_zlast xr_29_160 hoK2 (pc' := 161) rfl (fun S758 h759 n760 e761 => ?_)
                  refine T_ziinc xr_29_161 xn_29 (a := kd) (z := kd + 1) rfl (Nat.le_of_ble_eq_true rfl) (by omega) (ls' := [(5, .int (iI (kd + 1))), (6, .int (iI (X_bS kd))), (4, .int (iI (X_ro (i + 1) (j - 1)))), (3, .int (iI (X_ro i j))), (0, .ref 511), (1, .int (iI i)), (2, .int (iI j))]) rfl (pc' := 164) rfl ?_
                  refine T_p xr_29_164 xn_29 (pc' := 105) (ls' := [(5, .int (iI (kd + 1))), (6, .int (iI (X_bS kd))), (4, .int (iI (X_ro (i + 1) (j - 1)))), (3, .int (iI (X_ro i j))), (0, .ref 511), (1, .int (iI i)), (2, .int (iI j))]) (st' := []) rfl ?_
                  refine T_sub (ls := [(5, .int (iI (kd + 1))), (4, .int (iI (X_ro (i + 1) (j - 1)))), (3, .int (iI (X_ro i j))), (0, .ref 511), (1, .int (iI i)), (2, .int (iI j))]) ⟨rfl, rfl, rfl, rfl, rfl, rfl, trivial⟩ rfl rfl ?_
                  exact ih721 S758 (kd + 1) (X_ug oK2 (((X_ro i j) * 11) + kd) (X_st (-2) (X_Kd G (X_T_ G) kd (i + 1) (j - 1)))) h759 (hF724.tr ((X_Fr.rf).tr (X_Fr.of n760 e761 (by omega)))) (by omega) (fun z h1 h2 => by
                        by_cases hz1 : z = kd
                        · subst hz1; rw [X_ug_s]
                        · rw [X_ug_n _ _ (by omega)]; exact hI z h1 (by omega)) (fun q hq => by rw [X_ug_n _ _ (by omega)]; exact hOk2 q hq) (by omega)
            exact L720 ((gk G) + 1).toNat S701 0 oK1 hoK1 ((X_Fr.rf)) (by omega) (fun z h1 h2 => absurd h2 (by omega)) hOk (by omega)
        · skip
          have c705 : ¬ (¬ j = (i + 1)) := c705
          refine T_p xr_29_47 xn_29 (pc' := 48) (ls' := [(4, .int (iI k)), (3, .int (iI (X_ro i j))), (0, .ref 511), (1, .int (iI i)), (2, .int (iI j))]) (st' := [.ref 511]) rfl ?_
          refine T_get xr_29_48 h702 rfl (v := .ref 501) rfl (pc' := 51) rfl ?_
          refine T_p xr_29_51 xn_29 (pc' := 52) (ls' := [(4, .int (iI k)), (3, .int (iI (X_ro i j))), (0, .ref 511), (1, .int (iI i)), (2, .int (iI j))]) (st' := [.int (iI i), .ref 501]) rfl ?_
          have h762 := (hF700.1 501 (by omega)).trans (hO501)
          refine T_cv (S := S701) (q := 501) xr_29_52 xf_83.1 xf_83.2.1 xn_83 (as := [.int (iI i)]) (r := []) rfl h762 (Nat.le_of_ble_eq_true rfl) (Nat.le_of_ble_eq_true rfl) (pc' := 55) rfl (ls' := [(0, .ref 501), (1, .int (iI i))]) rfl ?_
          have h763 := (hF700.1 502 (by omega)).trans (hA502)
          refine T_mono (c_sIsNumber sc S701 tn G i h762 h763 (by omega)) (fun v764 S765 h766 => ?_)
          rcases h766 with ⟨hv767, hf768⟩
          rw [hv767]
          rw [hf768]
          show X_T sc 29 (55, [(4, .int (iI k)), (3, .int (iI (X_ro i j))), (0, .ref 511), (1, .int (iI i)), (2, .int (iI j))], [.int (iI (bI (0 ≤ X_nv (gt G i))))], S701) _
          refine T_bif_eq xr_29_55 (t := 167) (pc' := 58) rfl rfl (fun c769 => ?_) (fun c769 => ?_)
          · skip
            have c769 : ¬ (0 ≤ X_nv (gt G i)) := c769
            refine T_vret xr_29_167 xf_29.2.2 ?_
            refine hQ _ _ ?_
            exact ⟨oK1, rfl, (fun k h1 h2 => by
                  first
                    | (rw [(X_nmB (k := k) hij.2.1 (by omega)).1 (by omega), X_if_f (fun z => absurd z.1 (by assumption))]; exact hz k h1 (by omega))
                    | (rw [(X_nmB (k := k) hij.2.1 (by omega)).2 (by omega), X_if_f (by assumption)]; exact hz k h1 (by omega))), hOk, hoK1, (X_Fr.rf).tr (X_Fr.mono ⟨hF700.1, hF700.2⟩ (fun q hq => (by omega)))⟩
          · skip
            have c769 : (0 ≤ X_nv (gt G i)) := c769
            refine T_p xr_29_58 xn_29 (pc' := 59) (ls' := [(4, .int (iI k)), (3, .int (iI (X_ro i j))), (0, .ref 511), (1, .int (iI i)), (2, .int (iI j))]) (st' := [.ref 511]) rfl ?_
            refine T_get xr_29_59 h702 rfl (v := .ref 512) rfl (pc' := 62) rfl ?_
            refine T_p xr_29_62 xn_29 (pc' := 63) (ls' := [(4, .int (iI k)), (3, .int (iI (X_ro i j))), (0, .ref 511), (1, .int (iI i)), (2, .int (iI j))]) (st' := [.int (iI (X_ro i j)), .ref 512]) rfl ?_
            refine T_p xr_29_63 xn_29 (pc' := 65) (ls' := [(4, .int (iI k)), (3, .int (iI (X_ro i j))), (0, .ref 511), (1, .int (iI i)), (2, .int (iI j))]) (st' := [.int (iI 11), .int (iI (X_ro i j)), .ref 512]) rfl ?_
            refine T_zimul xr_29_65 (z := (X_ro i j) * 11) rfl (pc' := 66) rfl ?_
            refine T_p xr_29_66 xn_29 (pc' := 67) (ls' := [(4, .int (iI k)), (3, .int (iI (X_ro i j))), (0, .ref 511), (1, .int (iI i)), (2, .int (iI j))]) (st' := [.ref 511, .int (iI ((X_ro i j) * 11)), .ref 512]) rfl ?_
            refine T_get xr_29_67 h702 rfl (v := .ref B) rfl (pc' := 70) rfl ?_
            refine T_cv (S := S701) (q := B) xr_29_70 xf_12.1 xf_12.2.1 xn_12 (as := []) (r := [.int (iI ((X_ro i j) * 11)), .ref 512]) rfl h703 (Nat.le_of_ble_eq_true rfl) (Nat.le_of_ble_eq_true rfl) (pc' := 73) rfl (ls' := [(0, .ref B)]) rfl ?_
            have h770 := (hF700.1 (B + 1) (by omega)).trans (hb1)
            have h771 := (hF700.1 (B + 2) (by omega)).trans (hb2)
            have h772 := (hF700.1 (B + 3) (by omega)).trans (hb3)
            have h773 := (hF700.1 (B + 4) (by omega)).trans (hb4)
            have h774 := (hF700.1 (B + 5) (by omega)).trans (hb5)
            refine T_mono (c_numberKind sc S701 B rc (gk G) (gw G) rn (gl G) kn (ga G) ⟨h703, h770, h771, h772, h773, ⟨f, h774, hf⟩, ⟨by omega, by omega⟩, ⟨by omega, by omega⟩, ⟨by omega, by omega⟩⟩) (fun v776 S777 h775 => ?_)
            obtain ⟨h778, h779⟩ := h775
            rw [h778, h779]
            show X_T sc 29 (73, [(4, .int (iI k)), (3, .int (iI (X_ro i j))), (0, .ref 511), (1, .int (iI i)), (2, .int (iI j))], [.int (iI (bI (1 < (gk G)))), .int (iI ((X_ro i j) * 11)), .ref 512], S701) _
            have hbr := bI_r (1 < gk G)
            refine T_ziadd xr_29_73 (z := ((X_ro i j) * 11) + (bI (1 < (gk G)))) rfl (pc' := 74) rfl ?_
            refine T_p xr_29_74 xn_29 (pc' := 75) (ls' := [(4, .int (iI k)), (3, .int (iI (X_ro i j))), (0, .ref 511), (1, .int (iI i)), (2, .int (iI j))]) (st' := [.long (iL 1), .int (iI (((X_ro i j) * 11) + (bI (1 < (gk G))))), .ref 512]) rfl ?_
            refine T_zlast xr_29_75 hoK1 (pc' := 76) rfl (fun S780 h781 n782 e783 => ?_)
            refine T_p xr_29_76 xn_29 (pc' := 167) (ls' := [(4, .int (iI k)), (3, .int (iI (X_ro i j))), (0, .ref 511), (1, .int (iI i)), (2, .int (iI j))]) (st' := []) rfl ?_
            refine T_vret xr_29_167 xf_29.2.2 ?_
            refine hQ _ _ ?_
            exact ⟨(X_ug oK1 (((X_ro i j) * 11) + (bI (1 < (gk G)))) (iL 1)), rfl, (fun k h1 h2 => by
                  rw [(X_nmB (k := k) hij.2.1 (by omega)).1 (by omega)]
                  by_cases hk : k = bI (1 < gk G)
                  · rw [X_if_t ⟨by assumption, hk⟩, hk, X_ug_s]; rfl
                  · rw [X_if_f (fun z => hk z.2), X_ug_n _ _ (by omega)]; exact hz k h1 (by omega)), (fun q hq => by rw [X_ug_n _ _ (by omega)]; exact hOk q hq), h781, ((X_Fr.rf).tr (X_Fr.mono ⟨hF700.1, hF700.2⟩ (fun q hq => (by omega)))).tr (X_Fr.of n782 e783 (by omega))⟩
      · skip
        have c704 : ¬ ((gk G) ≤ k) := c704
        refine T_p xr_29_21 xn_29 (pc' := 22) (ls' := [(4, .int (iI k)), (3, .int (iI (X_ro i j))), (0, .ref 511), (1, .int (iI i)), (2, .int (iI j))]) (st' := [.ref 511]) rfl ?_
        refine T_get xr_29_22 h702 rfl (v := .ref 512) rfl (pc' := 25) rfl ?_
        refine T_p xr_29_25 xn_29 (pc' := 26) (ls' := [(4, .int (iI k)), (3, .int (iI (X_ro i j))), (0, .ref 511), (1, .int (iI i)), (2, .int (iI j))]) (st' := [.int (iI (X_ro i j)), .ref 512]) rfl ?_
        refine T_p xr_29_26 xn_29 (pc' := 28) (ls' := [(4, .int (iI k)), (3, .int (iI (X_ro i j))), (0, .ref 511), (1, .int (iI i)), (2, .int (iI j))]) (st' := [.int (iI 11), .int (iI (X_ro i j)), .ref 512]) rfl ?_
        refine T_zimul xr_29_28 (z := (X_ro i j) * 11) rfl (pc' := 29) rfl ?_
        refine T_p xr_29_29 xn_29 (pc' := 31) (ls' := [(4, .int (iI k)), (3, .int (iI (X_ro i j))), (0, .ref 511), (1, .int (iI i)), (2, .int (iI j))]) (st' := [.int (iI k), .int (iI ((X_ro i j) * 11)), .ref 512]) rfl ?_
        refine T_ziadd xr_29_31 (z := ((X_ro i j) * 11) + k) rfl (pc' := 32) rfl ?_
        refine T_p xr_29_32 xn_29 (pc' := 33) (ls' := [(4, .int (iI k)), (3, .int (iI (X_ro i j))), (0, .ref 511), (1, .int (iI i)), (2, .int (iI j))]) (st' := [.long (iL 0), .int (iI (((X_ro i j) * 11) + k)), .ref 512]) rfl ?_
        refine T_zlast xr_29_33 hoK1 (pc' := 34) rfl (fun S784 h785 n786 e787 => ?_)
        refine T_ziinc xr_29_34 xn_29 (a := k) (z := k + 1) rfl (Nat.le_of_ble_eq_true rfl) (by omega) (ls' := [(4, .int (iI (k + 1))), (3, .int (iI (X_ro i j))), (0, .ref 511), (1, .int (iI i)), (2, .int (iI j))]) rfl (pc' := 37) rfl ?_
        refine T_p xr_29_37 xn_29 (pc' := 9) (ls' := [(4, .int (iI (k + 1))), (3, .int (iI (X_ro i j))), (0, .ref 511), (1, .int (iI i)), (2, .int (iI j))]) (st' := []) rfl ?_
        exact ih697 S784 (k + 1) (X_ug oK1 (((X_ro i j) * 11) + k) (iL 0)) h785 (hF700.tr ((X_Fr.rf).tr (X_Fr.of n786 e787 (by omega)))) (by omega) (fun z h1 h2 => by
              by_cases hz1 : z = k
              · subst hz1; rw [X_ug_s]
              · rw [X_ug_n _ _ (by omega)]; exact hz z h1 (by omega)) (fun q hq => by rw [X_ug_n _ _ (by omega)]; exact hOk q hq) (by omega)
  exact L696 ((gk G) + 1).toNat S 0 oK hA512 ((X_Fr.rf)) (by omega) (fun z h1 h2 => absurd h2 (by omega)) (fun _ _ => rfl) (by omega)
