theorem xr_41_0 : X_row 41 0 = some (0, (.aload_n 0, 1), (0, 0, 0)) := by decide +kernel
theorem xr_41_1 : X_row 41 1 = some (1, (.getfield 44, 3), (2, 0, 18)) := by decide +kernel
theorem xr_41_4 : X_row 41 4 = some (4, (.getfield 98, 3), (1, 0, 17)) := by decide +kernel
theorem xr_41_7 : X_row 41 7 = some (7, (.getfield 123, 3), (0, 7, 13)) := by decide +kernel
theorem xr_41_10 : X_row 41 10 = some (10, (.iload_n 1, 1), (0, 0, 0)) := by decide +kernel
theorem xr_41_11 : X_row 41 11 = some (11, (.aaload, 1), (0, 0, 0)) := by decide +kernel
theorem xr_41_12 : X_row 41 12 = some (12, (.astore 6, 2), (0, 0, 0)) := by decide +kernel
theorem xr_41_14 : X_row 41 14 = some (14, (.lload 4, 2), (0, 0, 0)) := by decide +kernel
theorem xr_41_16 : X_row 41 16 = some (16, (.lstore 7, 2), (0, 0, 0)) := by decide +kernel
theorem xr_41_18 : X_row 41 18 = some (18, (.lconst 1, 1), (0, 0, 0)) := by decide +kernel
theorem xr_41_19 : X_row 41 19 = some (19, (.lstore 9, 2), (0, 0, 0)) := by decide +kernel
theorem xr_41_21 : X_row 41 21 = some (21, (.iload_n 2, 1), (0, 0, 0)) := by decide +kernel
theorem xr_41_22 : X_row 41 22 = some (22, (.istore 11, 2), (0, 0, 0)) := by decide +kernel
theorem xr_41_24 : X_row 41 24 = some (24, (.iconst 0, 1), (0, 0, 0)) := by decide +kernel
theorem xr_41_25 : X_row 41 25 = some (25, (.istore 12, 2), (0, 0, 0)) := by decide +kernel
theorem xr_41_27 : X_row 41 27 = some (27, (.iload 12, 2), (0, 0, 0)) := by decide +kernel
theorem xr_41_29 : X_row 41 29 = some (29, (.aload 6, 2), (0, 0, 0)) := by decide +kernel
theorem xr_41_31 : X_row 41 31 = some (31, (.getfield 126, 3), (8, 3, 1)) := by decide +kernel
theorem xr_41_34 : X_row 41 34 = some (34, (.if_icmp .ge 154, 3), (0, 0, 0)) := by decide +kernel
theorem xr_41_37 : X_row 41 37 = some (37, (.aload 6, 2), (0, 0, 0)) := by decide +kernel
theorem xr_41_39 : X_row 41 39 = some (39, (.iload 12, 2), (0, 0, 0)) := by decide +kernel
theorem xr_41_41 : X_row 41 41 = some (41, (.invokevirtual 131, 3), (95, 22, 0)) := by decide +kernel
theorem xr_41_44 : X_row 41 44 = some (44, (.ifCond .ne 9, 3), (0, 0, 0)) := by decide +kernel
theorem xr_41_47 : X_row 41 47 = some (47, (.iinc 11 1, 3), (0, 0, 0)) := by decide +kernel
theorem xr_41_50 : X_row 41 50 = some (50, (.goto 132, 3), (0, 0, 0)) := by decide +kernel
theorem xr_41_53 : X_row 41 53 = some (53, (.aload 6, 2), (0, 0, 0)) := by decide +kernel
theorem xr_41_55 : X_row 41 55 = some (55, (.getfield 135, 3), (8, 9, 5)) := by decide +kernel
theorem xr_41_58 : X_row 41 58 = some (58, (.iload 12, 2), (0, 0, 0)) := by decide +kernel
theorem xr_41_60 : X_row 41 60 = some (60, (.iaload, 1), (0, 0, 0)) := by decide +kernel
theorem xr_41_61 : X_row 41 61 = some (61, (.istore 13, 2), (0, 0, 0)) := by decide +kernel
theorem xr_41_63 : X_row 41 63 = some (63, (.iload 11, 2), (0, 0, 0)) := by decide +kernel
theorem xr_41_65 : X_row 41 65 = some (65, (.iconst 1, 1), (0, 0, 0)) := by decide +kernel
theorem xr_41_66 : X_row 41 66 = some (66, (.iadd, 1), (0, 0, 0)) := by decide +kernel
theorem xr_41_67 : X_row 41 67 = some (67, (.istore 14, 2), (0, 0, 0)) := by decide +kernel
theorem xr_41_69 : X_row 41 69 = some (69, (.iload 14, 2), (0, 0, 0)) := by decide +kernel
theorem xr_41_71 : X_row 41 71 = some (71, (.iload_n 3, 1), (0, 0, 0)) := by decide +kernel
theorem xr_41_72 : X_row 41 72 = some (72, (.if_icmp .gt 101, 3), (0, 0, 0)) := by decide +kernel
theorem xr_41_75 : X_row 41 75 = some (75, (.lload 9, 2), (0, 0, 0)) := by decide +kernel
theorem xr_41_77 : X_row 41 77 = some (77, (.aload_n 0, 1), (0, 0, 0)) := by decide +kernel
theorem xr_41_78 : X_row 41 78 = some (78, (.getfield 44, 3), (2, 0, 18)) := by decide +kernel
theorem xr_41_81 : X_row 41 81 = some (81, (.iload 11, 2), (0, 0, 0)) := by decide +kernel
theorem xr_41_83 : X_row 41 83 = some (83, (.iload 14, 2), (0, 0, 0)) := by decide +kernel
theorem xr_41_85 : X_row 41 85 = some (85, (.iload_n 1, 1), (0, 0, 0)) := by decide +kernel
theorem xr_41_86 : X_row 41 86 = some (86, (.iload 13, 2), (0, 0, 0)) := by decide +kernel
theorem xr_41_88 : X_row 41 88 = some (88, (.invokevirtual 138, 3), (23, 24, 0)) := by decide +kernel
theorem xr_41_91 : X_row 41 91 = some (91, (.invokestatic 142, 3), (116, 27, 0)) := by decide +kernel
theorem xr_41_94 : X_row 41 94 = some (94, (.lstore 15, 2), (0, 0, 0)) := by decide +kernel
theorem xr_41_96 : X_row 41 96 = some (96, (.lload 15, 2), (0, 0, 0)) := by decide +kernel
theorem xr_41_98 : X_row 41 98 = some (98, (.aload_n 0, 1), (0, 0, 0)) := by decide +kernel
theorem xr_41_99 : X_row 41 99 = some (99, (.getfield 44, 3), (2, 0, 18)) := by decide +kernel
theorem xr_41_102 : X_row 41 102 = some (102, (.iload_n 1, 1), (0, 0, 0)) := by decide +kernel
theorem xr_41_103 : X_row 41 103 = some (103, (.iload 12, 2), (0, 0, 0)) := by decide +kernel
theorem xr_41_105 : X_row 41 105 = some (105, (.iconst 1, 1), (0, 0, 0)) := by decide +kernel
theorem xr_41_106 : X_row 41 106 = some (106, (.iadd, 1), (0, 0, 0)) := by decide +kernel
theorem xr_41_107 : X_row 41 107 = some (107, (.iload 14, 2), (0, 0, 0)) := by decide +kernel
theorem xr_41_109 : X_row 41 109 = some (109, (.iload_n 3, 1), (0, 0, 0)) := by decide +kernel
theorem xr_41_110 : X_row 41 110 = some (110, (.invokevirtual 146, 3), (34, 28, 0)) := by decide +kernel
theorem xr_41_113 : X_row 41 113 = some (113, (.invokestatic 142, 3), (116, 27, 0)) := by decide +kernel
theorem xr_41_116 : X_row 41 116 = some (116, (.lstore 17, 2), (0, 0, 0)) := by decide +kernel
theorem xr_41_118 : X_row 41 118 = some (118, (.lload 17, 2), (0, 0, 0)) := by decide +kernel
theorem xr_41_120 : X_row 41 120 = some (120, (.ldc2_w 114, 3), (18446744073709551614, 837, 0)) := by decide +kernel
theorem xr_41_123 : X_row 41 123 = some (123, (.lcmp, 1), (0, 0, 0)) := by decide +kernel
theorem xr_41_124 : X_row 41 124 = some (124, (.ifCond .eq 11, 3), (0, 0, 0)) := by decide +kernel
theorem xr_41_127 : X_row 41 127 = some (127, (.lload 7, 2), (0, 0, 0)) := by decide +kernel
theorem xr_41_129 : X_row 41 129 = some (129, (.lload 17, 2), (0, 0, 0)) := by decide +kernel
theorem xr_41_131 : X_row 41 131 = some (131, (.lcmp, 1), (0, 0, 0)) := by decide +kernel
theorem xr_41_132 : X_row 41 132 = some (132, (.ifCond .ge 28, 3), (0, 0, 0)) := by decide +kernel
theorem xr_41_135 : X_row 41 135 = some (135, (.aload_n 0, 1), (0, 0, 0)) := by decide +kernel
theorem xr_41_136 : X_row 41 136 = some (136, (.getfield 38, 3), (2, 11, 40)) := by decide +kernel
theorem xr_41_139 : X_row 41 139 = some (139, (.iload 13, 2), (0, 0, 0)) := by decide +kernel
theorem xr_41_141 : X_row 41 141 = some (141, (.iload 11, 2), (0, 0, 0)) := by decide +kernel
theorem xr_41_143 : X_row 41 143 = some (143, (.iastore, 1), (0, 0, 0)) := by decide +kernel
theorem xr_41_144 : X_row 41 144 = some (144, (.aload_n 0, 1), (0, 0, 0)) := by decide +kernel
theorem xr_41_145 : X_row 41 145 = some (145, (.getfield 41, 3), (2, 12, 42)) := by decide +kernel
theorem xr_41_148 : X_row 41 148 = some (148, (.iload 13, 2), (0, 0, 0)) := by decide +kernel
theorem xr_41_150 : X_row 41 150 = some (150, (.iload 14, 2), (0, 0, 0)) := by decide +kernel
theorem xr_41_152 : X_row 41 152 = some (152, (.iastore, 1), (0, 0, 0)) := by decide +kernel
theorem xr_41_153 : X_row 41 153 = some (153, (.lload 15, 2), (0, 0, 0)) := by decide +kernel
theorem xr_41_155 : X_row 41 155 = some (155, (.lstore 9, 2), (0, 0, 0)) := by decide +kernel
theorem xr_41_157 : X_row 41 157 = some (157, (.goto 16, 3), (0, 0, 0)) := by decide +kernel
theorem xr_41_160 : X_row 41 160 = some (160, (.lload 7, 2), (0, 0, 0)) := by decide +kernel
theorem xr_41_162 : X_row 41 162 = some (162, (.lload 17, 2), (0, 0, 0)) := by decide +kernel
theorem xr_41_164 : X_row 41 164 = some (164, (.lsub, 1), (0, 0, 0)) := by decide +kernel
theorem xr_41_165 : X_row 41 165 = some (165, (.lstore 7, 2), (0, 0, 0)) := by decide +kernel
theorem xr_41_167 : X_row 41 167 = some (167, (.iinc 14 1, 3), (0, 0, 0)) := by decide +kernel
theorem xr_41_170 : X_row 41 170 = some (170, (.goto (-101), 3), (0, 0, 0)) := by decide +kernel
theorem xr_41_173 : X_row 41 173 = some (173, (.aload_n 0, 1), (0, 0, 0)) := by decide +kernel
theorem xr_41_174 : X_row 41 174 = some (174, (.getfield 41, 3), (2, 12, 42)) := by decide +kernel
theorem xr_41_177 : X_row 41 177 = some (177, (.iload 13, 2), (0, 0, 0)) := by decide +kernel
theorem xr_41_179 : X_row 41 179 = some (179, (.iaload, 1), (0, 0, 0)) := by decide +kernel
theorem xr_41_180 : X_row 41 180 = some (180, (.istore 11, 2), (0, 0, 0)) := by decide +kernel
theorem xr_41_182 : X_row 41 182 = some (182, (.iinc 12 1, 3), (0, 0, 0)) := by decide +kernel
theorem xr_41_185 : X_row 41 185 = some (185, (.goto (-158), 3), (0, 0, 0)) := by decide +kernel
theorem xr_41_188 : X_row 41 188 = some (188, (.lload 7, 2), (0, 0, 0)) := by decide +kernel
theorem xr_41_190 : X_row 41 190 = some (190, (.lreturn, 1), (0, 0, 0)) := by decide +kernel
theorem xn_41 : X_nL 41 = 19 := by decide +kernel
theorem xf_41 : X_na 41 = 4 ∧ X_ci 41 = 2 ∧ X_rt 41 = (some .long) := by decide +kernel
set_option maxHeartbeats 1600000 in
theorem c_splitWord (sc : X_Sc) (S : X_S) (oK : Int → Int64) (oW : Int → Int64) (oA : Int → Int64) (oH : Int → Int64) (tl : Int → Int64) (hF : Int → Int) (hE : Int → Int) (B : Nat) (rc : Int) (rn : Int → Int64) (kn : Int → Int64) (G : X_G) (tn : Int) (fl : Int) (wt : Int) (w : Int) (i : Int) (j : Int) (k2 : Nat) (hO511 : S.1 511 = .inr (1, [.ref B, .ref 501, .int (iI fl), .ref 512, .ref 513, .ref 514, .ref 515, .ref 516])) (hO517 : S.1 517 = .inr (2, [.ref 511, .ref 501, .ref 504, .int (iI wt), .ref 518, .ref 519, .ref 520, .ref 521, .ref 522, .ref 523, .ref 524, .ref 525, .ref 526])) (hA512 : S.1 512 = .inl (.long, 5115, .inr (.inl fun k : Nat => oK (k : Int)))) (hA513 : S.1 513 = .inl (.long, 13950, .inr (.inl fun k : Nat => oW (k : Int)))) (hA514 : S.1 514 = .inl (.long, 465, .inr (.inl fun k : Nat => oA (k : Int)))) (hA515 : S.1 515 = .inl (.long, 55800, .inr (.inl fun k : Nat => oH (k : Int)))) (hA516 : S.1 516 = .inl (.long, 7200, .inr (.inl fun k : Nat => tl (k : Int)))) (hA525 : S.1 525 = .inl (.int, 4, .inl fun k : Nat => iI (hF (k : Int)))) (hA526 : S.1 526 = .inl (.int, 4, .inl fun k : Nat => iI (hE (k : Int)))) (hB : B = 4 ∨ B = 250) (hb : C_bk S B rc (gk G) (gw G) rn (gl G) kn (ga G)) (hs : C_ws S B (gD G) (gW G)) (hG : X_Gok G) (hw : 0 ≤ w ∧ w < gw G) (hij : 0 ≤ i ∧ i < j ∧ j ≤ tn ∧ tn ≤ 30) (hk2 : k2 < (X_T_ G).1 w i j) (hkm : k2 ≤ 9223372036854775807) (hcht : X_cht G (-2) tn oK oW oA oH) (ht : ∀ p, i < p → p < j → X_tl G (-2) w p j tl) : X_T sc 41 (0, [(0, .ref 517), (1, .int (iI w)), (2, .int (iI i)), (3, .int (iI j)), (4, .long (iL (k2 : Int)))], [], S) (fun v S' => ∃ (l1 : Nat) (HF : Int → Int) (HE : Int → Int) (hF1 : Int → Int) (hE1 : Int → Int), v = some (.long (iL (l1 : Int))) ∧ X_spl G w j (gD G w 3 0).toNat 0 i k2 1 (fun _ => 0) (fun _ => 0) = (l1, HF, HE) ∧ ((∀ h, 0 ≤ h → h < gD G w 4 0 → hF1 h = HF h ∧ hE1 h = HE h)) ∧ l1 ≤ 9223372036854775807 ∧ S'.1 525 = .inl (.int, 4, .inl fun k : Nat => iI (hF1 (k : Int))) ∧ S'.1 526 = .inl (.int, 4, .inl fun k : Nat => iI (hE1 (k : Int))) ∧ (X_Fr (fun q => q = 525 ∨ q = 526) S S')) := by
  obtain ⟨hb0, hb1, hb2, hb3, hb4, ⟨f, hb5, hf⟩, ⟨hrc, hrcb⟩, ⟨hkc, hkcb⟩, ⟨hwc, hwcb⟩⟩ := id hb
  have hgw := hG.2.2.2 w hw.1 hw.2
  have hsz := hgw.1
  have hho := hgw.2.1
  have hE0 : k2 < 1 * X_Ew G (X_T_ G) w 0 i j := by rw [Nat.one_mul, ← X_T_W hgw.2.2.1 hij.2.1 (by omega)]; exact hk2
  have h4n := hgw.2.2.2.2.2.2.1
  refine X_QI (fun Q hQ => ?_)
  refine T_p xr_41_0 xn_41 (pc' := 1) (ls' := [(0, .ref 517), (1, .int (iI w)), (2, .int (iI i)), (3, .int (iI j)), (4, .long (iL (k2 : Int)))]) (st' := [.ref 517]) rfl ?_
  refine T_get xr_41_1 hO517 rfl (v := .ref 511) rfl (pc' := 4) rfl ?_
  refine T_get xr_41_4 hO511 rfl (v := .ref B) rfl (pc' := 7) rfl ?_
  refine T_get xr_41_7 hb0 rfl (v := .ref (B + 5)) rfl (pc' := 10) rfl ?_
  refine T_p xr_41_10 xn_41 (pc' := 11) (ls' := [(0, .ref 517), (1, .int (iI w)), (2, .int (iI i)), (3, .int (iI j)), (4, .long (iL (k2 : Int)))]) (st' := [.int (iI w), .ref (B + 5)]) rfl ?_
  have hwaw := hs w (by omega) (by omega)
  obtain ⟨aw, haaw⟩ : ∃ z : Nat, z = B + 6 + 8 * (w : Int).toNat := ⟨_, rfl⟩
  rw [← haaw] at hwaw
  obtain ⟨⟨_, _⟩, ⟨_, _⟩, ⟨_, _⟩, ⟨_, _⟩, ⟨_, _⟩, ⟨_, _⟩, ⟨_, _⟩, ⟨_, _⟩⟩ := id hwaw.2
  refine T_zaald xr_41_11 hb5 (w := aw) (by rw [haaw]; exact hf _ (by omega)) (pc' := 12) rfl ?_
  refine T_p xr_41_12 xn_41 (pc' := 14) (ls' := [(6, .ref aw), (0, .ref 517), (1, .int (iI w)), (2, .int (iI i)), (3, .int (iI j)), (4, .long (iL (k2 : Int)))]) (st' := []) rfl ?_
  refine T_p xr_41_14 xn_41 (pc' := 16) (ls' := [(6, .ref aw), (0, .ref 517), (1, .int (iI w)), (2, .int (iI i)), (3, .int (iI j)), (4, .long (iL (k2 : Int)))]) (st' := [.long (iL (k2 : Int))]) rfl ?_
  refine T_p xr_41_16 xn_41 (pc' := 18) (ls' := [(7, .long (iL (k2 : Int))), (6, .ref aw), (0, .ref 517), (1, .int (iI w)), (2, .int (iI i)), (3, .int (iI j)), (4, .long (iL (k2 : Int)))]) (st' := []) rfl ?_
  refine T_p xr_41_18 xn_41 (pc' := 19) (ls' := [(7, .long (iL (k2 : Int))), (6, .ref aw), (0, .ref 517), (1, .int (iI w)), (2, .int (iI i)), (3, .int (iI j)), (4, .long (iL (k2 : Int)))]) (st' := [.long (iL 1)]) rfl ?_
  refine T_p xr_41_19 xn_41 (pc' := 21) (ls' := [(9, .long (iL 1)), (7, .long (iL (k2 : Int))), (6, .ref aw), (0, .ref 517), (1, .int (iI w)), (2, .int (iI i)), (3, .int (iI j)), (4, .long (iL (k2 : Int)))]) (st' := []) rfl ?_
  refine T_p xr_41_21 xn_41 (pc' := 22) (ls' := [(9, .long (iL 1)), (7, .long (iL (k2 : Int))), (6, .ref aw), (0, .ref 517), (1, .int (iI w)), (2, .int (iI i)), (3, .int (iI j)), (4, .long (iL (k2 : Int)))]) (st' := [.int (iI i)]) rfl ?_
  refine T_p xr_41_22 xn_41 (pc' := 24) (ls' := [(11, .int (iI i)), (9, .long (iL 1)), (7, .long (iL (k2 : Int))), (6, .ref aw), (0, .ref 517), (1, .int (iI w)), (2, .int (iI i)), (3, .int (iI j)), (4, .long (iL (k2 : Int)))]) (st' := []) rfl ?_
  refine T_p xr_41_24 xn_41 (pc' := 25) (ls' := [(11, .int (iI i)), (9, .long (iL 1)), (7, .long (iL (k2 : Int))), (6, .ref aw), (0, .ref 517), (1, .int (iI w)), (2, .int (iI i)), (3, .int (iI j)), (4, .long (iL (k2 : Int)))]) (st' := [.int (iI 0)]) rfl ?_
  refine T_p xr_41_25 xn_41 (pc' := 27) (ls' := [(12, .int (iI 0)), (11, .int (iI i)), (9, .long (iL 1)), (7, .long (iL (k2 : Int))), (6, .ref aw), (0, .ref 517), (1, .int (iI w)), (2, .int (iI i)), (3, .int (iI j)), (4, .long (iL (k2 : Int)))]) (st' := []) rfl ?_
  have L1034 : ∀ (m1036 : Nat) (S1039 : X_S) (e : Int) (pl : Int) (l : Nat) (b : Nat) (HF : Int → Int) (HE : Int → Int) (hF1 : Int → Int) (hE1 : Int → Int) (hhF1 : S1039.1 525 = .inl (.int, 4, .inl fun k : Nat => iI (hF1 (k : Int)))) (hhE1 : S1039.1 526 = .inl (.int, 4, .inl fun k : Nat => iI (hE1 (k : Int)))) (hF1038 : X_Fr (fun q => q = 525 ∨ q = 526) S S1039) (he : 0 ≤ e ∧ e ≤ gD G w 3 0 ∧ i + e ≤ pl ∧ pl ≤ j) (hl : l < b * X_Ew G (X_T_ G) w e pl j) (hlm : l ≤ 9223372036854775807) (hX : X_spl G w j ((gD G w 3 0 - e).toNat) e pl l b HF HE = X_spl G w j (gD G w 3 0).toNat 0 i k2 1 (fun _ => 0) (fun _ => 0)) (hA : ∀ h, 0 ≤ h → h < X_hn (gW G w) e → hF1 h = HF h ∧ hE1 h = HE h) (hm1037 : gD G w 3 0 - e < m1036), X_T sc 41 (27, [(12, .int (iI e)), (11, .int (iI pl)), (9, .long (X_st (-2) b)), (7, .long (iL (l : Int))), (6, .ref aw), (0, .ref 517), (1, .int (iI w)), (2, .int (iI i)), (3, .int (iI j))], [], S1039) Q := by
    intro m1036
    induction m1036 with
    | zero =>
      intro S1039 e pl l b HF HE hF1 hE1 hhF1 hhE1 hF1038 he hl hlm hX hA hm1037
      exact (show False by omega).elim
    | succ m1036 ih1035 =>
      intro S1039 e pl l b HF HE hF1 hE1 hhF1 hhE1 hF1038 he hl hlm hX hA hm1037
      refine T_p xr_41_27 xn_41 (pc' := 29) (ls' := [(12, .int (iI e)), (11, .int (iI pl)), (9, .long (X_st (-2) b)), (7, .long (iL (l : Int))), (6, .ref aw), (0, .ref 517), (1, .int (iI w)), (2, .int (iI i)), (3, .int (iI j))]) (st' := [.int (iI e)]) rfl ?_
      refine T_p xr_41_29 xn_41 (pc' := 31) (ls' := [(12, .int (iI e)), (11, .int (iI pl)), (9, .long (X_st (-2) b)), (7, .long (iL (l : Int))), (6, .ref aw), (0, .ref 517), (1, .int (iI w)), (2, .int (iI i)), (3, .int (iI j))]) (st' := [.ref aw, .int (iI e)]) rfl ?_
      have h1040 := (hF1038.1 aw (by omega)).trans (hwaw.1.1)
      refine T_get xr_41_31 h1040 rfl (v := .int (iI ((gD G) w 3 0))) rfl (pc' := 34) rfl ?_
      refine T_zicmp_ge xr_41_34 (t := 188) (pc' := 37) rfl rfl (fun c1041 => ?_) (fun c1041 => ?_)
      · skip
        have c1041 : ((gD G) w 3 0) ≤ e := c1041
        refine T_p xr_41_188 xn_41 (pc' := 190) (ls' := [(12, .int (iI e)), (11, .int (iI pl)), (9, .long (X_st (-2) b)), (7, .long (iL (l : Int))), (6, .ref aw), (0, .ref 517), (1, .int (iI w)), (2, .int (iI i)), (3, .int (iI j))]) (st' := [.long (iL (l : Int))]) rfl ?_
        refine T_lret xr_41_190 xf_41.2.2 rfl ?_
        refine hQ _ _ ?_
        have e1 : e = gD G w 3 0 := by omega
        rw [e1, show (gD G w 3 0 - gD G w 3 0).toNat = 0 by omega] at hX
        exact ⟨l, HF, HE, hF1, hE1, rfl, hX.symm, fun h h1 h2 => hA h h1 (by rw [e1, ← h4n]; exact h2), hlm, hhF1, hhE1, (X_Fr.rf).tr (X_Fr.mono ⟨hF1038.1, hF1038.2⟩ (fun q hq => (by omega)))⟩
      · skip
        have c1041 : ¬ (((gD G) w 3 0) ≤ e) := c1041
        refine T_p xr_41_37 xn_41 (pc' := 39) (ls' := [(12, .int (iI e)), (11, .int (iI pl)), (9, .long (X_st (-2) b)), (7, .long (iL (l : Int))), (6, .ref aw), (0, .ref 517), (1, .int (iI w)), (2, .int (iI i)), (3, .int (iI j))]) (st' := [.ref aw]) rfl ?_
        refine T_p xr_41_39 xn_41 (pc' := 41) (ls' := [(12, .int (iI e)), (11, .int (iI pl)), (9, .long (X_st (-2) b)), (7, .long (iL (l : Int))), (6, .ref aw), (0, .ref 517), (1, .int (iI w)), (2, .int (iI i)), (3, .int (iI j))]) (st' := [.int (iI e), .ref aw]) rfl ?_
        refine T_cv (S := S1039) (q := aw) xr_41_41 xf_95.1 xf_95.2.1 xn_95 (as := [.int (iI e)]) (r := []) rfl h1040 (Nat.le_of_ble_eq_true rfl) (Nat.le_of_ble_eq_true rfl) (pc' := 44) rfl (ls' := [(0, .ref aw), (1, .int (iI e))]) rfl ?_
        have h1042 := (hF1038.1 (aw + 1) (by omega)).trans (hwaw.1.2.1)
        have h1043 := (hF1038.1 (aw + 2) (by omega)).trans (hwaw.1.2.2.1)
        have h1044 := (hF1038.1 (aw + 3) (by omega)).trans (hwaw.1.2.2.2.1)
        have h1045 := (hF1038.1 (aw + 4) (by omega)).trans (hwaw.1.2.2.2.2.1)
        have h1046 := (hF1038.1 (aw + 5) (by omega)).trans (hwaw.1.2.2.2.2.2.1)
        have h1047 := (hF1038.1 (aw + 6) (by omega)).trans (hwaw.1.2.2.2.2.2.2.1)
        have h1048 := (hF1038.1 (aw + 7) (by omega)).trans (hwaw.1.2.2.2.2.2.2.2)
        refine T_mono (c_isHole sc S1039 aw ((gD G) w) ((gW G) w) e ⟨h1040, h1042, h1043, h1044, h1045, h1046, h1047, h1048⟩ hwaw.2 (by omega)) (fun v1050 S1051 h1049 => ?_)
        obtain ⟨h1052, h1053⟩ := h1049
        rw [h1052, h1053]
        show X_T sc 41 (44, [(12, .int (iI e)), (11, .int (iI pl)), (9, .long (X_st (-2) b)), (7, .long (iL (l : Int))), (6, .ref aw), (0, .ref 517), (1, .int (iI w)), (2, .int (iI i)), (3, .int (iI j))], [.int (iI (bI (X_hl ((gD G) w) ((gW G) w) e)))], S1039) _
        refine T_bif_ne xr_41_44 (t := 53) (pc' := 47) rfl rfl (fun c1054 => ?_) (fun c1054 => ?_)
        · skip
          have c1054 : (X_hl ((gD G) w) ((gW G) w) e) := c1054
          have hq0 : gW G w e = 0 := (show X_hl (gD G w) (gW G w) e by assumption).2.2
          have hh8 := hgw.hole (show 0 ≤ e by omega) (show e < gD G w 3 0 by omega) hq0
          have hX0 := hX
          rw [show (gD G w 3 0 - e).toNat = (gD G w 3 0 - (e + 1)).toNat + 1 by omega] at hX0
          have hs1 := X_hn_s (q := gW G w) (e := e) (show 0 ≤ e by omega)
          rw [if_pos hq0] at hs1
          have h8e := hgw.2.2.2.2.2.2.2.1 e (by omega) (by omega) hq0
          refine T_p xr_41_53 xn_41 (pc' := 55) (ls' := [(12, .int (iI e)), (11, .int (iI pl)), (9, .long (X_st (-2) b)), (7, .long (iL (l : Int))), (6, .ref aw), (0, .ref 517), (1, .int (iI w)), (2, .int (iI i)), (3, .int (iI j))]) (st' := [.ref aw]) rfl ?_
          refine T_get xr_41_55 h1040 rfl (v := .ref (aw + 2)) rfl (pc' := 58) rfl ?_
          refine T_p xr_41_58 xn_41 (pc' := 60) (ls' := [(12, .int (iI e)), (11, .int (iI pl)), (9, .long (X_st (-2) b)), (7, .long (iL (l : Int))), (6, .ref aw), (0, .ref 517), (1, .int (iI w)), (2, .int (iI i)), (3, .int (iI j))]) (st' := [.int (iI e), .ref (aw + 2)]) rfl ?_
          refine T_ziald xr_41_60 h1043 (pc' := 61) rfl ?_
          refine T_p xr_41_61 xn_41 (pc' := 63) (ls' := [(13, .int (iI (((gD G) w 8) e))), (12, .int (iI e)), (11, .int (iI pl)), (9, .long (X_st (-2) b)), (7, .long (iL (l : Int))), (6, .ref aw), (0, .ref 517), (1, .int (iI w)), (2, .int (iI i)), (3, .int (iI j))]) (st' := []) rfl ?_
          refine T_p xr_41_63 xn_41 (pc' := 65) (ls' := [(13, .int (iI (((gD G) w 8) e))), (12, .int (iI e)), (11, .int (iI pl)), (9, .long (X_st (-2) b)), (7, .long (iL (l : Int))), (6, .ref aw), (0, .ref 517), (1, .int (iI w)), (2, .int (iI i)), (3, .int (iI j))]) (st' := [.int (iI pl)]) rfl ?_
          refine T_p xr_41_65 xn_41 (pc' := 66) (ls' := [(13, .int (iI (((gD G) w 8) e))), (12, .int (iI e)), (11, .int (iI pl)), (9, .long (X_st (-2) b)), (7, .long (iL (l : Int))), (6, .ref aw), (0, .ref 517), (1, .int (iI w)), (2, .int (iI i)), (3, .int (iI j))]) (st' := [.int (iI 1), .int (iI pl)]) rfl ?_
          refine T_ziadd xr_41_66 (z := pl + 1) rfl (pc' := 67) rfl ?_
          refine T_p xr_41_67 xn_41 (pc' := 69) (ls' := [(14, .int (iI (pl + 1))), (13, .int (iI (((gD G) w 8) e))), (12, .int (iI e)), (11, .int (iI pl)), (9, .long (X_st (-2) b)), (7, .long (iL (l : Int))), (6, .ref aw), (0, .ref 517), (1, .int (iI w)), (2, .int (iI i)), (3, .int (iI j))]) (st' := []) rfl ?_
          have L1055 : ∀ (m1057 : Nat) (m : Int) (l2 : Nat) (hm : pl + 1 ≤ m ∧ m ≤ j + 1) (hl2m : l2 ≤ 9223372036854775807) (hl2 : l = X_Su (X_sF G w e pl j b) (pl + 1) m + l2) (hm1058 : j + 1 - m < m1057), X_T sc 41 (69, [(14, .int (iI m)), (13, .int (iI ((gD G w 8) e))), (12, .int (iI e)), (11, .int (iI pl)), (9, .long (X_st (-2) b)), (7, .long (iL (l2 : Int))), (6, .ref aw), (0, .ref 517), (1, .int (iI w)), (2, .int (iI i)), (3, .int (iI j))], [], S1039) Q := by
            intro m1057
            induction m1057 with
            | zero =>
              intro m l2 hm hl2m hl2 hm1058
              exact (show False by omega).elim
            | succ m1057 ih1056 =>
              intro m l2 hm hl2m hl2 hm1058
              refine T_p xr_41_69 xn_41 (pc' := 71) (ls' := [(14, .int (iI m)), (13, .int (iI ((gD G w 8) e))), (12, .int (iI e)), (11, .int (iI pl)), (9, .long (X_st (-2) b)), (7, .long (iL (l2 : Int))), (6, .ref aw), (0, .ref 517), (1, .int (iI w)), (2, .int (iI i)), (3, .int (iI j))]) (st' := [.int (iI m)]) rfl ?_
              refine T_p xr_41_71 xn_41 (pc' := 72) (ls' := [(14, .int (iI m)), (13, .int (iI ((gD G w 8) e))), (12, .int (iI e)), (11, .int (iI pl)), (9, .long (X_st (-2) b)), (7, .long (iL (l2 : Int))), (6, .ref aw), (0, .ref 517), (1, .int (iI w)), (2, .int (iI i)), (3, .int (iI j))]) (st' := [.int (iI j), .int (iI m)]) rfl ?_
              refine T_zicmp_gt xr_41_72 (t := 173) (pc' := 75) rfl rfl (fun c1060 => ?_) (fun c1060 => ?_)
              · skip
                have c1060 : j < m := c1060
                exact (by
                  rw [← X_sF_e (show e < gD G w 3 0 by omega) hq0, show j + 1 = m by omega] at hl
                  omega : False).elim
              · skip
                have c1060 : ¬ (j < m) := c1060
                refine T_p xr_41_75 xn_41 (pc' := 77) (ls' := [(14, .int (iI m)), (13, .int (iI ((gD G w 8) e))), (12, .int (iI e)), (11, .int (iI pl)), (9, .long (X_st (-2) b)), (7, .long (iL (l2 : Int))), (6, .ref aw), (0, .ref 517), (1, .int (iI w)), (2, .int (iI i)), (3, .int (iI j))]) (st' := [.long (X_st (-2) b)]) rfl ?_
                refine T_p xr_41_77 xn_41 (pc' := 78) (ls' := [(14, .int (iI m)), (13, .int (iI ((gD G w 8) e))), (12, .int (iI e)), (11, .int (iI pl)), (9, .long (X_st (-2) b)), (7, .long (iL (l2 : Int))), (6, .ref aw), (0, .ref 517), (1, .int (iI w)), (2, .int (iI i)), (3, .int (iI j))]) (st' := [.ref 517, .long (X_st (-2) b)]) rfl ?_
                have h1061 := (hF1038.1 517 (by omega)).trans (hO517)
                refine T_get xr_41_78 h1061 rfl (v := .ref 511) rfl (pc' := 81) rfl ?_
                refine T_p xr_41_81 xn_41 (pc' := 83) (ls' := [(14, .int (iI m)), (13, .int (iI ((gD G w 8) e))), (12, .int (iI e)), (11, .int (iI pl)), (9, .long (X_st (-2) b)), (7, .long (iL (l2 : Int))), (6, .ref aw), (0, .ref 517), (1, .int (iI w)), (2, .int (iI i)), (3, .int (iI j))]) (st' := [.int (iI pl), .ref 511, .long (X_st (-2) b)]) rfl ?_
                refine T_p xr_41_83 xn_41 (pc' := 85) (ls' := [(14, .int (iI m)), (13, .int (iI ((gD G w 8) e))), (12, .int (iI e)), (11, .int (iI pl)), (9, .long (X_st (-2) b)), (7, .long (iL (l2 : Int))), (6, .ref aw), (0, .ref 517), (1, .int (iI w)), (2, .int (iI i)), (3, .int (iI j))]) (st' := [.int (iI m), .int (iI pl), .ref 511, .long (X_st (-2) b)]) rfl ?_
                refine T_p xr_41_85 xn_41 (pc' := 86) (ls' := [(14, .int (iI m)), (13, .int (iI ((gD G w 8) e))), (12, .int (iI e)), (11, .int (iI pl)), (9, .long (X_st (-2) b)), (7, .long (iL (l2 : Int))), (6, .ref aw), (0, .ref 517), (1, .int (iI w)), (2, .int (iI i)), (3, .int (iI j))]) (st' := [.int (iI w), .int (iI m), .int (iI pl), .ref 511, .long (X_st (-2) b)]) rfl ?_
                refine T_p xr_41_86 xn_41 (pc' := 88) (ls' := [(14, .int (iI m)), (13, .int (iI ((gD G w 8) e))), (12, .int (iI e)), (11, .int (iI pl)), (9, .long (X_st (-2) b)), (7, .long (iL (l2 : Int))), (6, .ref aw), (0, .ref 517), (1, .int (iI w)), (2, .int (iI i)), (3, .int (iI j))]) (st' := [.int (iI ((gD G w 8) e)), .int (iI w), .int (iI m), .int (iI pl), .ref 511, .long (X_st (-2) b)]) rfl ?_
                have h1062 := (hF1038.1 511 (by omega)).trans (hO511)
                refine T_cv (S := S1039) (q := 511) xr_41_88 xf_23.1 xf_23.2.1 xn_23 (as := [.int (iI pl), .int (iI m), .int (iI w), .int (iI ((gD G w 8) e))]) (r := [.long (X_st (-2) b)]) rfl h1062 (Nat.le_of_ble_eq_true rfl) (Nat.le_of_ble_eq_true rfl) (pc' := 91) rfl (ls' := [(0, .ref 511), (1, .int (iI pl)), (2, .int (iI m)), (3, .int (iI w)), (4, .int (iI ((gD G w 8) e)))]) rfl ?_
                refine T_p xr_23_0 xn_23 (pc' := 1) (ls' := [(0, .ref 511), (1, .int (iI pl)), (2, .int (iI m)), (3, .int (iI w)), (4, .int (iI ((gD G w 8) e)))]) (st' := [.ref 511]) rfl ?_
                refine T_get xr_23_1 h1062 rfl (v := .ref 515) rfl (pc' := 4) rfl ?_
                refine T_p xr_23_4 xn_23 (pc' := 5) (ls' := [(0, .ref 511), (1, .int (iI pl)), (2, .int (iI m)), (3, .int (iI w)), (4, .int (iI ((gD G w 8) e)))]) (st' := [.int (iI pl), .ref 515]) rfl ?_
                refine T_p xr_23_5 xn_23 (pc' := 6) (ls' := [(0, .ref 511), (1, .int (iI pl)), (2, .int (iI m)), (3, .int (iI w)), (4, .int (iI ((gD G w 8) e)))]) (st' := [.int (iI m), .int (iI pl), .ref 515]) rfl ?_
                refine T_cs xr_23_6 (by decide) xf_20.1 xn_20 (as := [.int (iI pl), .int (iI m)]) (r := [.ref 515]) rfl (Nat.le_of_ble_eq_true rfl) (Nat.le_of_ble_eq_true rfl) (pc' := 9) rfl (ls' := [(0, .int (iI pl)), (1, .int (iI m))]) rfl ?_
                refine T_mono (c_rowOf sc S1039 pl m (by omega)) (fun v1063 S1064 h1065 => ?_)
                rcases h1065 with ⟨hv1066, hf1067⟩
                rw [hv1066]
                rw [hf1067]
                have hr1068 := X_ro_r (i := pl) (j := m) (by omega) (by omega) (by omega)
                show X_T sc 23 (9, [(0, .ref 511), (1, .int (iI pl)), (2, .int (iI m)), (3, .int (iI w)), (4, .int (iI ((gD G w 8) e)))], [.int (iI (X_ro pl m)), .ref 515], S1039) _
                refine T_p xr_23_9 xn_23 (pc' := 11) (ls' := [(0, .ref 511), (1, .int (iI pl)), (2, .int (iI m)), (3, .int (iI w)), (4, .int (iI ((gD G w 8) e)))]) (st' := [.int (iI 30), .int (iI (X_ro pl m)), .ref 515]) rfl ?_
                refine T_zimul xr_23_11 (z := (X_ro pl m) * 30) rfl (pc' := 12) rfl ?_
                refine T_p xr_23_12 xn_23 (pc' := 13) (ls' := [(0, .ref 511), (1, .int (iI pl)), (2, .int (iI m)), (3, .int (iI w)), (4, .int (iI ((gD G w 8) e)))]) (st' := [.int (iI w), .int (iI ((X_ro pl m) * 30)), .ref 515]) rfl ?_
                refine T_ziadd xr_23_13 (z := ((X_ro pl m) * 30) + w) rfl (pc' := 14) rfl ?_
                refine T_p xr_23_14 xn_23 (pc' := 15) (ls' := [(0, .ref 511), (1, .int (iI pl)), (2, .int (iI m)), (3, .int (iI w)), (4, .int (iI ((gD G w 8) e)))]) (st' := [.int (iI 4), .int (iI (((X_ro pl m) * 30) + w)), .ref 515]) rfl ?_
                refine T_zimul xr_23_15 (z := (((X_ro pl m) * 30) + w) * 4) rfl (pc' := 16) rfl ?_
                refine T_p xr_23_16 xn_23 (pc' := 18) (ls' := [(0, .ref 511), (1, .int (iI pl)), (2, .int (iI m)), (3, .int (iI w)), (4, .int (iI ((gD G w 8) e)))]) (st' := [.int (iI ((gD G w 8) e)), .int (iI ((((X_ro pl m) * 30) + w) * 4)), .ref 515]) rfl ?_
                refine T_ziadd xr_23_18 (z := ((((X_ro pl m) * 30) + w) * 4) + ((gD G w 8) e)) rfl (pc' := 19) rfl ?_
                have h1069 := (hF1038.1 515 (by omega)).trans (hA515)
                refine T_zlald xr_23_19 h1069 (pc' := 20) rfl ?_
                refine T_le (y := (X_st (-2) (X_Hw G (X_T_ G) w e pl m))) ((hcht pl m (by omega) (by omega) (by omega)).2.2.2 w hw.1 hw.2 e (by omega) (by omega) hq0) ?_
                refine T_lret xr_23_20 xf_23.2.2 rfl ?_
                show X_T sc 41 (91, [(14, .int (iI m)), (13, .int (iI ((gD G w 8) e))), (12, .int (iI e)), (11, .int (iI pl)), (9, .long (X_st (-2) b)), (7, .long (iL (l2 : Int))), (6, .ref aw), (0, .ref 517), (1, .int (iI w)), (2, .int (iI i)), (3, .int (iI j))], [.long (X_st (-2) (X_Hw G (X_T_ G) w e pl m)), .long (X_st (-2) b)], S1039) _
                refine T_cs xr_41_91 (by decide) xf_116.1 xn_116 (as := [.long (X_st (-2) b), .long (X_st (-2) (X_Hw G (X_T_ G) w e pl m))]) (r := []) rfl (Nat.le_of_ble_eq_true rfl) (Nat.le_of_ble_eq_true rfl) (pc' := 94) rfl (ls' := [(0, .long (X_st (-2) b)), (2, .long (X_st (-2) (X_Hw G (X_T_ G) w e pl m)))]) rfl ?_
                refine T_mono (c_times sc S1039 b (X_Hw G (X_T_ G) w e pl m)) (fun v1070 S1071 h1072 => ?_)
                rcases h1072 with ⟨hv1073, hf1074⟩
                rw [hv1073]
                rw [hf1074]
                show X_T sc 41 (94, [(14, .int (iI m)), (13, .int (iI ((gD G w 8) e))), (12, .int (iI e)), (11, .int (iI pl)), (9, .long (X_st (-2) b)), (7, .long (iL (l2 : Int))), (6, .ref aw), (0, .ref 517), (1, .int (iI w)), (2, .int (iI i)), (3, .int (iI j))], [.long (X_st (-2) (b * (X_Hw G (X_T_ G) w e pl m)))], S1039) _
                refine T_p xr_41_94 xn_41 (pc' := 96) (ls' := [(15, .long (X_st (-2) (b * (X_Hw G (X_T_ G) w e pl m)))), (14, .int (iI m)), (13, .int (iI ((gD G w 8) e))), (12, .int (iI e)), (11, .int (iI pl)), (9, .long (X_st (-2) b)), (7, .long (iL (l2 : Int))), (6, .ref aw), (0, .ref 517), (1, .int (iI w)), (2, .int (iI i)), (3, .int (iI j))]) (st' := []) rfl ?_
                refine T_p xr_41_96 xn_41 (pc' := 98) (ls' := [(15, .long (X_st (-2) (b * (X_Hw G (X_T_ G) w e pl m)))), (14, .int (iI m)), (13, .int (iI ((gD G w 8) e))), (12, .int (iI e)), (11, .int (iI pl)), (9, .long (X_st (-2) b)), (7, .long (iL (l2 : Int))), (6, .ref aw), (0, .ref 517), (1, .int (iI w)), (2, .int (iI i)), (3, .int (iI j))]) (st' := [.long (X_st (-2) (b * (X_Hw G (X_T_ G) w e pl m)))]) rfl ?_
                refine T_p xr_41_98 xn_41 (pc' := 99) (ls' := [(15, .long (X_st (-2) (b * (X_Hw G (X_T_ G) w e pl m)))), (14, .int (iI m)), (13, .int (iI ((gD G w 8) e))), (12, .int (iI e)), (11, .int (iI pl)), (9, .long (X_st (-2) b)), (7, .long (iL (l2 : Int))), (6, .ref aw), (0, .ref 517), (1, .int (iI w)), (2, .int (iI i)), (3, .int (iI j))]) (st' := [.ref 517, .long (X_st (-2) (b * (X_Hw G (X_T_ G) w e pl m)))]) rfl ?_
                refine T_get xr_41_99 h1061 rfl (v := .ref 511) rfl (pc' := 102) rfl ?_
                refine T_p xr_41_102 xn_41 (pc' := 103) (ls' := [(15, .long (X_st (-2) (b * (X_Hw G (X_T_ G) w e pl m)))), (14, .int (iI m)), (13, .int (iI ((gD G w 8) e))), (12, .int (iI e)), (11, .int (iI pl)), (9, .long (X_st (-2) b)), (7, .long (iL (l2 : Int))), (6, .ref aw), (0, .ref 517), (1, .int (iI w)), (2, .int (iI i)), (3, .int (iI j))]) (st' := [.int (iI w), .ref 511, .long (X_st (-2) (b * (X_Hw G (X_T_ G) w e pl m)))]) rfl ?_
                refine T_p xr_41_103 xn_41 (pc' := 105) (ls' := [(15, .long (X_st (-2) (b * (X_Hw G (X_T_ G) w e pl m)))), (14, .int (iI m)), (13, .int (iI ((gD G w 8) e))), (12, .int (iI e)), (11, .int (iI pl)), (9, .long (X_st (-2) b)), (7, .long (iL (l2 : Int))), (6, .ref aw), (0, .ref 517), (1, .int (iI w)), (2, .int (iI i)), (3, .int (iI j))]) (st' := [.int (iI e), .int (iI w), .ref 511, .long (X_st (-2) (b * (X_Hw G (X_T_ G) w e pl m)))]) rfl ?_
                refine T_p xr_41_105 xn_41 (pc' := 106) (ls' := [(15, .long (X_st (-2) (b * (X_Hw G (X_T_ G) w e pl m)))), (14, .int (iI m)), (13, .int (iI ((gD G w 8) e))), (12, .int (iI e)), (11, .int (iI pl)), (9, .long (X_st (-2) b)), (7, .long (iL (l2 : Int))), (6, .ref aw), (0, .ref 517), (1, .int (iI w)), (2, .int (iI i)), (3, .int (iI j))]) (st' := [.int (iI 1), .int (iI e), .int (iI w), .ref 511, .long (X_st (-2) (b * (X_Hw G (X_T_ G) w e pl m)))]) rfl ?_
                refine T_ziadd xr_41_106 (z := e + 1) rfl (pc' := 107) rfl ?_
                refine T_p xr_41_107 xn_41 (pc' := 109) (ls' := [(15, .long (X_st (-2) (b * (X_Hw G (X_T_ G) w e pl m)))), (14, .int (iI m)), (13, .int (iI ((gD G w 8) e))), (12, .int (iI e)), (11, .int (iI pl)), (9, .long (X_st (-2) b)), (7, .long (iL (l2 : Int))), (6, .ref aw), (0, .ref 517), (1, .int (iI w)), (2, .int (iI i)), (3, .int (iI j))]) (st' := [.int (iI m), .int (iI (e + 1)), .int (iI w), .ref 511, .long (X_st (-2) (b * (X_Hw G (X_T_ G) w e pl m)))]) rfl ?_
                refine T_p xr_41_109 xn_41 (pc' := 110) (ls' := [(15, .long (X_st (-2) (b * (X_Hw G (X_T_ G) w e pl m)))), (14, .int (iI m)), (13, .int (iI ((gD G w 8) e))), (12, .int (iI e)), (11, .int (iI pl)), (9, .long (X_st (-2) b)), (7, .long (iL (l2 : Int))), (6, .ref aw), (0, .ref 517), (1, .int (iI w)), (2, .int (iI i)), (3, .int (iI j))]) (st' := [.int (iI j), .int (iI m), .int (iI (e + 1)), .int (iI w), .ref 511, .long (X_st (-2) (b * (X_Hw G (X_T_ G) w e pl m)))]) rfl ?_
                refine T_cv (S := S1039) (q := 511) xr_41_110 xf_34.1 xf_34.2.1 xn_34 (as := [.int (iI w), .int (iI (e + 1)), .int (iI m), .int (iI j)]) (r := [.long (X_st (-2) (b * (X_Hw G (X_T_ G) w e pl m)))]) rfl h1062 (Nat.le_of_ble_eq_true rfl) (Nat.le_of_ble_eq_true rfl) (pc' := 113) rfl (ls' := [(0, .ref 511), (1, .int (iI w)), (2, .int (iI (e + 1))), (3, .int (iI m)), (4, .int (iI j))]) rfl ?_
                have h1075 := (hF1038.1 516 (by omega)).trans (hA516)
                have h1076 := (hF1038.1 B (by omega)).trans (hb0)
                have h1077 := (hF1038.1 (B + 1) (by omega)).trans (hb1)
                have h1078 := (hF1038.1 (B + 2) (by omega)).trans (hb2)
                have h1079 := (hF1038.1 (B + 3) (by omega)).trans (hb3)
                have h1080 := (hF1038.1 (B + 4) (by omega)).trans (hb4)
                have h1081 := (hF1038.1 (B + 5) (by omega)).trans (hb5)
                have hs1082 : C_ws S1039 B (gD G) (gW G) := C_ws.fr (P := fun q => 501 ≤ q ∧ q ≤ 529) hs ((X_Fr.rf).tr (X_Fr.mono ⟨hF1038.1, hF1038.2⟩ (fun q hq => (by omega)))) (fun k h1 h2 => by omega)
                refine T_mono (c_tail sc S1039 tl B rc rn kn G tn fl w (e + 1) m j h1062 h1075 hB ⟨h1076, h1077, h1078, h1079, h1080, ⟨f, h1081, hf⟩, ⟨by omega, by omega⟩, ⟨by omega, by omega⟩, ⟨by omega, by omega⟩⟩ hs1082 hG (by omega) (by omega) (by omega) (fun z1 z2 => ht _ (by omega) z1 _ (by omega) z2)) (fun v1083 S1084 h1085 => ?_)
                rcases h1085 with ⟨hv1086, hf1087⟩
                rw [hv1086]
                rw [hf1087]
                show X_T sc 41 (113, [(15, .long (X_st (-2) (b * (X_Hw G (X_T_ G) w e pl m)))), (14, .int (iI m)), (13, .int (iI ((gD G w 8) e))), (12, .int (iI e)), (11, .int (iI pl)), (9, .long (X_st (-2) b)), (7, .long (iL (l2 : Int))), (6, .ref aw), (0, .ref 517), (1, .int (iI w)), (2, .int (iI i)), (3, .int (iI j))], [.long (X_st (-2) (X_Ew G (X_T_ G) w (e + 1) m j)), .long (X_st (-2) (b * (X_Hw G (X_T_ G) w e pl m)))], S1039) _
                refine T_cs xr_41_113 (by decide) xf_116.1 xn_116 (as := [.long (X_st (-2) (b * (X_Hw G (X_T_ G) w e pl m))), .long (X_st (-2) (X_Ew G (X_T_ G) w (e + 1) m j))]) (r := []) rfl (Nat.le_of_ble_eq_true rfl) (Nat.le_of_ble_eq_true rfl) (pc' := 116) rfl (ls' := [(0, .long (X_st (-2) (b * (X_Hw G (X_T_ G) w e pl m)))), (2, .long (X_st (-2) (X_Ew G (X_T_ G) w (e + 1) m j)))]) rfl ?_
                refine T_mono (c_times sc S1039 (b * (X_Hw G (X_T_ G) w e pl m)) (X_Ew G (X_T_ G) w (e + 1) m j)) (fun v1088 S1089 h1090 => ?_)
                rcases h1090 with ⟨hv1091, hf1092⟩
                rw [hv1091]
                rw [hf1092]
                show X_T sc 41 (116, [(15, .long (X_st (-2) (b * (X_Hw G (X_T_ G) w e pl m)))), (14, .int (iI m)), (13, .int (iI ((gD G w 8) e))), (12, .int (iI e)), (11, .int (iI pl)), (9, .long (X_st (-2) b)), (7, .long (iL (l2 : Int))), (6, .ref aw), (0, .ref 517), (1, .int (iI w)), (2, .int (iI i)), (3, .int (iI j))], [.long (X_st (-2) ((b * (X_Hw G (X_T_ G) w e pl m)) * (X_Ew G (X_T_ G) w (e + 1) m j)))], S1039) _
                refine T_p xr_41_116 xn_41 (pc' := 118) (ls' := [(17, .long (X_st (-2) ((b * (X_Hw G (X_T_ G) w e pl m)) * (X_Ew G (X_T_ G) w (e + 1) m j)))), (15, .long (X_st (-2) (b * (X_Hw G (X_T_ G) w e pl m)))), (14, .int (iI m)), (13, .int (iI ((gD G w 8) e))), (12, .int (iI e)), (11, .int (iI pl)), (9, .long (X_st (-2) b)), (7, .long (iL (l2 : Int))), (6, .ref aw), (0, .ref 517), (1, .int (iI w)), (2, .int (iI i)), (3, .int (iI j))]) (st' := []) rfl ?_
                refine T_p xr_41_118 xn_41 (pc' := 120) (ls' := [(17, .long (X_st (-2) ((b * (X_Hw G (X_T_ G) w e pl m)) * (X_Ew G (X_T_ G) w (e + 1) m j)))), (15, .long (X_st (-2) (b * (X_Hw G (X_T_ G) w e pl m)))), (14, .int (iI m)), (13, .int (iI ((gD G w 8) e))), (12, .int (iI e)), (11, .int (iI pl)), (9, .long (X_st (-2) b)), (7, .long (iL (l2 : Int))), (6, .ref aw), (0, .ref 517), (1, .int (iI w)), (2, .int (iI i)), (3, .int (iI j))]) (st' := [.long (X_st (-2) ((b * (X_Hw G (X_T_ G) w e pl m)) * (X_Ew G (X_T_ G) w (e + 1) m j)))]) rfl ?_
                refine T_p xr_41_120 xn_41 (pc' := 123) (ls' := [(17, .long (X_st (-2) ((b * (X_Hw G (X_T_ G) w e pl m)) * (X_Ew G (X_T_ G) w (e + 1) m j)))), (15, .long (X_st (-2) (b * (X_Hw G (X_T_ G) w e pl m)))), (14, .int (iI m)), (13, .int (iI ((gD G w 8) e))), (12, .int (iI e)), (11, .int (iI pl)), (9, .long (X_st (-2) b)), (7, .long (iL (l2 : Int))), (6, .ref aw), (0, .ref 517), (1, .int (iI w)), (2, .int (iI i)), (3, .int (iI j))]) (st' := [.long (iL (-2)), .long (X_st (-2) ((b * (X_Hw G (X_T_ G) w e pl m)) * (X_Ew G (X_T_ G) w (e + 1) m j)))]) rfl ?_
                refine T_lc_eq xr_41_123 xr_41_124 (t := 135) (pc' := 127) rfl rfl (fun c1093 => ?_) (fun c1093 => ?_)
                · skip
                  have c1093 : (X_st (-2) ((b * (X_Hw G (X_T_ G) w e pl m)) * (X_Ew G (X_T_ G) w (e + 1) m j))) = (iL (-2)) := c1093
                  have hlF : l2 < X_sF G w e pl j b m := by
                    first
                      | exact (X_st_lt (m := -2) (by omega) hl2m).mp (Or.inl (by first | assumption | exact Classical.not_not.mp (by assumption)))
                      | exact (X_st_lt (m := -2) (by omega) hl2m).mp (Or.inr (by first | assumption | exact Int64.not_le.mp (by assumption)))
                  have hfd := X_sp_u (show pl < m ∧ m ≤ j by omega) hl2 hlF
                  rw [X_spl_h hq0 hfd] at hX0
                  refine T_p xr_41_135 xn_41 (pc' := 136) (ls' := [(17, .long (X_st (-2) ((b * (X_Hw G (X_T_ G) w e pl m)) * (X_Ew G (X_T_ G) w (e + 1) m j)))), (15, .long (X_st (-2) (b * (X_Hw G (X_T_ G) w e pl m)))), (14, .int (iI m)), (13, .int (iI ((gD G w 8) e))), (12, .int (iI e)), (11, .int (iI pl)), (9, .long (X_st (-2) b)), (7, .long (iL (l2 : Int))), (6, .ref aw), (0, .ref 517), (1, .int (iI w)), (2, .int (iI i)), (3, .int (iI j))]) (st' := [.ref 517]) rfl ?_
                  refine T_get xr_41_136 h1061 rfl (v := .ref 525) rfl (pc' := 139) rfl ?_
                  refine T_p xr_41_139 xn_41 (pc' := 141) (ls' := [(17, .long (X_st (-2) ((b * (X_Hw G (X_T_ G) w e pl m)) * (X_Ew G (X_T_ G) w (e + 1) m j)))), (15, .long (X_st (-2) (b * (X_Hw G (X_T_ G) w e pl m)))), (14, .int (iI m)), (13, .int (iI ((gD G w 8) e))), (12, .int (iI e)), (11, .int (iI pl)), (9, .long (X_st (-2) b)), (7, .long (iL (l2 : Int))), (6, .ref aw), (0, .ref 517), (1, .int (iI w)), (2, .int (iI i)), (3, .int (iI j))]) (st' := [.int (iI ((gD G w 8) e)), .ref 525]) rfl ?_
                  refine T_p xr_41_141 xn_41 (pc' := 143) (ls' := [(17, .long (X_st (-2) ((b * (X_Hw G (X_T_ G) w e pl m)) * (X_Ew G (X_T_ G) w (e + 1) m j)))), (15, .long (X_st (-2) (b * (X_Hw G (X_T_ G) w e pl m)))), (14, .int (iI m)), (13, .int (iI ((gD G w 8) e))), (12, .int (iI e)), (11, .int (iI pl)), (9, .long (X_st (-2) b)), (7, .long (iL (l2 : Int))), (6, .ref aw), (0, .ref 517), (1, .int (iI w)), (2, .int (iI i)), (3, .int (iI j))]) (st' := [.int (iI pl), .int (iI ((gD G w 8) e)), .ref 525]) rfl ?_
                  refine T_ziast xr_41_143 hhF1 (pc' := 144) rfl (fun S1094 h1095 n1096 e1097 => ?_)
                  refine T_p xr_41_144 xn_41 (pc' := 145) (ls' := [(17, .long (X_st (-2) ((b * (X_Hw G (X_T_ G) w e pl m)) * (X_Ew G (X_T_ G) w (e + 1) m j)))), (15, .long (X_st (-2) (b * (X_Hw G (X_T_ G) w e pl m)))), (14, .int (iI m)), (13, .int (iI ((gD G w 8) e))), (12, .int (iI e)), (11, .int (iI pl)), (9, .long (X_st (-2) b)), (7, .long (iL (l2 : Int))), (6, .ref aw), (0, .ref 517), (1, .int (iI w)), (2, .int (iI i)), (3, .int (iI j))]) (st' := [.ref 517]) rfl ?_
                  have h1098 := (n1096 517 (by decide)).trans (h1061)
                  refine T_get xr_41_145 h1098 rfl (v := .ref 526) rfl (pc' := 148) rfl ?_
                  refine T_p xr_41_148 xn_41 (pc' := 150) (ls' := [(17, .long (X_st (-2) ((b * (X_Hw G (X_T_ G) w e pl m)) * (X_Ew G (X_T_ G) w (e + 1) m j)))), (15, .long (X_st (-2) (b * (X_Hw G (X_T_ G) w e pl m)))), (14, .int (iI m)), (13, .int (iI ((gD G w 8) e))), (12, .int (iI e)), (11, .int (iI pl)), (9, .long (X_st (-2) b)), (7, .long (iL (l2 : Int))), (6, .ref aw), (0, .ref 517), (1, .int (iI w)), (2, .int (iI i)), (3, .int (iI j))]) (st' := [.int (iI ((gD G w 8) e)), .ref 526]) rfl ?_
                  refine T_p xr_41_150 xn_41 (pc' := 152) (ls' := [(17, .long (X_st (-2) ((b * (X_Hw G (X_T_ G) w e pl m)) * (X_Ew G (X_T_ G) w (e + 1) m j)))), (15, .long (X_st (-2) (b * (X_Hw G (X_T_ G) w e pl m)))), (14, .int (iI m)), (13, .int (iI ((gD G w 8) e))), (12, .int (iI e)), (11, .int (iI pl)), (9, .long (X_st (-2) b)), (7, .long (iL (l2 : Int))), (6, .ref aw), (0, .ref 517), (1, .int (iI w)), (2, .int (iI i)), (3, .int (iI j))]) (st' := [.int (iI m), .int (iI ((gD G w 8) e)), .ref 526]) rfl ?_
                  have h1099 := (n1096 526 (by decide)).trans (hhE1)
                  refine T_ziast xr_41_152 h1099 (pc' := 153) rfl (fun S1100 h1101 n1102 e1103 => ?_)
                  refine T_p xr_41_153 xn_41 (pc' := 155) (ls' := [(17, .long (X_st (-2) ((b * (X_Hw G (X_T_ G) w e pl m)) * (X_Ew G (X_T_ G) w (e + 1) m j)))), (15, .long (X_st (-2) (b * (X_Hw G (X_T_ G) w e pl m)))), (14, .int (iI m)), (13, .int (iI ((gD G w 8) e))), (12, .int (iI e)), (11, .int (iI pl)), (9, .long (X_st (-2) b)), (7, .long (iL (l2 : Int))), (6, .ref aw), (0, .ref 517), (1, .int (iI w)), (2, .int (iI i)), (3, .int (iI j))]) (st' := [.long (X_st (-2) (b * (X_Hw G (X_T_ G) w e pl m)))]) rfl ?_
                  refine T_p xr_41_155 xn_41 (pc' := 157) (ls' := [(9, .long (X_st (-2) (b * (X_Hw G (X_T_ G) w e pl m)))), (17, .long (X_st (-2) ((b * (X_Hw G (X_T_ G) w e pl m)) * (X_Ew G (X_T_ G) w (e + 1) m j)))), (15, .long (X_st (-2) (b * (X_Hw G (X_T_ G) w e pl m)))), (14, .int (iI m)), (13, .int (iI ((gD G w 8) e))), (12, .int (iI e)), (11, .int (iI pl)), (7, .long (iL (l2 : Int))), (6, .ref aw), (0, .ref 517), (1, .int (iI w)), (2, .int (iI i)), (3, .int (iI j))]) (st' := []) rfl ?_
                  refine T_p xr_41_157 xn_41 (pc' := 173) (ls' := [(9, .long (X_st (-2) (b * (X_Hw G (X_T_ G) w e pl m)))), (17, .long (X_st (-2) ((b * (X_Hw G (X_T_ G) w e pl m)) * (X_Ew G (X_T_ G) w (e + 1) m j)))), (15, .long (X_st (-2) (b * (X_Hw G (X_T_ G) w e pl m)))), (14, .int (iI m)), (13, .int (iI ((gD G w 8) e))), (12, .int (iI e)), (11, .int (iI pl)), (7, .long (iL (l2 : Int))), (6, .ref aw), (0, .ref 517), (1, .int (iI w)), (2, .int (iI i)), (3, .int (iI j))]) (st' := []) rfl ?_
                  refine T_p xr_41_173 xn_41 (pc' := 174) (ls' := [(9, .long (X_st (-2) (b * (X_Hw G (X_T_ G) w e pl m)))), (17, .long (X_st (-2) ((b * (X_Hw G (X_T_ G) w e pl m)) * (X_Ew G (X_T_ G) w (e + 1) m j)))), (15, .long (X_st (-2) (b * (X_Hw G (X_T_ G) w e pl m)))), (14, .int (iI m)), (13, .int (iI ((gD G w 8) e))), (12, .int (iI e)), (11, .int (iI pl)), (7, .long (iL (l2 : Int))), (6, .ref aw), (0, .ref 517), (1, .int (iI w)), (2, .int (iI i)), (3, .int (iI j))]) (st' := [.ref 517]) rfl ?_
                  have h1104 := (n1102 517 (by decide)).trans (h1098)
                  refine T_get xr_41_174 h1104 rfl (v := .ref 526) rfl (pc' := 177) rfl ?_
                  refine T_p xr_41_177 xn_41 (pc' := 179) (ls' := [(9, .long (X_st (-2) (b * (X_Hw G (X_T_ G) w e pl m)))), (17, .long (X_st (-2) ((b * (X_Hw G (X_T_ G) w e pl m)) * (X_Ew G (X_T_ G) w (e + 1) m j)))), (15, .long (X_st (-2) (b * (X_Hw G (X_T_ G) w e pl m)))), (14, .int (iI m)), (13, .int (iI ((gD G w 8) e))), (12, .int (iI e)), (11, .int (iI pl)), (7, .long (iL (l2 : Int))), (6, .ref aw), (0, .ref 517), (1, .int (iI w)), (2, .int (iI i)), (3, .int (iI j))]) (st' := [.int (iI ((gD G w 8) e)), .ref 526]) rfl ?_
                  refine T_ziald xr_41_179 h1101 (pc' := 180) rfl ?_
                  refine T_ie (y := iI m) (by rw [X_ug_s]) ?_
                  refine T_p xr_41_180 xn_41 (pc' := 182) (ls' := [(11, .int (iI m)), (9, .long (X_st (-2) (b * (X_Hw G (X_T_ G) w e pl m)))), (17, .long (X_st (-2) ((b * (X_Hw G (X_T_ G) w e pl m)) * (X_Ew G (X_T_ G) w (e + 1) m j)))), (15, .long (X_st (-2) (b * (X_Hw G (X_T_ G) w e pl m)))), (14, .int (iI m)), (13, .int (iI ((gD G w 8) e))), (12, .int (iI e)), (7, .long (iL (l2 : Int))), (6, .ref aw), (0, .ref 517), (1, .int (iI w)), (2, .int (iI i)), (3, .int (iI j))]) (st' := []) rfl ?_
                  refine T_ziinc xr_41_182 xn_41 (a := e) (z := e + 1) rfl (Nat.le_of_ble_eq_true rfl) (by omega) (ls' := [(12, .int (iI (e + 1))), (11, .int (iI m)), (9, .long (X_st (-2) (b * (X_Hw G (X_T_ G) w e pl m)))), (17, .long (X_st (-2) ((b * (X_Hw G (X_T_ G) w e pl m)) * (X_Ew G (X_T_ G) w (e + 1) m j)))), (15, .long (X_st (-2) (b * (X_Hw G (X_T_ G) w e pl m)))), (14, .int (iI m)), (13, .int (iI ((gD G w 8) e))), (7, .long (iL (l2 : Int))), (6, .ref aw), (0, .ref 517), (1, .int (iI w)), (2, .int (iI i)), (3, .int (iI j))]) rfl (pc' := 185) rfl ?_
                  refine T_p xr_41_185 xn_41 (pc' := 27) (ls' := [(12, .int (iI (e + 1))), (11, .int (iI m)), (9, .long (X_st (-2) (b * (X_Hw G (X_T_ G) w e pl m)))), (17, .long (X_st (-2) ((b * (X_Hw G (X_T_ G) w e pl m)) * (X_Ew G (X_T_ G) w (e + 1) m j)))), (15, .long (X_st (-2) (b * (X_Hw G (X_T_ G) w e pl m)))), (14, .int (iI m)), (13, .int (iI ((gD G w 8) e))), (7, .long (iL (l2 : Int))), (6, .ref aw), (0, .ref 517), (1, .int (iI w)), (2, .int (iI i)), (3, .int (iI j))]) (st' := []) rfl ?_
                  have h1105 := (n1102 525 (by decide)).trans (h1095)
                  refine T_sub (ls := [(12, .int (iI (e + 1))), (11, .int (iI m)), (9, .long (X_st (-2) (b * (X_Hw G (X_T_ G) w e pl m)))), (7, .long (iL (l2 : Int))), (6, .ref aw), (0, .ref 517), (1, .int (iI w)), (2, .int (iI i)), (3, .int (iI j))]) ⟨rfl, rfl, rfl, rfl, rfl, rfl, rfl, rfl, rfl, trivial⟩ rfl rfl ?_
                  exact ih1035 S1100 (e + 1) m l2 (b * (X_Hw G (X_T_ G) w e pl m)) (X_ug HF (gD G w 8 e) pl) (X_ug HE (gD G w 8 e) m) (X_ug hF1 ((gD G w 8) e) pl) (X_ug hE1 ((gD G w 8) e) m) h1105 h1101 (hF1038.tr (((X_Fr.rf).tr (X_Fr.of n1096 e1097 (by omega))).tr (X_Fr.of n1102 e1103 (by omega)))) (by omega) hlF (by omega) hX0 (fun h h1 h2 => by
                        by_cases hh : h = gD G w 8 e
                        · subst hh; rw [X_ug_s, X_ug_s, X_ug_s, X_ug_s]; exact ⟨rfl, rfl⟩
                        · rw [X_ug_n _ _ hh, X_ug_n _ _ hh, X_ug_n _ _ hh, X_ug_n _ _ hh]; exact hA h h1 (by omega)) (by omega)
                · skip
                  have c1093 : ¬ ((X_st (-2) ((b * (X_Hw G (X_T_ G) w e pl m)) * (X_Ew G (X_T_ G) w (e + 1) m j))) = (iL (-2))) := c1093
                  refine T_p xr_41_127 xn_41 (pc' := 129) (ls' := [(17, .long (X_st (-2) ((b * (X_Hw G (X_T_ G) w e pl m)) * (X_Ew G (X_T_ G) w (e + 1) m j)))), (15, .long (X_st (-2) (b * (X_Hw G (X_T_ G) w e pl m)))), (14, .int (iI m)), (13, .int (iI ((gD G w 8) e))), (12, .int (iI e)), (11, .int (iI pl)), (9, .long (X_st (-2) b)), (7, .long (iL (l2 : Int))), (6, .ref aw), (0, .ref 517), (1, .int (iI w)), (2, .int (iI i)), (3, .int (iI j))]) (st' := [.long (iL (l2 : Int))]) rfl ?_
                  refine T_p xr_41_129 xn_41 (pc' := 131) (ls' := [(17, .long (X_st (-2) ((b * (X_Hw G (X_T_ G) w e pl m)) * (X_Ew G (X_T_ G) w (e + 1) m j)))), (15, .long (X_st (-2) (b * (X_Hw G (X_T_ G) w e pl m)))), (14, .int (iI m)), (13, .int (iI ((gD G w 8) e))), (12, .int (iI e)), (11, .int (iI pl)), (9, .long (X_st (-2) b)), (7, .long (iL (l2 : Int))), (6, .ref aw), (0, .ref 517), (1, .int (iI w)), (2, .int (iI i)), (3, .int (iI j))]) (st' := [.long (X_st (-2) ((b * (X_Hw G (X_T_ G) w e pl m)) * (X_Ew G (X_T_ G) w (e + 1) m j))), .long (iL (l2 : Int))]) rfl ?_
                  refine T_lc_ge xr_41_131 xr_41_132 (t := 160) (pc' := 135) rfl rfl (fun c1106 => ?_) (fun c1106 => ?_)
                  · skip
                    have c1106 : (X_st (-2) ((b * (X_Hw G (X_T_ G) w e pl m)) * (X_Ew G (X_T_ G) w (e + 1) m j))) ≤ (iL (l2 : Int)) := c1106
                    refine T_p xr_41_160 xn_41 (pc' := 162) (ls' := [(17, .long (X_st (-2) ((b * (X_Hw G (X_T_ G) w e pl m)) * (X_Ew G (X_T_ G) w (e + 1) m j)))), (15, .long (X_st (-2) (b * (X_Hw G (X_T_ G) w e pl m)))), (14, .int (iI m)), (13, .int (iI ((gD G w 8) e))), (12, .int (iI e)), (11, .int (iI pl)), (9, .long (X_st (-2) b)), (7, .long (iL (l2 : Int))), (6, .ref aw), (0, .ref 517), (1, .int (iI w)), (2, .int (iI i)), (3, .int (iI j))]) (st' := [.long (iL (l2 : Int))]) rfl ?_
                    refine T_p xr_41_162 xn_41 (pc' := 164) (ls' := [(17, .long (X_st (-2) ((b * (X_Hw G (X_T_ G) w e pl m)) * (X_Ew G (X_T_ G) w (e + 1) m j)))), (15, .long (X_st (-2) (b * (X_Hw G (X_T_ G) w e pl m)))), (14, .int (iI m)), (13, .int (iI ((gD G w 8) e))), (12, .int (iI e)), (11, .int (iI pl)), (9, .long (X_st (-2) b)), (7, .long (iL (l2 : Int))), (6, .ref aw), (0, .ref 517), (1, .int (iI w)), (2, .int (iI i)), (3, .int (iI j))]) (st' := [.long (X_st (-2) ((b * (X_Hw G (X_T_ G) w e pl m)) * (X_Ew G (X_T_ G) w (e + 1) m j))), .long (iL (l2 : Int))]) rfl ?_
                    refine T_p xr_41_164 xn_41 (pc' := 165) (ls' := [(17, .long (X_st (-2) ((b * (X_Hw G (X_T_ G) w e pl m)) * (X_Ew G (X_T_ G) w (e + 1) m j)))), (15, .long (X_st (-2) (b * (X_Hw G (X_T_ G) w e pl m)))), (14, .int (iI m)), (13, .int (iI ((gD G w 8) e))), (12, .int (iI e)), (11, .int (iI pl)), (9, .long (X_st (-2) b)), (7, .long (iL (l2 : Int))), (6, .ref aw), (0, .ref 517), (1, .int (iI w)), (2, .int (iI i)), (3, .int (iI j))]) (st' := [.long ((iL (l2 : Int)) - (X_st (-2) ((b * (X_Hw G (X_T_ G) w e pl m)) * (X_Ew G (X_T_ G) w (e + 1) m j))))]) rfl ?_
                    have hlF : X_sF G w e pl j b m ≤ l2 ∧ X_st (-2) (X_sF G w e pl j b m) = iL ((X_sF G w e pl j b m : Nat) : Int) := by
                      have h1 : ¬ (X_st (-2) (X_sF G w e pl j b m) = iL (-2) ∨ iL (l2 : Int) < X_st (-2) (X_sF G w e pl j b m)) := by
                        rintro (h | h)
                        · exact absurd h (by assumption)
                        · exact absurd h (Int64.not_lt.mpr (by first | assumption | exact Classical.not_not.mp (by assumption)))
                      rw [X_st_lt (by omega) hl2m] at h1
                      exact ⟨by omega, X_st_lo (by omega)⟩
                    refine T_le (y := (iL ((l2 - X_sF G w e pl j b m : Nat) : Int))) (by rw [show X_st (-2) (b * X_Hw G (X_T_ G) w e pl m * X_Ew G (X_T_ G) w (e + 1) m j) = X_st (-2) (X_sF G w e pl j b m) from rfl, hlF.2]; exact iL_sub hlF.1) ?_
                    refine T_p xr_41_165 xn_41 (pc' := 167) (ls' := [(7, .long (iL ((l2 - X_sF G w e pl j b m : Nat) : Int))), (17, .long (X_st (-2) ((b * (X_Hw G (X_T_ G) w e pl m)) * (X_Ew G (X_T_ G) w (e + 1) m j)))), (15, .long (X_st (-2) (b * (X_Hw G (X_T_ G) w e pl m)))), (14, .int (iI m)), (13, .int (iI ((gD G w 8) e))), (12, .int (iI e)), (11, .int (iI pl)), (9, .long (X_st (-2) b)), (6, .ref aw), (0, .ref 517), (1, .int (iI w)), (2, .int (iI i)), (3, .int (iI j))]) (st' := []) rfl ?_
                    refine T_ziinc xr_41_167 xn_41 (a := m) (z := m + 1) rfl (Nat.le_of_ble_eq_true rfl) (by omega) (ls' := [(14, .int (iI (m + 1))), (7, .long (iL ((l2 - X_sF G w e pl j b m : Nat) : Int))), (17, .long (X_st (-2) ((b * (X_Hw G (X_T_ G) w e pl m)) * (X_Ew G (X_T_ G) w (e + 1) m j)))), (15, .long (X_st (-2) (b * (X_Hw G (X_T_ G) w e pl m)))), (13, .int (iI ((gD G w 8) e))), (12, .int (iI e)), (11, .int (iI pl)), (9, .long (X_st (-2) b)), (6, .ref aw), (0, .ref 517), (1, .int (iI w)), (2, .int (iI i)), (3, .int (iI j))]) rfl (pc' := 170) rfl ?_
                    refine T_p xr_41_170 xn_41 (pc' := 69) (ls' := [(14, .int (iI (m + 1))), (7, .long (iL ((l2 - X_sF G w e pl j b m : Nat) : Int))), (17, .long (X_st (-2) ((b * (X_Hw G (X_T_ G) w e pl m)) * (X_Ew G (X_T_ G) w (e + 1) m j)))), (15, .long (X_st (-2) (b * (X_Hw G (X_T_ G) w e pl m)))), (13, .int (iI ((gD G w 8) e))), (12, .int (iI e)), (11, .int (iI pl)), (9, .long (X_st (-2) b)), (6, .ref aw), (0, .ref 517), (1, .int (iI w)), (2, .int (iI i)), (3, .int (iI j))]) (st' := []) rfl ?_
                    refine T_sub (ls := [(14, .int (iI (m + 1))), (13, .int (iI ((gD G w 8) e))), (12, .int (iI e)), (11, .int (iI pl)), (9, .long (X_st (-2) b)), (7, .long (iL ((l2 - X_sF G w e pl j b m : Nat) : Int))), (6, .ref aw), (0, .ref 517), (1, .int (iI w)), (2, .int (iI i)), (3, .int (iI j))]) ⟨rfl, rfl, rfl, rfl, rfl, rfl, rfl, rfl, rfl, rfl, rfl, trivial⟩ rfl rfl ?_
                    exact ih1056 (m + 1) (l2 - X_sF G w e pl j b m)  (by omega) (by omega) (by rw [X_Su_s (by omega)]; omega) (by omega)
                  · skip
                    have c1106 : ¬ ((X_st (-2) ((b * (X_Hw G (X_T_ G) w e pl m)) * (X_Ew G (X_T_ G) w (e + 1) m j))) ≤ (iL (l2 : Int))) := c1106
                    have hlF : l2 < X_sF G w e pl j b m := by
                      first
                        | exact (X_st_lt (m := -2) (by omega) hl2m).mp (Or.inl (by first | assumption | exact Classical.not_not.mp (by assumption)))
                        | exact (X_st_lt (m := -2) (by omega) hl2m).mp (Or.inr (by first | assumption | exact Int64.not_le.mp (by assumption)))
                    have hfd := X_sp_u (show pl < m ∧ m ≤ j by omega) hl2 hlF
                    rw [X_spl_h hq0 hfd] at hX0
                    refine T_p xr_41_135 xn_41 (pc' := 136) (ls' := [(17, .long (X_st (-2) ((b * (X_Hw G (X_T_ G) w e pl m)) * (X_Ew G (X_T_ G) w (e + 1) m j)))), (15, .long (X_st (-2) (b * (X_Hw G (X_T_ G) w e pl m)))), (14, .int (iI m)), (13, .int (iI ((gD G w 8) e))), (12, .int (iI e)), (11, .int (iI pl)), (9, .long (X_st (-2) b)), (7, .long (iL (l2 : Int))), (6, .ref aw), (0, .ref 517), (1, .int (iI w)), (2, .int (iI i)), (3, .int (iI j))]) (st' := [.ref 517]) rfl ?_
                    refine T_get xr_41_136 h1061 rfl (v := .ref 525) rfl (pc' := 139) rfl ?_
                    refine T_p xr_41_139 xn_41 (pc' := 141) (ls' := [(17, .long (X_st (-2) ((b * (X_Hw G (X_T_ G) w e pl m)) * (X_Ew G (X_T_ G) w (e + 1) m j)))), (15, .long (X_st (-2) (b * (X_Hw G (X_T_ G) w e pl m)))), (14, .int (iI m)), (13, .int (iI ((gD G w 8) e))), (12, .int (iI e)), (11, .int (iI pl)), (9, .long (X_st (-2) b)), (7, .long (iL (l2 : Int))), (6, .ref aw), (0, .ref 517), (1, .int (iI w)), (2, .int (iI i)), (3, .int (iI j))]) (st' := [.int (iI ((gD G w 8) e)), .ref 525]) rfl ?_
                    refine T_p xr_41_141 xn_41 (pc' := 143) (ls' := [(17, .long (X_st (-2) ((b * (X_Hw G (X_T_ G) w e pl m)) * (X_Ew G (X_T_ G) w (e + 1) m j)))), (15, .long (X_st (-2) (b * (X_Hw G (X_T_ G) w e pl m)))), (14, .int (iI m)), (13, .int (iI ((gD G w 8) e))), (12, .int (iI e)), (11, .int (iI pl)), (9, .long (X_st (-2) b)), (7, .long (iL (l2 : Int))), (6, .ref aw), (0, .ref 517), (1, .int (iI w)), (2, .int (iI i)), (3, .int (iI j))]) (st' := [.int (iI pl), .int (iI ((gD G w 8) e)), .ref 525]) rfl ?_
                    refine T_ziast xr_41_143 hhF1 (pc' := 144) rfl (fun S1107 h1108 n1109 e1110 => ?_)
                    refine T_p xr_41_144 xn_41 (pc' := 145) (ls' := [(17, .long (X_st (-2) ((b * (X_Hw G (X_T_ G) w e pl m)) * (X_Ew G (X_T_ G) w (e + 1) m j)))), (15, .long (X_st (-2) (b * (X_Hw G (X_T_ G) w e pl m)))), (14, .int (iI m)), (13, .int (iI ((gD G w 8) e))), (12, .int (iI e)), (11, .int (iI pl)), (9, .long (X_st (-2) b)), (7, .long (iL (l2 : Int))), (6, .ref aw), (0, .ref 517), (1, .int (iI w)), (2, .int (iI i)), (3, .int (iI j))]) (st' := [.ref 517]) rfl ?_
                    have h1111 := (n1109 517 (by decide)).trans (h1061)
                    refine T_get xr_41_145 h1111 rfl (v := .ref 526) rfl (pc' := 148) rfl ?_
                    refine T_p xr_41_148 xn_41 (pc' := 150) (ls' := [(17, .long (X_st (-2) ((b * (X_Hw G (X_T_ G) w e pl m)) * (X_Ew G (X_T_ G) w (e + 1) m j)))), (15, .long (X_st (-2) (b * (X_Hw G (X_T_ G) w e pl m)))), (14, .int (iI m)), (13, .int (iI ((gD G w 8) e))), (12, .int (iI e)), (11, .int (iI pl)), (9, .long (X_st (-2) b)), (7, .long (iL (l2 : Int))), (6, .ref aw), (0, .ref 517), (1, .int (iI w)), (2, .int (iI i)), (3, .int (iI j))]) (st' := [.int (iI ((gD G w 8) e)), .ref 526]) rfl ?_
                    refine T_p xr_41_150 xn_41 (pc' := 152) (ls' := [(17, .long (X_st (-2) ((b * (X_Hw G (X_T_ G) w e pl m)) * (X_Ew G (X_T_ G) w (e + 1) m j)))), (15, .long (X_st (-2) (b * (X_Hw G (X_T_ G) w e pl m)))), (14, .int (iI m)), (13, .int (iI ((gD G w 8) e))), (12, .int (iI e)), (11, .int (iI pl)), (9, .long (X_st (-2) b)), (7, .long (iL (l2 : Int))), (6, .ref aw), (0, .ref 517), (1, .int (iI w)), (2, .int (iI i)), (3, .int (iI j))]) (st' := [.int (iI m), .int (iI ((gD G w 8) e)), .ref 526]) rfl ?_
                    have h1112 := (n1109 526 (by decide)).trans (hhE1)
                    refine T_ziast xr_41_152 h1112 (pc' := 153) rfl (fun S1113 h1114 n1115 e1116 => ?_)
                    refine T_p xr_41_153 xn_41 (pc' := 155) (ls' := [(17, .long (X_st (-2) ((b * (X_Hw G (X_T_ G) w e pl m)) * (X_Ew G (X_T_ G) w (e + 1) m j)))), (15, .long (X_st (-2) (b * (X_Hw G (X_T_ G) w e pl m)))), (14, .int (iI m)), (13, .int (iI ((gD G w 8) e))), (12, .int (iI e)), (11, .int (iI pl)), (9, .long (X_st (-2) b)), (7, .long (iL (l2 : Int))), (6, .ref aw), (0, .ref 517), (1, .int (iI w)), (2, .int (iI i)), (3, .int (iI j))]) (st' := [.long (X_st (-2) (b * (X_Hw G (X_T_ G) w e pl m)))]) rfl ?_
                    refine T_p xr_41_155 xn_41 (pc' := 157) (ls' := [(9, .long (X_st (-2) (b * (X_Hw G (X_T_ G) w e pl m)))), (17, .long (X_st (-2) ((b * (X_Hw G (X_T_ G) w e pl m)) * (X_Ew G (X_T_ G) w (e + 1) m j)))), (15, .long (X_st (-2) (b * (X_Hw G (X_T_ G) w e pl m)))), (14, .int (iI m)), (13, .int (iI ((gD G w 8) e))), (12, .int (iI e)), (11, .int (iI pl)), (7, .long (iL (l2 : Int))), (6, .ref aw), (0, .ref 517), (1, .int (iI w)), (2, .int (iI i)), (3, .int (iI j))]) (st' := []) rfl ?_
                    refine T_p xr_41_157 xn_41 (pc' := 173) (ls' := [(9, .long (X_st (-2) (b * (X_Hw G (X_T_ G) w e pl m)))), (17, .long (X_st (-2) ((b * (X_Hw G (X_T_ G) w e pl m)) * (X_Ew G (X_T_ G) w (e + 1) m j)))), (15, .long (X_st (-2) (b * (X_Hw G (X_T_ G) w e pl m)))), (14, .int (iI m)), (13, .int (iI ((gD G w 8) e))), (12, .int (iI e)), (11, .int (iI pl)), (7, .long (iL (l2 : Int))), (6, .ref aw), (0, .ref 517), (1, .int (iI w)), (2, .int (iI i)), (3, .int (iI j))]) (st' := []) rfl ?_
                    refine T_p xr_41_173 xn_41 (pc' := 174) (ls' := [(9, .long (X_st (-2) (b * (X_Hw G (X_T_ G) w e pl m)))), (17, .long (X_st (-2) ((b * (X_Hw G (X_T_ G) w e pl m)) * (X_Ew G (X_T_ G) w (e + 1) m j)))), (15, .long (X_st (-2) (b * (X_Hw G (X_T_ G) w e pl m)))), (14, .int (iI m)), (13, .int (iI ((gD G w 8) e))), (12, .int (iI e)), (11, .int (iI pl)), (7, .long (iL (l2 : Int))), (6, .ref aw), (0, .ref 517), (1, .int (iI w)), (2, .int (iI i)), (3, .int (iI j))]) (st' := [.ref 517]) rfl ?_
                    have h1117 := (n1115 517 (by decide)).trans (h1111)
                    refine T_get xr_41_174 h1117 rfl (v := .ref 526) rfl (pc' := 177) rfl ?_
                    refine T_p xr_41_177 xn_41 (pc' := 179) (ls' := [(9, .long (X_st (-2) (b * (X_Hw G (X_T_ G) w e pl m)))), (17, .long (X_st (-2) ((b * (X_Hw G (X_T_ G) w e pl m)) * (X_Ew G (X_T_ G) w (e + 1) m j)))), (15, .long (X_st (-2) (b * (X_Hw G (X_T_ G) w e pl m)))), (14, .int (iI m)), (13, .int (iI ((gD G w 8) e))), (12, .int (iI e)), (11, .int (iI pl)), (7, .long (iL (l2 : Int))), (6, .ref aw), (0, .ref 517), (1, .int (iI w)), (2, .int (iI i)), (3, .int (iI j))]) (st' := [.int (iI ((gD G w 8) e)), .ref 526]) rfl ?_
                    refine T_ziald xr_41_179 h1114 (pc' := 180) rfl ?_
                    refine T_ie (y := iI m) (by rw [X_ug_s]) ?_
                    refine T_p xr_41_180 xn_41 (pc' := 182) (ls' := [(11, .int (iI m)), (9, .long (X_st (-2) (b * (X_Hw G (X_T_ G) w e pl m)))), (17, .long (X_st (-2) ((b * (X_Hw G (X_T_ G) w e pl m)) * (X_Ew G (X_T_ G) w (e + 1) m j)))), (15, .long (X_st (-2) (b * (X_Hw G (X_T_ G) w e pl m)))), (14, .int (iI m)), (13, .int (iI ((gD G w 8) e))), (12, .int (iI e)), (7, .long (iL (l2 : Int))), (6, .ref aw), (0, .ref 517), (1, .int (iI w)), (2, .int (iI i)), (3, .int (iI j))]) (st' := []) rfl ?_
                    refine T_ziinc xr_41_182 xn_41 (a := e) (z := e + 1) rfl (Nat.le_of_ble_eq_true rfl) (by omega) (ls' := [(12, .int (iI (e + 1))), (11, .int (iI m)), (9, .long (X_st (-2) (b * (X_Hw G (X_T_ G) w e pl m)))), (17, .long (X_st (-2) ((b * (X_Hw G (X_T_ G) w e pl m)) * (X_Ew G (X_T_ G) w (e + 1) m j)))), (15, .long (X_st (-2) (b * (X_Hw G (X_T_ G) w e pl m)))), (14, .int (iI m)), (13, .int (iI ((gD G w 8) e))), (7, .long (iL (l2 : Int))), (6, .ref aw), (0, .ref 517), (1, .int (iI w)), (2, .int (iI i)), (3, .int (iI j))]) rfl (pc' := 185) rfl ?_
                    refine T_p xr_41_185 xn_41 (pc' := 27) (ls' := [(12, .int (iI (e + 1))), (11, .int (iI m)), (9, .long (X_st (-2) (b * (X_Hw G (X_T_ G) w e pl m)))), (17, .long (X_st (-2) ((b * (X_Hw G (X_T_ G) w e pl m)) * (X_Ew G (X_T_ G) w (e + 1) m j)))), (15, .long (X_st (-2) (b * (X_Hw G (X_T_ G) w e pl m)))), (14, .int (iI m)), (13, .int (iI ((gD G w 8) e))), (7, .long (iL (l2 : Int))), (6, .ref aw), (0, .ref 517), (1, .int (iI w)), (2, .int (iI i)), (3, .int (iI j))]) (st' := []) rfl ?_
                    have h1118 := (n1115 525 (by decide)).trans (h1108)
                    refine T_sub (ls := [(12, .int (iI (e + 1))), (11, .int (iI m)), (9, .long (X_st (-2) (b * (X_Hw G (X_T_ G) w e pl m)))), (7, .long (iL (l2 : Int))), (6, .ref aw), (0, .ref 517), (1, .int (iI w)), (2, .int (iI i)), (3, .int (iI j))]) ⟨rfl, rfl, rfl, rfl, rfl, rfl, rfl, rfl, rfl, trivial⟩ rfl rfl ?_
                    exact ih1035 S1113 (e + 1) m l2 (b * (X_Hw G (X_T_ G) w e pl m)) (X_ug HF (gD G w 8 e) pl) (X_ug HE (gD G w 8 e) m) (X_ug hF1 ((gD G w 8) e) pl) (X_ug hE1 ((gD G w 8) e) m) h1118 h1114 (hF1038.tr (((X_Fr.rf).tr (X_Fr.of n1109 e1110 (by omega))).tr (X_Fr.of n1115 e1116 (by omega)))) (by omega) hlF (by omega) hX0 (fun h h1 h2 => by
                          by_cases hh : h = gD G w 8 e
                          · subst hh; rw [X_ug_s, X_ug_s, X_ug_s, X_ug_s]; exact ⟨rfl, rfl⟩
                          · rw [X_ug_n _ _ hh, X_ug_n _ _ hh, X_ug_n _ _ hh, X_ug_n _ _ hh]; exact hA h h1 (by omega)) (by omega)
          exact L1055 ((j + 1) + 1).toNat (pl + 1) l  (by omega) hlm (by rw [X_Su_e (Int.le_refl _)]; omega) (by omega)
        · skip
          have c1054 : ¬ (X_hl ((gD G) w) ((gW G) w) e) := c1054
          have hqn : ¬ gW G w e = 0 := fun z => absurd (show X_hl (gD G w) (gW G w) e from ⟨by omega, by omega, z⟩) (by assumption)
          have hpp := X_sp_p (show e < gD G w 3 0 by omega) hqn hl
          have hX0 := hX
          rw [show (gD G w 3 0 - e).toNat = (gD G w 3 0 - (e + 1)).toNat + 1 by omega, X_spl_p hqn] at hX0
          have hs1 := X_hn_s (q := gW G w) (e := e) (show 0 ≤ e by omega)
          rw [if_neg hqn, Int.add_zero] at hs1
          refine T_ziinc xr_41_47 xn_41 (a := pl) (z := pl + 1) rfl (Nat.le_of_ble_eq_true rfl) (by omega) (ls' := [(11, .int (iI (pl + 1))), (12, .int (iI e)), (9, .long (X_st (-2) b)), (7, .long (iL (l : Int))), (6, .ref aw), (0, .ref 517), (1, .int (iI w)), (2, .int (iI i)), (3, .int (iI j))]) rfl (pc' := 50) rfl ?_
          refine T_p xr_41_50 xn_41 (pc' := 182) (ls' := [(11, .int (iI (pl + 1))), (12, .int (iI e)), (9, .long (X_st (-2) b)), (7, .long (iL (l : Int))), (6, .ref aw), (0, .ref 517), (1, .int (iI w)), (2, .int (iI i)), (3, .int (iI j))]) (st' := []) rfl ?_
          refine T_ziinc xr_41_182 xn_41 (a := e) (z := e + 1) rfl (Nat.le_of_ble_eq_true rfl) (by omega) (ls' := [(12, .int (iI (e + 1))), (11, .int (iI (pl + 1))), (9, .long (X_st (-2) b)), (7, .long (iL (l : Int))), (6, .ref aw), (0, .ref 517), (1, .int (iI w)), (2, .int (iI i)), (3, .int (iI j))]) rfl (pc' := 185) rfl ?_
          refine T_p xr_41_185 xn_41 (pc' := 27) (ls' := [(12, .int (iI (e + 1))), (11, .int (iI (pl + 1))), (9, .long (X_st (-2) b)), (7, .long (iL (l : Int))), (6, .ref aw), (0, .ref 517), (1, .int (iI w)), (2, .int (iI i)), (3, .int (iI j))]) (st' := []) rfl ?_
          exact ih1035 S1039 (e + 1) (pl + 1) l b HF HE hF1 hE1 hhF1 hhE1 (hF1038.tr (X_Fr.rf)) (by omega) hpp.2.2 hlm hX0 (fun h h1 h2 => hA h h1 (by omega)) (by omega)
  refine T_sub (ls := [(12, .int (iI 0)), (11, .int (iI i)), (9, .long (iL 1)), (7, .long (iL (k2 : Int))), (6, .ref aw), (0, .ref 517), (1, .int (iI w)), (2, .int (iI i)), (3, .int (iI j))]) ⟨rfl, rfl, rfl, rfl, rfl, rfl, rfl, rfl, rfl, trivial⟩ rfl rfl ?_
  exact L1034 ((gD G w 3 0) + 1).toNat S 0 i k2 1 (fun _ => 0) (fun _ => 0) hF hE hA525 hA526 ((X_Fr.rf)) (by omega) hE0 hkm (by rw [show (gD G w 3 0 - 0).toNat = (gD G w 3 0).toNat by omega]) (fun h h1 h2 => absurd h2 (by have z : X_hn (gW G w) 0 = 0 := rfl; omega)) (by omega)
