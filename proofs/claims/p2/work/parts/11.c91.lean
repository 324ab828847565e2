theorem xr_70_0 : X_row 70 0 = some (0, (.aload_n 0, 1), (0, 0, 0)) := by decide +kernel
theorem xr_70_1 : X_row 70 1 = some (1, (.getfield 23, 3), (4, 0, 18)) := by decide +kernel
theorem xr_70_4 : X_row 70 4 = some (4, (.invokevirtual 80, 3), (52, 18, 0)) := by decide +kernel
theorem xr_70_7 : X_row 70 7 = some (7, (.aload_n 0, 1), (0, 0, 0)) := by decide +kernel
theorem xr_70_8 : X_row 70 8 = some (8, (.invokevirtual 102, 3), (72, 30, 0)) := by decide +kernel
theorem xr_70_11 : X_row 70 11 = some (11, (.istore_n 1, 1), (0, 0, 0)) := by decide +kernel
theorem xr_70_12 : X_row 70 12 = some (12, (.iload_n 1, 1), (0, 0, 0)) := by decide +kernel
theorem xr_70_13 : X_row 70 13 = some (13, (.iconst (-1), 1), (0, 0, 0)) := by decide +kernel
theorem xr_70_14 : X_row 70 14 = some (14, (.if_icmp .ne 4, 3), (0, 0, 0)) := by decide +kernel
theorem xr_70_17 : X_row 70 17 = some (17, (.return_, 1), (0, 0, 0)) := by decide +kernel
theorem xr_70_18 : X_row 70 18 = some (18, (.aload_n 0, 1), (0, 0, 0)) := by decide +kernel
theorem xr_70_19 : X_row 70 19 = some (19, (.getfield 23, 3), (4, 0, 18)) := by decide +kernel
theorem xr_70_22 : X_row 70 22 = some (22, (.invokevirtual 73, 3), (49, 14, 0)) := by decide +kernel
theorem xr_70_25 : X_row 70 25 = some (25, (.istore_n 2, 1), (0, 0, 0)) := by decide +kernel
theorem xr_70_26 : X_row 70 26 = some (26, (.aload_n 0, 1), (0, 0, 0)) := by decide +kernel
theorem xr_70_27 : X_row 70 27 = some (27, (.invokevirtual 102, 3), (72, 30, 0)) := by decide +kernel
theorem xr_70_30 : X_row 70 30 = some (30, (.istore_n 3, 1), (0, 0, 0)) := by decide +kernel
theorem xr_70_31 : X_row 70 31 = some (31, (.iload_n 3, 1), (0, 0, 0)) := by decide +kernel
theorem xr_70_32 : X_row 70 32 = some (32, (.iconst (-1), 1), (0, 0, 0)) := by decide +kernel
theorem xr_70_33 : X_row 70 33 = some (33, (.if_icmp .ne 4, 3), (0, 0, 0)) := by decide +kernel
theorem xr_70_36 : X_row 70 36 = some (36, (.return_, 1), (0, 0, 0)) := by decide +kernel
theorem xr_70_37 : X_row 70 37 = some (37, (.iload_n 1, 1), (0, 0, 0)) := by decide +kernel
theorem xr_70_38 : X_row 70 38 = some (38, (.iload_n 3, 1), (0, 0, 0)) := by decide +kernel
theorem xr_70_39 : X_row 70 39 = some (39, (.if_icmp .eq 15, 3), (0, 0, 0)) := by decide +kernel
theorem xr_70_42 : X_row 70 42 = some (42, (.aload_n 0, 1), (0, 0, 0)) := by decide +kernel
theorem xr_70_43 : X_row 70 43 = some (43, (.getfield 27, 3), (4, 1, 20)) := by decide +kernel
theorem xr_70_46 : X_row 70 46 = some (46, (.iload_n 3, 1), (0, 0, 0)) := by decide +kernel
theorem xr_70_47 : X_row 70 47 = some (47, (.iload_n 1, 1), (0, 0, 0)) := by decide +kernel
theorem xr_70_48 : X_row 70 48 = some (48, (.invokevirtual 105, 3), (11, 34, 0)) := by decide +kernel
theorem xr_70_51 : X_row 70 51 = some (51, (.ifCond .eq 10, 3), (0, 0, 0)) := by decide +kernel
theorem xr_70_54 : X_row 70 54 = some (54, (.aload_n 0, 1), (0, 0, 0)) := by decide +kernel
theorem xr_70_55 : X_row 70 55 = some (55, (.iconst 4, 1), (0, 0, 0)) := by decide +kernel
theorem xr_70_56 : X_row 70 56 = some (56, (.iload_n 2, 1), (0, 0, 0)) := by decide +kernel
theorem xr_70_57 : X_row 70 57 = some (57, (.invokevirtual 76, 3), (66, 16, 0)) := by decide +kernel
theorem xr_70_60 : X_row 70 60 = some (60, (.return_, 1), (0, 0, 0)) := by decide +kernel
theorem xr_70_61 : X_row 70 61 = some (61, (.aload_n 0, 1), (0, 0, 0)) := by decide +kernel
theorem xr_70_62 : X_row 70 62 = some (62, (.getfield 27, 3), (4, 1, 20)) := by decide +kernel
theorem xr_70_65 : X_row 70 65 = some (65, (.iload_n 1, 1), (0, 0, 0)) := by decide +kernel
theorem xr_70_66 : X_row 70 66 = some (66, (.iload_n 3, 1), (0, 0, 0)) := by decide +kernel
theorem xr_70_67 : X_row 70 67 = some (67, (.invokevirtual 109, 3), (10, 36, 0)) := by decide +kernel
theorem xr_70_70 : X_row 70 70 = some (70, (.aload_n 0, 1), (0, 0, 0)) := by decide +kernel
theorem xr_70_71 : X_row 70 71 = some (71, (.bipush 59, 2), (0, 0, 0)) := by decide +kernel
theorem xr_70_73 : X_row 70 73 = some (73, (.invokevirtual 98, 3), (68, 26, 0)) := by decide +kernel
theorem xr_70_76 : X_row 70 76 = some (76, (.pop, 1), (0, 0, 0)) := by decide +kernel
theorem xr_70_77 : X_row 70 77 = some (77, (.return_, 1), (0, 0, 0)) := by decide +kernel
theorem xr_71_0 : X_row 71 0 = some (0, (.aload_n 0, 1), (0, 0, 0)) := by decide +kernel
theorem xr_71_1 : X_row 71 1 = some (1, (.getfield 27, 3), (4, 1, 20)) := by decide +kernel
theorem xr_71_4 : X_row 71 4 = some (4, (.getfield 112, 3), (0, 1, 13)) := by decide +kernel
theorem xr_71_7 : X_row 71 7 = some (7, (.bipush 11, 2), (0, 0, 0)) := by decide +kernel
theorem xr_71_9 : X_row 71 9 = some (9, (.if_icmp .ne 8, 3), (0, 0, 0)) := by decide +kernel
theorem xr_71_12 : X_row 71 12 = some (12, (.aload_n 0, 1), (0, 0, 0)) := by decide +kernel
theorem xr_71_13 : X_row 71 13 = some (13, (.invokevirtual 67, 3), (67, 12, 0)) := by decide +kernel
theorem xr_71_16 : X_row 71 16 = some (16, (.return_, 1), (0, 0, 0)) := by decide +kernel
theorem xr_71_17 : X_row 71 17 = some (17, (.aload_n 0, 1), (0, 0, 0)) := by decide +kernel
theorem xr_71_18 : X_row 71 18 = some (18, (.getfield 23, 3), (4, 0, 18)) := by decide +kernel
theorem xr_71_21 : X_row 71 21 = some (21, (.invokevirtual 80, 3), (52, 18, 0)) := by decide +kernel
theorem xr_71_24 : X_row 71 24 = some (24, (.aload_n 0, 1), (0, 0, 0)) := by decide +kernel
theorem xr_71_25 : X_row 71 25 = some (25, (.getfield 23, 3), (4, 0, 18)) := by decide +kernel
theorem xr_71_28 : X_row 71 28 = some (28, (.invokevirtual 39, 3), (48, 6, 0)) := by decide +kernel
theorem xr_71_31 : X_row 71 31 = some (31, (.iconst 2, 1), (0, 0, 0)) := by decide +kernel
theorem xr_71_32 : X_row 71 32 = some (32, (.if_icmp .eq 8, 3), (0, 0, 0)) := by decide +kernel
theorem xr_71_35 : X_row 71 35 = some (35, (.aload_n 0, 1), (0, 0, 0)) := by decide +kernel
theorem xr_71_36 : X_row 71 36 = some (36, (.invokevirtual 67, 3), (67, 12, 0)) := by decide +kernel
theorem xr_71_39 : X_row 71 39 = some (39, (.return_, 1), (0, 0, 0)) := by decide +kernel
theorem xr_71_40 : X_row 71 40 = some (40, (.aload_n 0, 1), (0, 0, 0)) := by decide +kernel
theorem xr_71_41 : X_row 71 41 = some (41, (.getfield 27, 3), (4, 1, 20)) := by decide +kernel
theorem xr_71_44 : X_row 71 44 = some (44, (.aload_n 0, 1), (0, 0, 0)) := by decide +kernel
theorem xr_71_45 : X_row 71 45 = some (45, (.getfield 23, 3), (4, 0, 18)) := by decide +kernel
theorem xr_71_48 : X_row 71 48 = some (48, (.invokevirtual 86, 3), (50, 20, 0)) := by decide +kernel
theorem xr_71_51 : X_row 71 51 = some (51, (.invokevirtual 115, 3), (6, 40, 0)) := by decide +kernel
theorem xr_71_54 : X_row 71 54 = some (54, (.iconst (-1), 1), (0, 0, 0)) := by decide +kernel
theorem xr_71_55 : X_row 71 55 = some (55, (.if_icmp .eq 16, 3), (0, 0, 0)) := by decide +kernel
theorem xr_71_58 : X_row 71 58 = some (58, (.aload_n 0, 1), (0, 0, 0)) := by decide +kernel
theorem xr_71_59 : X_row 71 59 = some (59, (.iconst 3, 1), (0, 0, 0)) := by decide +kernel
theorem xr_71_60 : X_row 71 60 = some (60, (.aload_n 0, 1), (0, 0, 0)) := by decide +kernel
theorem xr_71_61 : X_row 71 61 = some (61, (.getfield 23, 3), (4, 0, 18)) := by decide +kernel
theorem xr_71_64 : X_row 71 64 = some (64, (.invokevirtual 73, 3), (49, 14, 0)) := by decide +kernel
theorem xr_71_67 : X_row 71 67 = some (67, (.invokevirtual 76, 3), (66, 16, 0)) := by decide +kernel
theorem xr_71_70 : X_row 71 70 = some (70, (.return_, 1), (0, 0, 0)) := by decide +kernel
theorem xr_71_71 : X_row 71 71 = some (71, (.aload_n 0, 1), (0, 0, 0)) := by decide +kernel
theorem xr_71_72 : X_row 71 72 = some (72, (.getfield 23, 3), (4, 0, 18)) := by decide +kernel
theorem xr_71_75 : X_row 71 75 = some (75, (.invokevirtual 86, 3), (50, 20, 0)) := by decide +kernel
theorem xr_71_78 : X_row 71 78 = some (78, (.lstore_n 1, 1), (0, 0, 0)) := by decide +kernel
theorem xr_71_79 : X_row 71 79 = some (79, (.iconst 0, 1), (0, 0, 0)) := by decide +kernel
theorem xr_71_80 : X_row 71 80 = some (80, (.istore_n 3, 1), (0, 0, 0)) := by decide +kernel
theorem xr_71_81 : X_row 71 81 = some (81, (.aload_n 0, 1), (0, 0, 0)) := by decide +kernel
theorem xr_71_82 : X_row 71 82 = some (82, (.getfield 23, 3), (4, 0, 18)) := by decide +kernel
theorem xr_71_85 : X_row 71 85 = some (85, (.invokevirtual 80, 3), (52, 18, 0)) := by decide +kernel
theorem xr_71_88 : X_row 71 88 = some (88, (.aload_n 0, 1), (0, 0, 0)) := by decide +kernel
theorem xr_71_89 : X_row 71 89 = some (89, (.getfield 23, 3), (4, 0, 18)) := by decide +kernel
theorem xr_71_92 : X_row 71 92 = some (92, (.ldc2_w 118, 3), (504363246962, 671, 0)) := by decide +kernel
theorem xr_71_95 : X_row 71 95 = some (95, (.invokevirtual 45, 3), (51, 8, 0)) := by decide +kernel
theorem xr_71_98 : X_row 71 98 = some (98, (.ifCond .eq 15, 3), (0, 0, 0)) := by decide +kernel
theorem xr_71_101 : X_row 71 101 = some (101, (.aload_n 0, 1), (0, 0, 0)) := by decide +kernel
theorem xr_71_102 : X_row 71 102 = some (102, (.getfield 23, 3), (4, 0, 18)) := by decide +kernel
theorem xr_71_105 : X_row 71 105 = some (105, (.invokevirtual 80, 3), (52, 18, 0)) := by decide +kernel
theorem xr_71_108 : X_row 71 108 = some (108, (.aload_n 0, 1), (0, 0, 0)) := by decide +kernel
theorem xr_71_109 : X_row 71 109 = some (109, (.invokevirtual 120, 3), (73, 42, 0)) := by decide +kernel
theorem xr_71_112 : X_row 71 112 = some (112, (.istore_n 3, 1), (0, 0, 0)) := by decide +kernel
theorem xr_71_113 : X_row 71 113 = some (113, (.iload_n 3, 1), (0, 0, 0)) := by decide +kernel
theorem xr_71_114 : X_row 71 114 = some (114, (.iconst (-1), 1), (0, 0, 0)) := by decide +kernel
theorem xr_71_115 : X_row 71 115 = some (115, (.if_icmp .eq 21, 3), (0, 0, 0)) := by decide +kernel
theorem xr_71_118 : X_row 71 118 = some (118, (.aload_n 0, 1), (0, 0, 0)) := by decide +kernel
theorem xr_71_119 : X_row 71 119 = some (119, (.bipush 59, 2), (0, 0, 0)) := by decide +kernel
theorem xr_71_121 : X_row 71 121 = some (121, (.invokevirtual 98, 3), (68, 26, 0)) := by decide +kernel
theorem xr_71_124 : X_row 71 124 = some (124, (.ifCond .eq 12, 3), (0, 0, 0)) := by decide +kernel
theorem xr_71_127 : X_row 71 127 = some (127, (.aload_n 0, 1), (0, 0, 0)) := by decide +kernel
theorem xr_71_128 : X_row 71 128 = some (128, (.getfield 27, 3), (4, 1, 20)) := by decide +kernel
theorem xr_71_131 : X_row 71 131 = some (131, (.lload_n 1, 1), (0, 0, 0)) := by decide +kernel
theorem xr_71_132 : X_row 71 132 = some (132, (.iload_n 3, 1), (0, 0, 0)) := by decide +kernel
theorem xr_71_133 : X_row 71 133 = some (133, (.invokevirtual 123, 3), (9, 44, 0)) := by decide +kernel
theorem xr_71_136 : X_row 71 136 = some (136, (.return_, 1), (0, 0, 0)) := by decide +kernel
theorem xn_70 : X_nL 70 = 4 := by decide +kernel
theorem xf_70 : X_na 70 = 0 ∧ X_ci 70 = 4 ∧ X_rt 70 = none := by decide +kernel
theorem xn_71 : X_nL 71 = 4 := by decide +kernel
theorem xf_71 : X_na 71 = 0 ∧ X_ci 71 = 4 ∧ X_rt 71 = none := by decide +kernel
theorem c_parseTighter (sc : X_Sc) (S : X_S) (B : Nat) (fp at_ n : Int) (so pl : Int → Int) (ct : Int → Int64) (cur rc kc wc : Int) (rn : Int → Int64) (lo : Int → Int) (kn : Int → Int64) (ab : Int → Int) (D : Int → Nat → Int → Int) (W : Int → Int → Int64)  (hB : 4 ≤ B ∧ B + 246 ≤ 496) (hn : n ≤ 2001) (hso : ∀ i, 0 ≤ i → i < n → 0 ≤ so i ∧ so i ≤ 255) (hK : C_K S B 0 fp at_ n so pl ct (cur, rc, kc, wc, rn, lo, kn, ab, D, W))  : X_T sc 70 (0, [(0, .ref 496)], [], S) (fun v S' => (∃ K, sp_tight n so ct (cur, rc, kc, wc, rn, lo, kn, ab, D, W) = some K ∧ ∃ fp', C_K S' B 0 fp' at_ n so pl ct K ∧ X_Fr (fun q => q = 496 ∨ q = 497 ∨ (B ≤ q ∧ q < B + 246)) S S') ∨ (sp_tight n so ct (cur, rc, kc, wc, rn, lo, kn, ab, D, W) = none ∧ ∃ fl' fp' K, (¬ fl' = 0 ∧ 0 ≤ fl' ∧ fl' ≤ 5) ∧ C_K S' B fl' fp' at_ n so pl ct K ∧ X_Fr (fun q => q = 496 ∨ q = 497 ∨ (B ≤ q ∧ q < B + 246)) S S')) := by
  obtain ⟨hp, hx, hb, hs, hcu⟩ := id hK
  simp only at hx hb hs hcu
  obtain ⟨hb0, hb1, hb2, hb3, hb4, ⟨f, hb5, hf⟩, ⟨hrc, hrcb⟩, ⟨hkc, hkcb⟩, ⟨hwc, hwcb⟩⟩ := id hb
  refine X_QI (fun Q hQ => ?_)
  refine T_p xr_70_0 xn_70 (pc' := 1) (ls' := [(0, .ref 496)]) (st' := [.ref 496]) rfl ?_
  refine T_get xr_70_1 hp rfl (v := .ref 497) rfl (pc' := 4) rfl ?_
  refine T_cv (S := S) (q := 497) xr_70_4 xf_52.1 xf_52.2.1 xn_52 (as := []) (r := []) rfl hx.1 (Nat.le_of_ble_eq_true rfl) (Nat.le_of_ble_eq_true rfl) (pc' := 7) rfl (ls' := [(0, .ref 497)]) rfl ?_
  refine T_mono (c_advance sc S at_ n cur so pl ct ⟨hx.1, hx.2.1, hx.2.2.1, hx.2.2.2⟩ (by omega)) (fun v1044 S1045 h1043 => ?_)
  obtain ⟨h1046, h1048, h1047⟩ := h1043
  rw [h1046]
  show X_T sc 70 (7, [(0, .ref 496)], [], S1045) _
  have hv1049 := X_av_r (n := n) (c := cur) (by omega)
  refine T_p xr_70_7 xn_70 (pc' := 8) (ls' := [(0, .ref 496)]) (st' := [.ref 496]) rfl ?_
  have h1050 := (h1047.1 496 (by omega)).trans (hp)
  refine T_cv (S := S1045) (q := 496) xr_70_8 xf_72.1 xf_72.2.1 xn_72 (as := []) (r := []) rfl h1050 (Nat.le_of_ble_eq_true rfl) (Nat.le_of_ble_eq_true rfl) (pc' := 11) rfl (ls' := [(0, .ref 496)]) rfl ?_
  have h1051 := (h1047.1 498 (by omega)).trans (hx.2.1)
  have h1052 := (h1047.1 499 (by omega)).trans (hx.2.2.1)
  have h1053 := (h1047.1 500 (by omega)).trans (hx.2.2.2)
  have h1054 := (h1047.1 B (by omega)).trans (hb0)
  have h1055 := (h1047.1 (B + 1) (by omega)).trans (hb1)
  have h1061 := (h1047.1 (B + 2) (by omega)).trans (hb2)
  have h1062 := (h1047.1 (B + 3) (by omega)).trans (hb3)
  have h1063 := (h1047.1 (B + 4) (by omega)).trans (hb4)
  have h1064 := (h1047.1 (B + 5) (by omega)).trans (hb5)
  have hb1065 : C_bk S1045 B rc kc wc rn lo kn ab := ⟨h1054, h1055, h1061, h1062, h1063, ⟨f, h1064, hf⟩, ⟨by omega, by omega⟩, ⟨by omega, by omega⟩, ⟨by omega, by omega⟩⟩
  refine T_mono (c_passRank sc S1045 B 0 fp at_ n (X_av n cur) so pl ct rc kc wc rn lo kn ab h1050 ⟨h1048, h1051, h1052, h1053⟩ (by omega) hso hB hb1065) (fun v1067 S1068 h1069 => ?_)
  rcases h1069 with ⟨h1056, h1057, h1058, h1059, hp1070, hl1071, hf1072⟩ | ⟨h1056, h1060, ⟨fl1073, fp1074, hn1075, hp1070⟩, hl1071, hf1072⟩
  · skip
    rw [h1056]
    have hv1066 := X_av_r (n := n) (c := (X_av n cur)) (by omega)
    show X_T sc 70 (11, [(0, .ref 496)], [.int (iI (X_ix rn rc (ct (X_av n cur))))], S1068) _
    refine T_p xr_70_11 xn_70 (pc' := 12) (ls' := [(1, .int (iI (X_ix rn rc (ct (X_av n cur))))), (0, .ref 496)]) (st' := []) rfl ?_
    refine T_p xr_70_12 xn_70 (pc' := 13) (ls' := [(1, .int (iI (X_ix rn rc (ct (X_av n cur))))), (0, .ref 496)]) (st' := [.int (iI (X_ix rn rc (ct (X_av n cur))))]) rfl ?_
    refine T_p xr_70_13 xn_70 (pc' := 14) (ls' := [(1, .int (iI (X_ix rn rc (ct (X_av n cur))))), (0, .ref 496)]) (st' := [.int (iI (-1)), .int (iI (X_ix rn rc (ct (X_av n cur))))]) rfl ?_
    refine T_zicmp_ne xr_70_14 (t := 18) (pc' := 17) rfl rfl (fun c1076 => ?_) (fun c1076 => ?_)
    · skip
      have c1076 : ¬ (X_ix rn rc (ct (X_av n cur))) = (-1) := c1076
      refine T_p xr_70_18 xn_70 (pc' := 19) (ls' := [(1, .int (iI (X_ix rn rc (ct (X_av n cur))))), (0, .ref 496)]) (st' := [.ref 496]) rfl ?_
      refine T_get xr_70_19 hp1070 rfl (v := .ref 497) rfl (pc' := 22) rfl ?_
      refine T_cv (S := S1068) (q := 497) xr_70_22 xf_49.1 xf_49.2.1 xn_49 (as := []) (r := []) rfl hl1071 (Nat.le_of_ble_eq_true rfl) (Nat.le_of_ble_eq_true rfl) (pc' := 25) rfl (ls' := [(0, .ref 497)]) rfl ?_
      have h1077 := (hf1072.1 498 (by omega)).trans (h1051)
      have h1078 := (hf1072.1 499 (by omega)).trans (h1052)
      have h1079 := (hf1072.1 500 (by omega)).trans (h1053)
      refine T_mono (c_place sc S1068 at_ n (X_av n (X_av n cur)) so pl ct ⟨hl1071, h1077, h1078, h1079⟩ (by omega)) (fun v1081 S1082 h1080 => ?_)
      obtain ⟨h1083, h1084⟩ := h1080
      rw [h1083, h1084]
      show X_T sc 70 (25, [(1, .int (iI (X_ix rn rc (ct (X_av n cur))))), (0, .ref 496)], [.int (iI (pl (X_av n (X_av n cur))))], S1068) _
      refine T_p xr_70_25 xn_70 (pc' := 26) (ls' := [(2, .int (iI (pl (X_av n (X_av n cur))))), (1, .int (iI (X_ix rn rc (ct (X_av n cur))))), (0, .ref 496)]) (st' := []) rfl ?_
      refine T_p xr_70_26 xn_70 (pc' := 27) (ls' := [(2, .int (iI (pl (X_av n (X_av n cur))))), (1, .int (iI (X_ix rn rc (ct (X_av n cur))))), (0, .ref 496)]) (st' := [.ref 496]) rfl ?_
      refine T_cv (S := S1068) (q := 496) xr_70_27 xf_72.1 xf_72.2.1 xn_72 (as := []) (r := []) rfl hp1070 (Nat.le_of_ble_eq_true rfl) (Nat.le_of_ble_eq_true rfl) (pc' := 30) rfl (ls' := [(0, .ref 496)]) rfl ?_
      have h1085 := (hf1072.1 B (by omega)).trans (h1054)
      have h1086 := (hf1072.1 (B + 1) (by omega)).trans (h1055)
      have h1092 := (hf1072.1 (B + 2) (by omega)).trans (h1061)
      have h1093 := (hf1072.1 (B + 3) (by omega)).trans (h1062)
      have h1094 := (hf1072.1 (B + 4) (by omega)).trans (h1063)
      have h1095 := (hf1072.1 (B + 5) (by omega)).trans (h1064)
      have hb1096 : C_bk S1068 B rc kc wc rn lo kn ab := ⟨h1085, h1086, h1092, h1093, h1094, ⟨f, h1095, hf⟩, ⟨by omega, by omega⟩, ⟨by omega, by omega⟩, ⟨by omega, by omega⟩⟩
      refine T_mono (c_passRank sc S1068 B 0 fp at_ n (X_av n (X_av n cur)) so pl ct rc kc wc rn lo kn ab hp1070 ⟨hl1071, h1077, h1078, h1079⟩ (by omega) hso hB hb1096) (fun v1098 S1099 h1100 => ?_)
      rcases h1100 with ⟨h1087, h1088, h1089, h1090, hp1101, hl1102, hf1103⟩ | ⟨h1087, h1091, ⟨fl1104, fp1105, hn1106, hp1101⟩, hl1102, hf1103⟩
      · skip
        rw [h1087]
        have hv1097 := X_av_r (n := n) (c := (X_av n (X_av n cur))) (by omega)
        show X_T sc 70 (30, [(2, .int (iI (pl (X_av n (X_av n cur))))), (1, .int (iI (X_ix rn rc (ct (X_av n cur))))), (0, .ref 496)], [.int (iI (X_ix rn rc (ct (X_av n (X_av n cur)))))], S1099) _
        refine T_p xr_70_30 xn_70 (pc' := 31) (ls' := [(3, .int (iI (X_ix rn rc (ct (X_av n (X_av n cur)))))), (2, .int (iI (pl (X_av n (X_av n cur))))), (1, .int (iI (X_ix rn rc (ct (X_av n cur))))), (0, .ref 496)]) (st' := []) rfl ?_
        refine T_p xr_70_31 xn_70 (pc' := 32) (ls' := [(3, .int (iI (X_ix rn rc (ct (X_av n (X_av n cur)))))), (2, .int (iI (pl (X_av n (X_av n cur))))), (1, .int (iI (X_ix rn rc (ct (X_av n cur))))), (0, .ref 496)]) (st' := [.int (iI (X_ix rn rc (ct (X_av n (X_av n cur)))))]) rfl ?_
        refine T_p xr_70_32 xn_70 (pc' := 33) (ls' := [(3, .int (iI (X_ix rn rc (ct (X_av n (X_av n cur)))))), (2, .int (iI (pl (X_av n (X_av n cur))))), (1, .int (iI (X_ix rn rc (ct (X_av n cur))))), (0, .ref 496)]) (st' := [.int (iI (-1)), .int (iI (X_ix rn rc (ct (X_av n (X_av n cur)))))]) rfl ?_
        refine T_zicmp_ne xr_70_33 (t := 37) (pc' := 36) rfl rfl (fun c1107 => ?_) (fun c1107 => ?_)
        · skip
          have c1107 : ¬ (X_ix rn rc (ct (X_av n (X_av n cur)))) = (-1) := c1107
          refine T_p xr_70_37 xn_70 (pc' := 38) (ls' := [(3, .int (iI (X_ix rn rc (ct (X_av n (X_av n cur)))))), (2, .int (iI (pl (X_av n (X_av n cur))))), (1, .int (iI (X_ix rn rc (ct (X_av n cur))))), (0, .ref 496)]) (st' := [.int (iI (X_ix rn rc (ct (X_av n cur))))]) rfl ?_
          refine T_p xr_70_38 xn_70 (pc' := 39) (ls' := [(3, .int (iI (X_ix rn rc (ct (X_av n (X_av n cur)))))), (2, .int (iI (pl (X_av n (X_av n cur))))), (1, .int (iI (X_ix rn rc (ct (X_av n cur))))), (0, .ref 496)]) (st' := [.int (iI (X_ix rn rc (ct (X_av n (X_av n cur))))), .int (iI (X_ix rn rc (ct (X_av n cur))))]) rfl ?_
          refine T_zicmp_eq xr_70_39 (t := 54) (pc' := 42) rfl rfl (fun c1108 => ?_) (fun c1108 => ?_)
          · skip
            have c1108 : (X_ix rn rc (ct (X_av n cur))) = (X_ix rn rc (ct (X_av n (X_av n cur)))) := c1108
            refine T_p xr_70_54 xn_70 (pc' := 55) (ls' := [(3, .int (iI (X_ix rn rc (ct (X_av n (X_av n cur)))))), (2, .int (iI (pl (X_av n (X_av n cur))))), (1, .int (iI (X_ix rn rc (ct (X_av n cur))))), (0, .ref 496)]) (st' := [.ref 496]) rfl ?_
            refine T_p xr_70_55 xn_70 (pc' := 56) (ls' := [(3, .int (iI (X_ix rn rc (ct (X_av n (X_av n cur)))))), (2, .int (iI (pl (X_av n (X_av n cur))))), (1, .int (iI (X_ix rn rc (ct (X_av n cur))))), (0, .ref 496)]) (st' := [.int (iI 4), .ref 496]) rfl ?_
            refine T_p xr_70_56 xn_70 (pc' := 57) (ls' := [(3, .int (iI (X_ix rn rc (ct (X_av n (X_av n cur)))))), (2, .int (iI (pl (X_av n (X_av n cur))))), (1, .int (iI (X_ix rn rc (ct (X_av n cur))))), (0, .ref 496)]) (st' := [.int (iI (pl (X_av n (X_av n cur)))), .int (iI 4), .ref 496]) rfl ?_
            refine T_cv (S := S1099) (q := 496) xr_70_57 xf_66.1 xf_66.2.1 xn_66 (as := [.int (iI 4), .int (iI (pl (X_av n (X_av n cur))))]) (r := []) rfl hp1101 (Nat.le_of_ble_eq_true rfl) (Nat.le_of_ble_eq_true rfl) (pc' := 60) rfl (ls' := [(0, .ref 496), (1, .int (iI 4)), (2, .int (iI (pl (X_av n (X_av n cur)))))]) rfl ?_
            refine T_p xr_66_0 xn_66 (pc' := 1) (ls' := [(0, .ref 496), (1, .int (iI 4)), (2, .int (iI (pl (X_av n (X_av n cur)))))]) (st' := [.ref 496]) rfl ?_
            refine T_p xr_66_1 xn_66 (pc' := 2) (ls' := [(0, .ref 496), (1, .int (iI 4)), (2, .int (iI (pl (X_av n (X_av n cur)))))]) (st' := [.int (iI 4), .ref 496]) rfl ?_
            refine T_put xr_66_2 hp1101 rfl (Nat.le_of_ble_eq_true rfl) rfl (fs' := [.ref 497, .ref B, .int (iI 4), .int (iI fp)]) rfl (pc' := 5) rfl (fun S1109 h1110 n1111 e1112 => ?_)
            refine T_p xr_66_5 xn_66 (pc' := 6) (ls' := [(0, .ref 496), (1, .int (iI 4)), (2, .int (iI (pl (X_av n (X_av n cur)))))]) (st' := [.ref 496]) rfl ?_
            refine T_p xr_66_6 xn_66 (pc' := 7) (ls' := [(0, .ref 496), (1, .int (iI 4)), (2, .int (iI (pl (X_av n (X_av n cur)))))]) (st' := [.int (iI (pl (X_av n (X_av n cur)))), .ref 496]) rfl ?_
            refine T_put xr_66_7 h1110 rfl (Nat.le_of_ble_eq_true rfl) rfl (fs' := [.ref 497, .ref B, .int (iI 4), .int (iI (pl (X_av n (X_av n cur))))]) rfl (pc' := 10) rfl (fun S1113 h1114 n1115 e1116 => ?_)
            refine T_vret xr_66_10 xf_66.2.2 ?_
            show X_T sc 70 (60, [(3, .int (iI (X_ix rn rc (ct (X_av n (X_av n cur)))))), (2, .int (iI (pl (X_av n (X_av n cur))))), (1, .int (iI (X_ix rn rc (ct (X_av n cur))))), (0, .ref 496)], [], S1113) _
            refine T_vret xr_70_60 xf_70.2.2 ?_
            refine hQ _ _ ?_
            have h1117 := (n1115 B (by omega)).trans ((n1111 B (by omega)).trans ((hf1103.1 B (by omega)).trans (h1085)))
            have hs1118 : C_ws S1113 B D W := C_ws.fr (P := fun r => ¬ (B + 6 ≤ r ∧ r < B + 246)) hs ((((((X_Fr.rf).tr (X_Fr.mono ⟨h1047.1, h1047.2⟩ (fun q hq => (by omega)))).tr (X_Fr.mono ⟨hf1072.1, hf1072.2⟩ (fun q hq => (by omega)))).tr (X_Fr.mono ⟨hf1103.1, hf1103.2⟩ (fun q hq => (by omega)))).tr (X_Fr.of n1111 e1112 (by omega))).tr (X_Fr.of n1115 e1116 (by omega))) (fun k h1 h2 => by omega)
            have h1119 := (n1115 497 (by decide)).trans ((n1111 497 (by decide)).trans (hl1102))
            have h1120 := (n1115 (B + 1) (by omega)).trans ((n1111 (B + 1) (by omega)).trans ((hf1103.1 (B + 1) (by omega)).trans (h1086)))
            have h1121 := (n1115 (B + 2) (by omega)).trans ((n1111 (B + 2) (by omega)).trans ((hf1103.1 (B + 2) (by omega)).trans (h1092)))
            have h1122 := (n1115 (B + 3) (by omega)).trans ((n1111 (B + 3) (by omega)).trans ((hf1103.1 (B + 3) (by omega)).trans (h1093)))
            have h1123 := (n1115 (B + 4) (by omega)).trans ((n1111 (B + 4) (by omega)).trans ((hf1103.1 (B + 4) (by omega)).trans (h1094)))
            have h1126 := (n1115 (B + 5) (by omega)).trans ((n1111 (B + 5) (by omega)).trans ((hf1103.1 (B + 5) (by omega)).trans (h1095)))
            have h1127 := (n1115 498 (by decide)).trans ((n1111 498 (by decide)).trans ((hf1103.1 498 (by omega)).trans (h1077)))
            have h1128 := (n1115 499 (by decide)).trans ((n1111 499 (by decide)).trans ((hf1103.1 499 (by omega)).trans (h1078)))
            have h1129 := (n1115 500 (by decide)).trans ((n1111 500 (by decide)).trans ((hf1103.1 500 (by omega)).trans (h1079)))
            have hb1124 : C_bk S1113 B rc kc wc rn lo kn ab := ⟨h1117, h1120, h1121, h1122, h1123, ⟨f, h1126, hf⟩, ⟨by omega, by omega⟩, ⟨by omega, by omega⟩, ⟨by omega, by omega⟩⟩
            have hc1125 : 0 ≤ (X_av n (X_av n (X_av n cur))) ∧ (X_av n (X_av n (X_av n cur))) < n := by omega
            refine Or.inr ⟨?_, 4, pl (X_av n (X_av n cur)), (X_av n (X_av n (X_av n cur)), rc, kc, wc, rn, lo, kn, ab, D, W), by omega, ⟨h1114, ⟨h1119, h1127, h1128, h1129⟩, hb1124, hs1118, hc1125⟩, (((((X_Fr.rf).tr (X_Fr.mono ⟨h1047.1, h1047.2⟩ (fun q hq => (by omega)))).tr (X_Fr.mono ⟨hf1072.1, hf1072.2⟩ (fun q hq => (by omega)))).tr (X_Fr.mono ⟨hf1103.1, hf1103.2⟩ (fun q hq => (by omega)))).tr (X_Fr.of n1111 e1112 (by omega))).tr (X_Fr.of n1115 e1116 (by omega))⟩
            simp only [sp_tight]
            subst_vars
            (repeat (first | rw [if_pos (by assumption)] | rw [if_neg (by assumption)]))
            all_goals first | rfl | ((repeat' split) <;> first | rfl | (exfalso; omega))
          · skip
            have c1108 : ¬ ((X_ix rn rc (ct (X_av n cur))) = (X_ix rn rc (ct (X_av n (X_av n cur))))) := c1108
            refine T_p xr_70_42 xn_70 (pc' := 43) (ls' := [(3, .int (iI (X_ix rn rc (ct (X_av n (X_av n cur)))))), (2, .int (iI (pl (X_av n (X_av n cur))))), (1, .int (iI (X_ix rn rc (ct (X_av n cur))))), (0, .ref 496)]) (st' := [.ref 496]) rfl ?_
            refine T_get xr_70_43 hp1101 rfl (v := .ref B) rfl (pc' := 46) rfl ?_
            refine T_p xr_70_46 xn_70 (pc' := 47) (ls' := [(3, .int (iI (X_ix rn rc (ct (X_av n (X_av n cur)))))), (2, .int (iI (pl (X_av n (X_av n cur))))), (1, .int (iI (X_ix rn rc (ct (X_av n cur))))), (0, .ref 496)]) (st' := [.int (iI (X_ix rn rc (ct (X_av n (X_av n cur))))), .ref B]) rfl ?_
            refine T_p xr_70_47 xn_70 (pc' := 48) (ls' := [(3, .int (iI (X_ix rn rc (ct (X_av n (X_av n cur)))))), (2, .int (iI (pl (X_av n (X_av n cur))))), (1, .int (iI (X_ix rn rc (ct (X_av n cur))))), (0, .ref 496)]) (st' := [.int (iI (X_ix rn rc (ct (X_av n cur)))), .int (iI (X_ix rn rc (ct (X_av n (X_av n cur))))), .ref B]) rfl ?_
            have h1130 := (hf1103.1 B (by omega)).trans (h1085)
            refine T_cv (S := S1099) (q := B) xr_70_48 xf_11.1 xf_11.2.1 xn_11 (as := [.int (iI (X_ix rn rc (ct (X_av n (X_av n cur))))), .int (iI (X_ix rn rc (ct (X_av n cur))))]) (r := []) rfl h1130 (Nat.le_of_ble_eq_true rfl) (Nat.le_of_ble_eq_true rfl) (pc' := 51) rfl (ls' := [(0, .ref B), (1, .int (iI (X_ix rn rc (ct (X_av n (X_av n cur)))))), (2, .int (iI (X_ix rn rc (ct (X_av n cur)))))]) rfl ?_
            have h1131 := (hf1103.1 (B + 1) (by omega)).trans (h1086)
            have h1132 := (hf1103.1 (B + 2) (by omega)).trans (h1092)
            have h1133 := (hf1103.1 (B + 3) (by omega)).trans (h1093)
            have h1134 := (hf1103.1 (B + 4) (by omega)).trans (h1094)
            have h1135 := (hf1103.1 (B + 5) (by omega)).trans (h1095)
            refine T_mono (c_isTighter sc S1099 B rc kc wc rn lo kn ab (X_ix rn rc (ct (X_av n (X_av n cur)))) (X_ix rn rc (ct (X_av n cur))) ⟨h1130, h1131, h1132, h1133, h1134, ⟨f, h1135, hf⟩, ⟨by omega, by omega⟩, ⟨by omega, by omega⟩, ⟨by omega, by omega⟩⟩ (by omega)) (fun v1137 S1138 h1136 => ?_)
            obtain ⟨h1139, h1140⟩ := h1136
            rw [h1139, h1140]
            show X_T sc 70 (51, [(3, .int (iI (X_ix rn rc (ct (X_av n (X_av n cur)))))), (2, .int (iI (pl (X_av n (X_av n cur))))), (1, .int (iI (X_ix rn rc (ct (X_av n cur))))), (0, .ref 496)], [.int (iI (bI (X_bt (lo (X_ix rn rc (ct (X_av n (X_av n cur))))) (X_ix rn rc (ct (X_av n cur))))))], S1099) _
            refine T_bif_eq xr_70_51 (t := 61) (pc' := 54) rfl rfl (fun c1141 => ?_) (fun c1141 => ?_)
            · skip
              have c1141 : ¬ (X_bt (lo (X_ix rn rc (ct (X_av n (X_av n cur))))) (X_ix rn rc (ct (X_av n cur)))) := c1141
              refine T_p xr_70_61 xn_70 (pc' := 62) (ls' := [(3, .int (iI (X_ix rn rc (ct (X_av n (X_av n cur)))))), (2, .int (iI (pl (X_av n (X_av n cur))))), (1, .int (iI (X_ix rn rc (ct (X_av n cur))))), (0, .ref 496)]) (st' := [.ref 496]) rfl ?_
              refine T_get xr_70_62 hp1101 rfl (v := .ref B) rfl (pc' := 65) rfl ?_
              refine T_p xr_70_65 xn_70 (pc' := 66) (ls' := [(3, .int (iI (X_ix rn rc (ct (X_av n (X_av n cur)))))), (2, .int (iI (pl (X_av n (X_av n cur))))), (1, .int (iI (X_ix rn rc (ct (X_av n cur))))), (0, .ref 496)]) (st' := [.int (iI (X_ix rn rc (ct (X_av n cur)))), .ref B]) rfl ?_
              refine T_p xr_70_66 xn_70 (pc' := 67) (ls' := [(3, .int (iI (X_ix rn rc (ct (X_av n (X_av n cur)))))), (2, .int (iI (pl (X_av n (X_av n cur))))), (1, .int (iI (X_ix rn rc (ct (X_av n cur))))), (0, .ref 496)]) (st' := [.int (iI (X_ix rn rc (ct (X_av n (X_av n cur))))), .int (iI (X_ix rn rc (ct (X_av n cur)))), .ref B]) rfl ?_
              refine T_cv (S := S1099) (q := B) xr_70_67 xf_10.1 xf_10.2.1 xn_10 (as := [.int (iI (X_ix rn rc (ct (X_av n cur)))), .int (iI (X_ix rn rc (ct (X_av n (X_av n cur)))))]) (r := []) rfl h1130 (Nat.le_of_ble_eq_true rfl) (Nat.le_of_ble_eq_true rfl) (pc' := 70) rfl (ls' := [(0, .ref B), (1, .int (iI (X_ix rn rc (ct (X_av n cur))))), (2, .int (iI (X_ix rn rc (ct (X_av n (X_av n cur))))))]) rfl ?_
              refine T_mono (c_setTighter sc S1099 B rc kc wc rn lo kn ab (X_ix rn rc (ct (X_av n cur))) (X_ix rn rc (ct (X_av n (X_av n cur)))) ⟨h1130, h1131, h1132, h1133, h1134, ⟨f, h1135, hf⟩, ⟨by omega, by omega⟩, ⟨by omega, by omega⟩, ⟨by omega, by omega⟩⟩ (by omega) (by omega)) (fun v1142 S1143 h1144 => ?_)
              obtain ⟨h1145, hb1146, h1147⟩ := h1144
              rw [h1145]
              show X_T sc 70 (70, [(3, .int (iI (X_ix rn rc (ct (X_av n (X_av n cur)))))), (2, .int (iI (pl (X_av n (X_av n cur))))), (1, .int (iI (X_ix rn rc (ct (X_av n cur))))), (0, .ref 496)], [], S1143) _
              refine T_p xr_70_70 xn_70 (pc' := 71) (ls' := [(3, .int (iI (X_ix rn rc (ct (X_av n (X_av n cur)))))), (2, .int (iI (pl (X_av n (X_av n cur))))), (1, .int (iI (X_ix rn rc (ct (X_av n cur))))), (0, .ref 496)]) (st' := [.ref 496]) rfl ?_
              refine T_p xr_70_71 xn_70 (pc' := 73) (ls' := [(3, .int (iI (X_ix rn rc (ct (X_av n (X_av n cur)))))), (2, .int (iI (pl (X_av n (X_av n cur))))), (1, .int (iI (X_ix rn rc (ct (X_av n cur))))), (0, .ref 496)]) (st' := [.int (iI 59), .ref 496]) rfl ?_
              have h1148 := (h1147.1 496 (by omega)).trans (hp1101)
              refine T_cv (S := S1143) (q := 496) xr_70_73 xf_68.1 xf_68.2.1 xn_68 (as := [.int (iI 59)]) (r := []) rfl h1148 (Nat.le_of_ble_eq_true rfl) (Nat.le_of_ble_eq_true rfl) (pc' := 76) rfl (ls' := [(0, .ref 496), (1, .int (iI 59))]) rfl ?_
              have h1149 := (h1147.1 497 (by omega)).trans (hl1102)
              have h1150 := (h1147.1 498 (by omega)).trans ((hf1103.1 498 (by omega)).trans (h1077))
              have h1151 := (h1147.1 499 (by omega)).trans ((hf1103.1 499 (by omega)).trans (h1078))
              have h1152 := (h1147.1 500 (by omega)).trans ((hf1103.1 500 (by omega)).trans (h1079))
              refine T_mono (c_pass sc S1143 B 0 fp at_ n (X_av n (X_av n (X_av n cur))) so pl ct 59 h1148 ⟨h1149, h1150, h1151, h1152⟩ (by omega) hso (by omega)) (fun v1156 S1157 h1158 => ?_)
              rcases h1158 with ⟨hv1153, hc1154, hp1159, hl1160, hf1161⟩ | ⟨hv1153, hc1154, ⟨fl1162, fp1163, hn1164, hp1159⟩, hl1160, hf1161⟩
              · skip
                rw [hv1153]
                have hv1155 := X_av_r (n := n) (c := (X_av n (X_av n (X_av n cur)))) (by omega)
                show X_T sc 70 (76, [(3, .int (iI (X_ix rn rc (ct (X_av n (X_av n cur)))))), (2, .int (iI (pl (X_av n (X_av n cur))))), (1, .int (iI (X_ix rn rc (ct (X_av n cur))))), (0, .ref 496)], [.int (iI 1)], S1157) _
                refine T_p xr_70_76 xn_70 (pc' := 77) (ls' := [(3, .int (iI (X_ix rn rc (ct (X_av n (X_av n cur)))))), (2, .int (iI (pl (X_av n (X_av n cur))))), (1, .int (iI (X_ix rn rc (ct (X_av n cur))))), (0, .ref 496)]) (st' := []) rfl ?_
                refine T_vret xr_70_77 xf_70.2.2 ?_
                refine hQ _ _ ?_
                have h1165 := (hf1161.1 B (by omega)).trans (hb1146.1)
                have hs1166 : C_ws S1157 B D W := C_ws.fr (P := fun r => ¬ (B + 6 ≤ r ∧ r < B + 246)) hs ((((((X_Fr.rf).tr (X_Fr.mono ⟨h1047.1, h1047.2⟩ (fun q hq => (by omega)))).tr (X_Fr.mono ⟨hf1072.1, hf1072.2⟩ (fun q hq => (by omega)))).tr (X_Fr.mono ⟨hf1103.1, hf1103.2⟩ (fun q hq => (by omega)))).tr (X_Fr.mono ⟨h1147.1, h1147.2⟩ (fun q hq => (by omega)))).tr (X_Fr.mono ⟨hf1161.1, hf1161.2⟩ (fun q hq => (by omega)))) (fun k h1 h2 => by omega)
                have h1167 := (hf1161.1 (B + 1) (by omega)).trans (hb1146.2.1)
                have h1168 := (hf1161.1 (B + 2) (by omega)).trans (hb1146.2.2.1)
                have h1169 := (hf1161.1 (B + 3) (by omega)).trans (hb1146.2.2.2.1)
                have h1170 := (hf1161.1 (B + 4) (by omega)).trans (hb1146.2.2.2.2.1)
                have h1173 := (hf1161.1 (B + 5) (by omega)).trans ((h1147.1 (B + 5) (by omega)).trans (h1135))
                have h1174 := (hf1161.1 498 (by omega)).trans (h1150)
                have h1175 := (hf1161.1 499 (by omega)).trans (h1151)
                have h1176 := (hf1161.1 500 (by omega)).trans (h1152)
                have hb1171 : C_bk S1157 B rc kc wc rn (X_tf rc lo (X_ix rn rc (ct (X_av n cur))) (X_ix rn rc (ct (X_av n (X_av n cur))))) kn ab := ⟨h1165, h1167, h1168, h1169, h1170, ⟨f, h1173, hf⟩, ⟨by omega, by omega⟩, ⟨by omega, by omega⟩, ⟨by omega, by omega⟩⟩
                have hc1172 : 0 ≤ (X_av n (X_av n (X_av n (X_av n cur)))) ∧ (X_av n (X_av n (X_av n (X_av n cur)))) < n := by omega
                refine Or.inl ⟨(X_av n (X_av n (X_av n (X_av n cur))), rc, kc, wc, rn, (X_tf rc lo (X_ix rn rc (ct (X_av n cur))) (X_ix rn rc (ct (X_av n (X_av n cur))))), kn, ab, D, W), ?_, fp, ⟨hp1159, ⟨hl1160, h1174, h1175, h1176⟩, hb1171, hs1166, hc1172⟩, (((((X_Fr.rf).tr (X_Fr.mono ⟨h1047.1, h1047.2⟩ (fun q hq => (by omega)))).tr (X_Fr.mono ⟨hf1072.1, hf1072.2⟩ (fun q hq => (by omega)))).tr (X_Fr.mono ⟨hf1103.1, hf1103.2⟩ (fun q hq => (by omega)))).tr (X_Fr.mono ⟨h1147.1, h1147.2⟩ (fun q hq => (by omega)))).tr (X_Fr.mono ⟨hf1161.1, hf1161.2⟩ (fun q hq => (by omega)))⟩
                simp only [sp_tight]
                subst_vars
                (repeat (first | rw [if_pos (by assumption)] | rw [if_neg (by assumption)]))
                all_goals first | rfl | ((repeat' split) <;> first | rfl | (exfalso; omega))
              · skip
                rw [hv1153]
                show X_T sc 70 (76, [(3, .int (iI (X_ix rn rc (ct (X_av n (X_av n cur)))))), (2, .int (iI (pl (X_av n (X_av n cur))))), (1, .int (iI (X_ix rn rc (ct (X_av n cur))))), (0, .ref 496)], [.int (iI 0)], S1157) _
                refine T_p xr_70_76 xn_70 (pc' := 77) (ls' := [(3, .int (iI (X_ix rn rc (ct (X_av n (X_av n cur)))))), (2, .int (iI (pl (X_av n (X_av n cur))))), (1, .int (iI (X_ix rn rc (ct (X_av n cur))))), (0, .ref 496)]) (st' := []) rfl ?_
                refine T_vret xr_70_77 xf_70.2.2 ?_
                refine hQ _ _ ?_
                have h1177 := (hf1161.1 B (by omega)).trans (hb1146.1)
                have hs1178 : C_ws S1157 B D W := C_ws.fr (P := fun r => ¬ (B + 6 ≤ r ∧ r < B + 246)) hs ((((((X_Fr.rf).tr (X_Fr.mono ⟨h1047.1, h1047.2⟩ (fun q hq => (by omega)))).tr (X_Fr.mono ⟨hf1072.1, hf1072.2⟩ (fun q hq => (by omega)))).tr (X_Fr.mono ⟨hf1103.1, hf1103.2⟩ (fun q hq => (by omega)))).tr (X_Fr.mono ⟨h1147.1, h1147.2⟩ (fun q hq => (by omega)))).tr (X_Fr.mono ⟨hf1161.1, hf1161.2⟩ (fun q hq => (by omega)))) (fun k h1 h2 => by omega)
                have h1179 := (hf1161.1 (B + 1) (by omega)).trans (hb1146.2.1)
                have h1180 := (hf1161.1 (B + 2) (by omega)).trans (hb1146.2.2.1)
                have h1181 := (hf1161.1 (B + 3) (by omega)).trans (hb1146.2.2.2.1)
                have h1182 := (hf1161.1 (B + 4) (by omega)).trans (hb1146.2.2.2.2.1)
                have h1185 := (hf1161.1 (B + 5) (by omega)).trans ((h1147.1 (B + 5) (by omega)).trans (h1135))
                have h1186 := (hf1161.1 498 (by omega)).trans (h1150)
                have h1187 := (hf1161.1 499 (by omega)).trans (h1151)
                have h1188 := (hf1161.1 500 (by omega)).trans (h1152)
                have hb1183 : C_bk S1157 B rc kc wc rn (X_tf rc lo (X_ix rn rc (ct (X_av n cur))) (X_ix rn rc (ct (X_av n (X_av n cur))))) kn ab := ⟨h1177, h1179, h1180, h1181, h1182, ⟨f, h1185, hf⟩, ⟨by omega, by omega⟩, ⟨by omega, by omega⟩, ⟨by omega, by omega⟩⟩
                have hc1184 : 0 ≤ (X_av n (X_av n (X_av n cur))) ∧ (X_av n (X_av n (X_av n cur))) < n := by omega
                refine Or.inr ⟨?_, fl1162, fp1163, ((X_av n (X_av n (X_av n cur))), rc, kc, wc, rn, (X_tf rc lo (X_ix rn rc (ct (X_av n cur))) (X_ix rn rc (ct (X_av n (X_av n cur))))), kn, ab, D, W), by omega, ⟨hp1159, ⟨hl1160, h1186, h1187, h1188⟩, hb1183, hs1178, hc1184⟩, (((((X_Fr.rf).tr (X_Fr.mono ⟨h1047.1, h1047.2⟩ (fun q hq => (by omega)))).tr (X_Fr.mono ⟨hf1072.1, hf1072.2⟩ (fun q hq => (by omega)))).tr (X_Fr.mono ⟨hf1103.1, hf1103.2⟩ (fun q hq => (by omega)))).tr (X_Fr.mono ⟨h1147.1, h1147.2⟩ (fun q hq => (by omega)))).tr (X_Fr.mono ⟨hf1161.1, hf1161.2⟩ (fun q hq => (by omega)))⟩
                simp only [sp_tight]
                subst_vars
                (repeat (first | rw [if_pos (by assumption)] | rw [if_neg (by assumption)]))
                all_goals first | rfl | ((repeat' split) <;> first | rfl | (exfalso; omega))
            · skip
              have c1141 : (X_bt (lo (X_ix rn rc (ct (X_av n (X_av n cur))))) (X_ix rn rc (ct (X_av n cur)))) := c1141
              refine T_p xr_70_54 xn_70 (pc' := 55) (ls' := [(3, .int (iI (X_ix rn rc (ct (X_av n (X_av n cur)))))), (2, .int (iI (pl (X_av n (X_av n cur))))), (1, .int (iI (X_ix rn rc (ct (X_av n cur))))), (0, .ref 496)]) (st' := [.ref 496]) rfl ?_
              refine T_p xr_70_55 xn_70 (pc' := 56) (ls' := [(3, .int (iI (X_ix rn rc (ct (X_av n (X_av n cur)))))), (2, .int (iI (pl (X_av n (X_av n cur))))), (1, .int (iI (X_ix rn rc (ct (X_av n cur))))), (0, .ref 496)]) (st' := [.int (iI 4), .ref 496]) rfl ?_
              refine T_p xr_70_56 xn_70 (pc' := 57) (ls' := [(3, .int (iI (X_ix rn rc (ct (X_av n (X_av n cur)))))), (2, .int (iI (pl (X_av n (X_av n cur))))), (1, .int (iI (X_ix rn rc (ct (X_av n cur))))), (0, .ref 496)]) (st' := [.int (iI (pl (X_av n (X_av n cur)))), .int (iI 4), .ref 496]) rfl ?_
              refine T_cv (S := S1099) (q := 496) xr_70_57 xf_66.1 xf_66.2.1 xn_66 (as := [.int (iI 4), .int (iI (pl (X_av n (X_av n cur))))]) (r := []) rfl hp1101 (Nat.le_of_ble_eq_true rfl) (Nat.le_of_ble_eq_true rfl) (pc' := 60) rfl (ls' := [(0, .ref 496), (1, .int (iI 4)), (2, .int (iI (pl (X_av n (X_av n cur)))))]) rfl ?_
              refine T_p xr_66_0 xn_66 (pc' := 1) (ls' := [(0, .ref 496), (1, .int (iI 4)), (2, .int (iI (pl (X_av n (X_av n cur)))))]) (st' := [.ref 496]) rfl ?_
              refine T_p xr_66_1 xn_66 (pc' := 2) (ls' := [(0, .ref 496), (1, .int (iI 4)), (2, .int (iI (pl (X_av n (X_av n cur)))))]) (st' := [.int (iI 4), .ref 496]) rfl ?_
              refine T_put xr_66_2 hp1101 rfl (Nat.le_of_ble_eq_true rfl) rfl (fs' := [.ref 497, .ref B, .int (iI 4), .int (iI fp)]) rfl (pc' := 5) rfl (fun S1189 h1190 n1191 e1192 => ?_)
              refine T_p xr_66_5 xn_66 (pc' := 6) (ls' := [(0, .ref 496), (1, .int (iI 4)), (2, .int (iI (pl (X_av n (X_av n cur)))))]) (st' := [.ref 496]) rfl ?_
              refine T_p xr_66_6 xn_66 (pc' := 7) (ls' := [(0, .ref 496), (1, .int (iI 4)), (2, .int (iI (pl (X_av n (X_av n cur)))))]) (st' := [.int (iI (pl (X_av n (X_av n cur)))), .ref 496]) rfl ?_
              refine T_put xr_66_7 h1190 rfl (Nat.le_of_ble_eq_true rfl) rfl (fs' := [.ref 497, .ref B, .int (iI 4), .int (iI (pl (X_av n (X_av n cur))))]) rfl (pc' := 10) rfl (fun S1193 h1194 n1195 e1196 => ?_)
              refine T_vret xr_66_10 xf_66.2.2 ?_
              show X_T sc 70 (60, [(3, .int (iI (X_ix rn rc (ct (X_av n (X_av n cur)))))), (2, .int (iI (pl (X_av n (X_av n cur))))), (1, .int (iI (X_ix rn rc (ct (X_av n cur))))), (0, .ref 496)], [], S1193) _
              refine T_vret xr_70_60 xf_70.2.2 ?_
              refine hQ _ _ ?_
              have h1197 := (n1195 B (by omega)).trans ((n1191 B (by omega)).trans (h1130))
              have hs1198 : C_ws S1193 B D W := C_ws.fr (P := fun r => ¬ (B + 6 ≤ r ∧ r < B + 246)) hs ((((((X_Fr.rf).tr (X_Fr.mono ⟨h1047.1, h1047.2⟩ (fun q hq => (by omega)))).tr (X_Fr.mono ⟨hf1072.1, hf1072.2⟩ (fun q hq => (by omega)))).tr (X_Fr.mono ⟨hf1103.1, hf1103.2⟩ (fun q hq => (by omega)))).tr (X_Fr.of n1191 e1192 (by omega))).tr (X_Fr.of n1195 e1196 (by omega))) (fun k h1 h2 => by omega)
              have h1199 := (n1195 497 (by decide)).trans ((n1191 497 (by decide)).trans (hl1102))
              have h1200 := (n1195 (B + 1) (by omega)).trans ((n1191 (B + 1) (by omega)).trans (h1131))
              have h1201 := (n1195 (B + 2) (by omega)).trans ((n1191 (B + 2) (by omega)).trans (h1132))
              have h1202 := (n1195 (B + 3) (by omega)).trans ((n1191 (B + 3) (by omega)).trans (h1133))
              have h1203 := (n1195 (B + 4) (by omega)).trans ((n1191 (B + 4) (by omega)).trans (h1134))
              have h1206 := (n1195 (B + 5) (by omega)).trans ((n1191 (B + 5) (by omega)).trans (h1135))
              have h1207 := (n1195 498 (by decide)).trans ((n1191 498 (by decide)).trans ((hf1103.1 498 (by omega)).trans (h1077)))
              have h1208 := (n1195 499 (by decide)).trans ((n1191 499 (by decide)).trans ((hf1103.1 499 (by omega)).trans (h1078)))
              have h1209 := (n1195 500 (by decide)).trans ((n1191 500 (by decide)).trans ((hf1103.1 500 (by omega)).trans (h1079)))
              have hb1204 : C_bk S1193 B rc kc wc rn lo kn ab := ⟨h1197, h1200, h1201, h1202, h1203, ⟨f, h1206, hf⟩, ⟨by omega, by omega⟩, ⟨by omega, by omega⟩, ⟨by omega, by omega⟩⟩
              have hc1205 : 0 ≤ (X_av n (X_av n (X_av n cur))) ∧ (X_av n (X_av n (X_av n cur))) < n := by omega
              refine Or.inr ⟨?_, 4, pl (X_av n (X_av n cur)), (X_av n (X_av n (X_av n cur)), rc, kc, wc, rn, lo, kn, ab, D, W), by omega, ⟨h1194, ⟨h1199, h1207, h1208, h1209⟩, hb1204, hs1198, hc1205⟩, (((((X_Fr.rf).tr (X_Fr.mono ⟨h1047.1, h1047.2⟩ (fun q hq => (by omega)))).tr (X_Fr.mono ⟨hf1072.1, hf1072.2⟩ (fun q hq => (by omega)))).tr (X_Fr.mono ⟨hf1103.1, hf1103.2⟩ (fun q hq => (by omega)))).tr (X_Fr.of n1191 e1192 (by omega))).tr (X_Fr.of n1195 e1196 (by omega))⟩
              simp only [sp_tight]
              subst_vars
              (repeat (first | rw [if_pos (by assumption)] | rw [if_neg (by assumption)]))
              all_goals first | rfl | ((repeat' split) <;> first | rfl | (exfalso; omega))
        · skip
          have c1107 : ¬ (¬ (X_ix rn rc (ct (X_av n (X_av n cur)))) = (-1)) := c1107
          exact (show False by first | contradiction | omega).elim
      · skip
        rw [h1087]
        show X_T sc 70 (30, [(2, .int (iI (pl (X_av n (X_av n cur))))), (1, .int (iI (X_ix rn rc (ct (X_av n cur))))), (0, .ref 496)], [.int (iI (-1))], S1099) _
        refine T_p xr_70_30 xn_70 (pc' := 31) (ls' := [(3, .int (iI (-1))), (2, .int (iI (pl (X_av n (X_av n cur))))), (1, .int (iI (X_ix rn rc (ct (X_av n cur))))), (0, .ref 496)]) (st' := []) rfl ?_
        refine T_p xr_70_31 xn_70 (pc' := 32) (ls' := [(3, .int (iI (-1))), (2, .int (iI (pl (X_av n (X_av n cur))))), (1, .int (iI (X_ix rn rc (ct (X_av n cur))))), (0, .ref 496)]) (st' := [.int (iI (-1))]) rfl ?_
        refine T_p xr_70_32 xn_70 (pc' := 33) (ls' := [(3, .int (iI (-1))), (2, .int (iI (pl (X_av n (X_av n cur))))), (1, .int (iI (X_ix rn rc (ct (X_av n cur))))), (0, .ref 496)]) (st' := [.int (iI (-1)), .int (iI (-1))]) rfl ?_
        refine T_zicmp_nef xr_70_33 (t := 37) (pc' := 36) rfl rfl (by decide) ?_
        refine T_vret xr_70_36 xf_70.2.2 ?_
        refine hQ _ _ ?_
        have h1210 := (hf1103.1 B (by omega)).trans (h1085)
        have hs1211 : C_ws S1099 B D W := C_ws.fr (P := fun r => ¬ (B + 6 ≤ r ∧ r < B + 246)) hs ((((X_Fr.rf).tr (X_Fr.mono ⟨h1047.1, h1047.2⟩ (fun q hq => (by omega)))).tr (X_Fr.mono ⟨hf1072.1, hf1072.2⟩ (fun q hq => (by omega)))).tr (X_Fr.mono ⟨hf1103.1, hf1103.2⟩ (fun q hq => (by omega)))) (fun k h1 h2 => by omega)
        have h1212 := (hf1103.1 (B + 1) (by omega)).trans (h1086)
        have h1213 := (hf1103.1 (B + 2) (by omega)).trans (h1092)
        have h1214 := (hf1103.1 (B + 3) (by omega)).trans (h1093)
        have h1215 := (hf1103.1 (B + 4) (by omega)).trans (h1094)
        have h1218 := (hf1103.1 (B + 5) (by omega)).trans (h1095)
        have h1219 := (hf1103.1 498 (by omega)).trans (h1077)
        have h1220 := (hf1103.1 499 (by omega)).trans (h1078)
        have h1221 := (hf1103.1 500 (by omega)).trans (h1079)
        have hb1216 : C_bk S1099 B rc kc wc rn lo kn ab := ⟨h1210, h1212, h1213, h1214, h1215, ⟨f, h1218, hf⟩, ⟨by omega, by omega⟩, ⟨by omega, by omega⟩, ⟨by omega, by omega⟩⟩
        have hc1217 : 0 ≤ (X_av n (X_av n cur)) ∧ (X_av n (X_av n cur)) < n := by omega
        refine Or.inr ⟨?_, fl1104, fp1105, ((X_av n (X_av n cur)), rc, kc, wc, rn, lo, kn, ab, D, W), by omega, ⟨hp1101, ⟨hl1102, h1219, h1220, h1221⟩, hb1216, hs1211, hc1217⟩, (((X_Fr.rf).tr (X_Fr.mono ⟨h1047.1, h1047.2⟩ (fun q hq => (by omega)))).tr (X_Fr.mono ⟨hf1072.1, hf1072.2⟩ (fun q hq => (by omega)))).tr (X_Fr.mono ⟨hf1103.1, hf1103.2⟩ (fun q hq => (by omega)))⟩
        simp only [sp_tight]
        subst_vars
        (repeat (first | rw [if_pos (by assumption)] | rw [if_neg (by assumption)]))
        all_goals first | rfl | ((repeat' split) <;> first | rfl | (exfalso; omega))
    · skip
      have c1076 : ¬ (¬ (X_ix rn rc (ct (X_av n cur))) = (-1)) := c1076
      exact (show False by first | contradiction | omega).elim
  · skip
    rw [h1056]
    show X_T sc 70 (11, [(0, .ref 496)], [.int (iI (-1))], S1068) _
    refine T_p xr_70_11 xn_70 (pc' := 12) (ls' := [(1, .int (iI (-1))), (0, .ref 496)]) (st' := []) rfl ?_
    refine T_p xr_70_12 xn_70 (pc' := 13) (ls' := [(1, .int (iI (-1))), (0, .ref 496)]) (st' := [.int (iI (-1))]) rfl ?_
    refine T_p xr_70_13 xn_70 (pc' := 14) (ls' := [(1, .int (iI (-1))), (0, .ref 496)]) (st' := [.int (iI (-1)), .int (iI (-1))]) rfl ?_
    refine T_zicmp_nef xr_70_14 (t := 18) (pc' := 17) rfl rfl (by decide) ?_
    refine T_vret xr_70_17 xf_70.2.2 ?_
    refine hQ _ _ ?_
    have h1222 := (hf1072.1 B (by omega)).trans (h1054)
    have hs1223 : C_ws S1068 B D W := C_ws.fr (P := fun r => ¬ (B + 6 ≤ r ∧ r < B + 246)) hs (((X_Fr.rf).tr (X_Fr.mono ⟨h1047.1, h1047.2⟩ (fun q hq => (by omega)))).tr (X_Fr.mono ⟨hf1072.1, hf1072.2⟩ (fun q hq => (by omega)))) (fun k h1 h2 => by omega)
    have h1224 := (hf1072.1 (B + 1) (by omega)).trans (h1055)
    have h1225 := (hf1072.1 (B + 2) (by omega)).trans (h1061)
    have h1226 := (hf1072.1 (B + 3) (by omega)).trans (h1062)
    have h1227 := (hf1072.1 (B + 4) (by omega)).trans (h1063)
    have h1230 := (hf1072.1 (B + 5) (by omega)).trans (h1064)
    have h1231 := (hf1072.1 498 (by omega)).trans (h1051)
    have h1232 := (hf1072.1 499 (by omega)).trans (h1052)
    have h1233 := (hf1072.1 500 (by omega)).trans (h1053)
    have hb1228 : C_bk S1068 B rc kc wc rn lo kn ab := ⟨h1222, h1224, h1225, h1226, h1227, ⟨f, h1230, hf⟩, ⟨by omega, by omega⟩, ⟨by omega, by omega⟩, ⟨by omega, by omega⟩⟩
    have hc1229 : 0 ≤ (X_av n cur) ∧ (X_av n cur) < n := by omega
    refine Or.inr ⟨?_, fl1073, fp1074, ((X_av n cur), rc, kc, wc, rn, lo, kn, ab, D, W), by omega, ⟨hp1070, ⟨hl1071, h1231, h1232, h1233⟩, hb1228, hs1223, hc1229⟩, ((X_Fr.rf).tr (X_Fr.mono ⟨h1047.1, h1047.2⟩ (fun q hq => (by omega)))).tr (X_Fr.mono ⟨hf1072.1, hf1072.2⟩ (fun q hq => (by omega)))⟩
    simp only [sp_tight]
    subst_vars
    (repeat (first | rw [if_pos (by assumption)] | rw [if_neg (by assumption)]))
    all_goals first | rfl | ((repeat' split) <;> first | rfl | (exfalso; omega))
theorem c_parseKind (sc : X_Sc) (S : X_S) (B : Nat) (fp at_ n : Int) (so pl : Int → Int) (ct : Int → Int64) (cur rc kc wc : Int) (rn : Int → Int64) (lo : Int → Int) (kn : Int → Int64) (ab : Int → Int) (D : Int → Nat → Int → Int) (W : Int → Int → Int64)  (hB : 4 ≤ B ∧ B + 246 ≤ 496) (hn : n ≤ 2001) (hso : ∀ i, 0 ≤ i → i < n → 0 ≤ so i ∧ so i ≤ 255) (hK : C_K S B 0 fp at_ n so pl ct (cur, rc, kc, wc, rn, lo, kn, ab, D, W))  : X_T sc 71 (0, [(0, .ref 496)], [], S) (fun v S' => (∃ K, sp_kind n so ct (cur, rc, kc, wc, rn, lo, kn, ab, D, W) = some K ∧ ∃ fp', C_K S' B 0 fp' at_ n so pl ct K ∧ X_Fr (fun q => q = 496 ∨ q = 497 ∨ (B ≤ q ∧ q < B + 246)) S S') ∨ (sp_kind n so ct (cur, rc, kc, wc, rn, lo, kn, ab, D, W) = none ∧ ∃ fl' fp' K, (¬ fl' = 0 ∧ 0 ≤ fl' ∧ fl' ≤ 5) ∧ C_K S' B fl' fp' at_ n so pl ct K ∧ X_Fr (fun q => q = 496 ∨ q = 497 ∨ (B ≤ q ∧ q < B + 246)) S S')) := by
  obtain ⟨hp, hx, hb, hs, hcu⟩ := id hK
  simp only at hx hb hs hcu
  obtain ⟨hb0, hb1, hb2, hb3, hb4, ⟨f, hb5, hf⟩, ⟨hrc, hrcb⟩, ⟨hkc, hkcb⟩, ⟨hwc, hwcb⟩⟩ := id hb
  refine X_QI (fun Q hQ => ?_)
  refine T_p xr_71_0 xn_71 (pc' := 1) (ls' := [(0, .ref 496)]) (st' := [.ref 496]) rfl ?_
  refine T_get xr_71_1 hp rfl (v := .ref B) rfl (pc' := 4) rfl ?_
  refine T_get xr_71_4 hb0 rfl (v := .int (iI kc)) rfl (pc' := 7) rfl ?_
  refine T_p xr_71_7 xn_71 (pc' := 9) (ls' := [(0, .ref 496)]) (st' := [.int (iI 11), .int (iI kc)]) rfl ?_
  refine T_zicmp_ne xr_71_9 (t := 17) (pc' := 12) rfl rfl (fun c1234 => ?_) (fun c1234 => ?_)
  · skip
    have c1234 : ¬ kc = 11 := c1234
    refine T_p xr_71_17 xn_71 (pc' := 18) (ls' := [(0, .ref 496)]) (st' := [.ref 496]) rfl ?_
    refine T_get xr_71_18 hp rfl (v := .ref 497) rfl (pc' := 21) rfl ?_
    refine T_cv (S := S) (q := 497) xr_71_21 xf_52.1 xf_52.2.1 xn_52 (as := []) (r := []) rfl hx.1 (Nat.le_of_ble_eq_true rfl) (Nat.le_of_ble_eq_true rfl) (pc' := 24) rfl (ls' := [(0, .ref 497)]) rfl ?_
    refine T_mono (c_advance sc S at_ n cur so pl ct ⟨hx.1, hx.2.1, hx.2.2.1, hx.2.2.2⟩ (by omega)) (fun v1236 S1237 h1235 => ?_)
    obtain ⟨h1238, h1240, h1239⟩ := h1235
    rw [h1238]
    show X_T sc 71 (24, [(0, .ref 496)], [], S1237) _
    have hv1241 := X_av_r (n := n) (c := cur) (by omega)
    refine T_p xr_71_24 xn_71 (pc' := 25) (ls' := [(0, .ref 496)]) (st' := [.ref 496]) rfl ?_
    have h1242 := (h1239.1 496 (by omega)).trans (hp)
    refine T_get xr_71_25 h1242 rfl (v := .ref 497) rfl (pc' := 28) rfl ?_
    refine T_cv (S := S1237) (q := 497) xr_71_28 xf_48.1 xf_48.2.1 xn_48 (as := []) (r := []) rfl h1240 (Nat.le_of_ble_eq_true rfl) (Nat.le_of_ble_eq_true rfl) (pc' := 31) rfl (ls' := [(0, .ref 497)]) rfl ?_
    have h1243 := (h1239.1 498 (by omega)).trans (hx.2.1)
    have h1244 := (h1239.1 499 (by omega)).trans (hx.2.2.1)
    have h1245 := (h1239.1 500 (by omega)).trans (hx.2.2.2)
    refine T_mono (c_sort sc S1237 at_ n (X_av n cur) so pl ct ⟨h1240, h1243, h1244, h1245⟩ (by omega)) (fun v1247 S1248 h1246 => ?_)
    obtain ⟨h1249, h1250⟩ := h1246
    rw [h1249, h1250]
    show X_T sc 71 (31, [(0, .ref 496)], [.int (iI (so (X_av n cur)))], S1237) _
    have hs1251 := hso (X_av n cur) (by omega) (by omega)
    refine T_p xr_71_31 xn_71 (pc' := 32) (ls' := [(0, .ref 496)]) (st' := [.int (iI 2), .int (iI (so (X_av n cur)))]) rfl ?_
    refine T_zicmp_eq xr_71_32 (t := 40) (pc' := 35) rfl rfl (fun c1252 => ?_) (fun c1252 => ?_)
    · skip
      have c1252 : (so (X_av n cur)) = 2 := c1252
      refine T_p xr_71_40 xn_71 (pc' := 41) (ls' := [(0, .ref 496)]) (st' := [.ref 496]) rfl ?_
      refine T_get xr_71_41 h1242 rfl (v := .ref B) rfl (pc' := 44) rfl ?_
      refine T_p xr_71_44 xn_71 (pc' := 45) (ls' := [(0, .ref 496)]) (st' := [.ref 496, .ref B]) rfl ?_
      refine T_get xr_71_45 h1242 rfl (v := .ref 497) rfl (pc' := 48) rfl ?_
      refine T_cv (S := S1237) (q := 497) xr_71_48 xf_50.1 xf_50.2.1 xn_50 (as := []) (r := [.ref B]) rfl h1240 (Nat.le_of_ble_eq_true rfl) (Nat.le_of_ble_eq_true rfl) (pc' := 51) rfl (ls' := [(0, .ref 497)]) rfl ?_
      refine T_mono (c_content sc S1237 at_ n (X_av n cur) so pl ct ⟨h1240, h1243, h1244, h1245⟩ (by omega)) (fun v1254 S1255 h1253 => ?_)
      obtain ⟨h1256, h1257⟩ := h1253
      rw [h1256, h1257]
      show X_T sc 71 (51, [(0, .ref 496)], [.long (ct (X_av n cur)), .ref B], S1237) _
      have h1258 := (h1239.1 B (by omega)).trans (hb0)
      refine T_cv (S := S1237) (q := B) xr_71_51 xf_6.1 xf_6.2.1 xn_6 (as := [.long (ct (X_av n cur))]) (r := []) rfl h1258 (Nat.le_of_ble_eq_true rfl) (Nat.le_of_ble_eq_true rfl) (pc' := 54) rfl (ls' := [(0, .ref B), (1, .long (ct (X_av n cur)))]) rfl ?_
      have h1266 := (h1239.1 (B + 1) (by omega)).trans (hb1)
      have h1267 := (h1239.1 (B + 2) (by omega)).trans (hb2)
      have h1268 := (h1239.1 (B + 3) (by omega)).trans (hb3)
      have h1269 := (h1239.1 (B + 4) (by omega)).trans (hb4)
      have h1270 := (h1239.1 (B + 5) (by omega)).trans (hb5)
      refine T_mono (c_kindNamed sc S1237 B rc kc wc rn lo kn ab (ct (X_av n cur)) ⟨h1258, h1266, h1267, h1268, h1269, ⟨f, h1270, hf⟩, ⟨by omega, by omega⟩, ⟨by omega, by omega⟩, ⟨by omega, by omega⟩⟩) (fun v1259 S1260 h1261 => ?_)
      obtain ⟨r1262, h1263, hx1264, h1265⟩ := h1261
      rw [h1263, h1265]
      have hr1271 := X_Ix_r (by omega) hx1264
      have hq1272 := X_ix_e hx1264
      show X_T sc 71 (54, [(0, .ref 496)], [.int (iI r1262)], S1237) _
      refine T_p xr_71_54 xn_71 (pc' := 55) (ls' := [(0, .ref 496)]) (st' := [.int (iI (-1)), .int (iI r1262)]) rfl ?_
      refine T_zicmp_eq xr_71_55 (t := 71) (pc' := 58) rfl rfl (fun c1273 => ?_) (fun c1273 => ?_)
      · skip
        have c1273 : r1262 = (-1) := c1273
        refine T_p xr_71_71 xn_71 (pc' := 72) (ls' := [(0, .ref 496)]) (st' := [.ref 496]) rfl ?_
        refine T_get xr_71_72 h1242 rfl (v := .ref 497) rfl (pc' := 75) rfl ?_
        refine T_cv (S := S1237) (q := 497) xr_71_75 xf_50.1 xf_50.2.1 xn_50 (as := []) (r := []) rfl h1240 (Nat.le_of_ble_eq_true rfl) (Nat.le_of_ble_eq_true rfl) (pc' := 78) rfl (ls' := [(0, .ref 497)]) rfl ?_
        refine T_mono (c_content sc S1237 at_ n (X_av n cur) so pl ct ⟨h1240, h1243, h1244, h1245⟩ (by omega)) (fun v1275 S1276 h1274 => ?_)
        obtain ⟨h1277, h1278⟩ := h1274
        rw [h1277, h1278]
        show X_T sc 71 (78, [(0, .ref 496)], [.long (ct (X_av n cur))], S1237) _
        refine T_p xr_71_78 xn_71 (pc' := 79) (ls' := [(1, .long (ct (X_av n cur))), (0, .ref 496)]) (st' := []) rfl ?_
        refine T_p xr_71_79 xn_71 (pc' := 80) (ls' := [(1, .long (ct (X_av n cur))), (0, .ref 496)]) (st' := [.int (iI 0)]) rfl ?_
        refine T_p xr_71_80 xn_71 (pc' := 81) (ls' := [(3, .int (iI 0)), (1, .long (ct (X_av n cur))), (0, .ref 496)]) (st' := []) rfl ?_
        refine T_p xr_71_81 xn_71 (pc' := 82) (ls' := [(3, .int (iI 0)), (1, .long (ct (X_av n cur))), (0, .ref 496)]) (st' := [.ref 496]) rfl ?_
        refine T_get xr_71_82 h1242 rfl (v := .ref 497) rfl (pc' := 85) rfl ?_
        refine T_cv (S := S1237) (q := 497) xr_71_85 xf_52.1 xf_52.2.1 xn_52 (as := []) (r := []) rfl h1240 (Nat.le_of_ble_eq_true rfl) (Nat.le_of_ble_eq_true rfl) (pc' := 88) rfl (ls' := [(0, .ref 497)]) rfl ?_
        refine T_mono (c_advance sc S1237 at_ n (X_av n cur) so pl ct ⟨h1240, h1243, h1244, h1245⟩ (by omega)) (fun v1280 S1281 h1279 => ?_)
        obtain ⟨h1282, h1284, h1283⟩ := h1279
        rw [h1282]
        show X_T sc 71 (88, [(3, .int (iI 0)), (1, .long (ct (X_av n cur))), (0, .ref 496)], [], S1281) _
        have hv1285 := X_av_r (n := n) (c := (X_av n cur)) (by omega)
        refine T_p xr_71_88 xn_71 (pc' := 89) (ls' := [(3, .int (iI 0)), (1, .long (ct (X_av n cur))), (0, .ref 496)]) (st' := [.ref 496]) rfl ?_
        have h1286 := (h1283.1 496 (by omega)).trans (h1242)
        refine T_get xr_71_89 h1286 rfl (v := .ref 497) rfl (pc' := 92) rfl ?_
        refine T_p xr_71_92 xn_71 (pc' := 95) (ls' := [(3, .int (iI 0)), (1, .long (ct (X_av n cur))), (0, .ref 496)]) (st' := [.long (Int64.ofNat 504363246962), .ref 497]) rfl ?_
        refine T_cv (S := S1281) (q := 497) xr_71_95 xf_51.1 xf_51.2.1 xn_51 (as := [.long (Int64.ofNat 504363246962)]) (r := []) rfl h1284 (Nat.le_of_ble_eq_true rfl) (Nat.le_of_ble_eq_true rfl) (pc' := 98) rfl (ls' := [(0, .ref 497), (1, .long (Int64.ofNat 504363246962))]) rfl ?_
        have h1287 := (h1283.1 498 (by omega)).trans (h1243)
        have h1288 := (h1283.1 499 (by omega)).trans (h1244)
        have h1289 := (h1283.1 500 (by omega)).trans (h1245)
        refine T_mono (c_isKeyword sc S1281 at_ n (X_av n (X_av n cur)) so pl ct (Int64.ofNat 504363246962) ⟨h1284, h1287, h1288, h1289⟩ (by omega) hso) (fun v1291 S1292 h1290 => ?_)
        obtain ⟨h1293, h1294⟩ := h1290
        rw [h1293, h1294]
        show X_T sc 71 (98, [(3, .int (iI 0)), (1, .long (ct (X_av n cur))), (0, .ref 496)], [.int (iI (bI (so (X_av n (X_av n cur)) = 3 ∧ ct (X_av n (X_av n cur)) = (Int64.ofNat 504363246962))))], S1281) _
        refine T_bif_eq xr_71_98 (t := 113) (pc' := 101) rfl rfl (fun c1295 => ?_) (fun c1295 => ?_)
        · skip
          have c1295 : ¬ (so (X_av n (X_av n cur)) = 3 ∧ ct (X_av n (X_av n cur)) = (Int64.ofNat 504363246962)) := c1295
          refine T_p xr_71_113 xn_71 (pc' := 114) (ls' := [(3, .int (iI 0)), (1, .long (ct (X_av n cur))), (0, .ref 496)]) (st' := [.int (iI 0)]) rfl ?_
          refine T_p xr_71_114 xn_71 (pc' := 115) (ls' := [(3, .int (iI 0)), (1, .long (ct (X_av n cur))), (0, .ref 496)]) (st' := [.int (iI (-1)), .int (iI 0)]) rfl ?_
          refine T_zicmp_eqf xr_71_115 (t := 136) (pc' := 118) rfl rfl (by decide) ?_
          refine T_p xr_71_118 xn_71 (pc' := 119) (ls' := [(3, .int (iI 0)), (1, .long (ct (X_av n cur))), (0, .ref 496)]) (st' := [.ref 496]) rfl ?_
          refine T_p xr_71_119 xn_71 (pc' := 121) (ls' := [(3, .int (iI 0)), (1, .long (ct (X_av n cur))), (0, .ref 496)]) (st' := [.int (iI 59), .ref 496]) rfl ?_
          refine T_cv (S := S1281) (q := 496) xr_71_121 xf_68.1 xf_68.2.1 xn_68 (as := [.int (iI 59)]) (r := []) rfl h1286 (Nat.le_of_ble_eq_true rfl) (Nat.le_of_ble_eq_true rfl) (pc' := 124) rfl (ls' := [(0, .ref 496), (1, .int (iI 59))]) rfl ?_
          refine T_mono (c_pass sc S1281 B 0 fp at_ n (X_av n (X_av n cur)) so pl ct 59 h1286 ⟨h1284, h1287, h1288, h1289⟩ (by omega) hso (by omega)) (fun v1299 S1300 h1301 => ?_)
          rcases h1301 with ⟨hv1296, hc1297, hp1302, hl1303, hf1304⟩ | ⟨hv1296, hc1297, ⟨fl1305, fp1306, hn1307, hp1302⟩, hl1303, hf1304⟩
          · skip
            rw [hv1296]
            have hv1298 := X_av_r (n := n) (c := (X_av n (X_av n cur))) (by omega)
            show X_T sc 71 (124, [(3, .int (iI 0)), (1, .long (ct (X_av n cur))), (0, .ref 496)], [.int (iI 1)], S1300) _
            refine T_zif_eqf xr_71_124 (t := 136) (pc' := 127) rfl rfl (by decide) ?_
            refine T_p xr_71_127 xn_71 (pc' := 128) (ls' := [(3, .int (iI 0)), (1, .long (ct (X_av n cur))), (0, .ref 496)]) (st' := [.ref 496]) rfl ?_
            refine T_get xr_71_128 hp1302 rfl (v := .ref B) rfl (pc' := 131) rfl ?_
            refine T_p xr_71_131 xn_71 (pc' := 132) (ls' := [(3, .int (iI 0)), (1, .long (ct (X_av n cur))), (0, .ref 496)]) (st' := [.long (ct (X_av n cur)), .ref B]) rfl ?_
            refine T_p xr_71_132 xn_71 (pc' := 133) (ls' := [(3, .int (iI 0)), (1, .long (ct (X_av n cur))), (0, .ref 496)]) (st' := [.int (iI 0), .long (ct (X_av n cur)), .ref B]) rfl ?_
            have h1308 := (hf1304.1 B (by omega)).trans ((h1283.1 B (by omega)).trans (h1258))
            refine T_cv (S := S1300) (q := B) xr_71_133 xf_9.1 xf_9.2.1 xn_9 (as := [.long (ct (X_av n cur)), .int (iI 0)]) (r := []) rfl h1308 (Nat.le_of_ble_eq_true rfl) (Nat.le_of_ble_eq_true rfl) (pc' := 136) rfl (ls' := [(0, .ref B), (1, .long (ct (X_av n cur))), (3, .int (iI 0))]) rfl ?_
            have h1315 := (hf1304.1 (B + 1) (by omega)).trans ((h1283.1 (B + 1) (by omega)).trans (h1266))
            have h1316 := (hf1304.1 (B + 2) (by omega)).trans ((h1283.1 (B + 2) (by omega)).trans (h1267))
            have h1317 := (hf1304.1 (B + 3) (by omega)).trans ((h1283.1 (B + 3) (by omega)).trans (h1268))
            have h1318 := (hf1304.1 (B + 4) (by omega)).trans ((h1283.1 (B + 4) (by omega)).trans (h1269))
            have h1319 := (hf1304.1 (B + 5) (by omega)).trans ((h1283.1 (B + 5) (by omega)).trans (h1270))
            refine T_mono (c_addKind sc S1300 B rc kc wc rn lo kn ab (ct (X_av n cur)) 0 ⟨h1308, h1315, h1316, h1317, h1318, ⟨f, h1319, hf⟩, ⟨by omega, by omega⟩, ⟨by omega, by omega⟩, ⟨by omega, by omega⟩⟩ (by omega) (by omega)) (fun v1309 S1310 h1311 => ?_)
            obtain ⟨h1312, hb1313, h1314⟩ := h1311
            rw [h1312]
            show X_T sc 71 (136, [(3, .int (iI 0)), (1, .long (ct (X_av n cur))), (0, .ref 496)], [], S1310) _
            refine T_vret xr_71_136 xf_71.2.2 ?_
            refine hQ _ _ ?_
            have h1320 := (h1314.1 496 (by omega)).trans (hp1302)
            have hs1321 : C_ws S1310 B D W := C_ws.fr (P := fun r => ¬ (B + 6 ≤ r ∧ r < B + 246)) hs (((((X_Fr.rf).tr (X_Fr.mono ⟨h1239.1, h1239.2⟩ (fun q hq => (by omega)))).tr (X_Fr.mono ⟨h1283.1, h1283.2⟩ (fun q hq => (by omega)))).tr (X_Fr.mono ⟨hf1304.1, hf1304.2⟩ (fun q hq => (by omega)))).tr (X_Fr.mono ⟨h1314.1, h1314.2⟩ (fun q hq => (by omega)))) (fun k h1 h2 => by omega)
            have h1322 := (h1314.1 497 (by omega)).trans (hl1303)
            have h1325 := (h1314.1 (B + 5) (by omega)).trans (h1319)
            have h1326 := (h1314.1 498 (by omega)).trans ((hf1304.1 498 (by omega)).trans (h1287))
            have h1327 := (h1314.1 499 (by omega)).trans ((hf1304.1 499 (by omega)).trans (h1288))
            have h1328 := (h1314.1 500 (by omega)).trans ((hf1304.1 500 (by omega)).trans (h1289))
            have hb1323 : C_bk S1310 B rc (kc + 1) wc rn lo (X_ug kn kc (ct (X_av n cur))) (X_ug ab kc (X_bO (ab 0) (X_bS kc))) := ⟨hb1313.1, hb1313.2.1, hb1313.2.2.1, hb1313.2.2.2.1, hb1313.2.2.2.2.1, ⟨f, h1325, hf⟩, ⟨by omega, by omega⟩, ⟨by omega, by omega⟩, ⟨by omega, by omega⟩⟩
            have hc1324 : 0 ≤ (X_av n (X_av n (X_av n cur))) ∧ (X_av n (X_av n (X_av n cur))) < n := by omega
            refine Or.inl ⟨(X_av n (X_av n (X_av n cur)), rc, kc + 1, wc, rn, lo, (X_ug kn kc (ct (X_av n cur))), (X_ug ab kc (X_bO (ab 0) (X_bS kc))), D, W), ?_, fp, ⟨h1320, ⟨h1322, h1326, h1327, h1328⟩, hb1323, hs1321, hc1324⟩, ((((X_Fr.rf).tr (X_Fr.mono ⟨h1239.1, h1239.2⟩ (fun q hq => (by omega)))).tr (X_Fr.mono ⟨h1283.1, h1283.2⟩ (fun q hq => (by omega)))).tr (X_Fr.mono ⟨hf1304.1, hf1304.2⟩ (fun q hq => (by omega)))).tr (X_Fr.mono ⟨h1314.1, h1314.2⟩ (fun q hq => (by omega)))⟩
            simp only [sp_kind]
            subst_vars
            (repeat (first | rw [if_pos (by assumption)] | rw [if_neg (by assumption)]))
            all_goals first | rfl | ((repeat' split) <;> first | rfl | (exfalso; omega))
          · skip
            rw [hv1296]
            show X_T sc 71 (124, [(3, .int (iI 0)), (1, .long (ct (X_av n cur))), (0, .ref 496)], [.int (iI 0)], S1300) _
            refine T_zif_eqt xr_71_124 (t := 136) rfl (by decide) ?_
            refine T_vret xr_71_136 xf_71.2.2 ?_
            refine hQ _ _ ?_
            have h1329 := (hf1304.1 B (by omega)).trans ((h1283.1 B (by omega)).trans (h1258))
            have hs1330 : C_ws S1300 B D W := C_ws.fr (P := fun r => ¬ (B + 6 ≤ r ∧ r < B + 246)) hs ((((X_Fr.rf).tr (X_Fr.mono ⟨h1239.1, h1239.2⟩ (fun q hq => (by omega)))).tr (X_Fr.mono ⟨h1283.1, h1283.2⟩ (fun q hq => (by omega)))).tr (X_Fr.mono ⟨hf1304.1, hf1304.2⟩ (fun q hq => (by omega)))) (fun k h1 h2 => by omega)
            have h1331 := (hf1304.1 (B + 1) (by omega)).trans ((h1283.1 (B + 1) (by omega)).trans (h1266))
            have h1332 := (hf1304.1 (B + 2) (by omega)).trans ((h1283.1 (B + 2) (by omega)).trans (h1267))
            have h1333 := (hf1304.1 (B + 3) (by omega)).trans ((h1283.1 (B + 3) (by omega)).trans (h1268))
            have h1334 := (hf1304.1 (B + 4) (by omega)).trans ((h1283.1 (B + 4) (by omega)).trans (h1269))
            have h1337 := (hf1304.1 (B + 5) (by omega)).trans ((h1283.1 (B + 5) (by omega)).trans (h1270))
            have h1338 := (hf1304.1 498 (by omega)).trans (h1287)
            have h1339 := (hf1304.1 499 (by omega)).trans (h1288)
            have h1340 := (hf1304.1 500 (by omega)).trans (h1289)
            have hb1335 : C_bk S1300 B rc kc wc rn lo kn ab := ⟨h1329, h1331, h1332, h1333, h1334, ⟨f, h1337, hf⟩, ⟨by omega, by omega⟩, ⟨by omega, by omega⟩, ⟨by omega, by omega⟩⟩
            have hc1336 : 0 ≤ (X_av n (X_av n cur)) ∧ (X_av n (X_av n cur)) < n := by omega
            refine Or.inr ⟨?_, fl1305, fp1306, ((X_av n (X_av n cur)), rc, kc, wc, rn, lo, kn, ab, D, W), by omega, ⟨hp1302, ⟨hl1303, h1338, h1339, h1340⟩, hb1335, hs1330, hc1336⟩, (((X_Fr.rf).tr (X_Fr.mono ⟨h1239.1, h1239.2⟩ (fun q hq => (by omega)))).tr (X_Fr.mono ⟨h1283.1, h1283.2⟩ (fun q hq => (by omega)))).tr (X_Fr.mono ⟨hf1304.1, hf1304.2⟩ (fun q hq => (by omega)))⟩
            simp only [sp_kind]
            subst_vars
            (repeat (first | rw [if_pos (by assumption)] | rw [if_neg (by assumption)]))
            all_goals first | rfl | ((repeat' split) <;> first | rfl | (exfalso; omega))
        · skip
          have c1295 : (so (X_av n (X_av n cur)) = 3 ∧ ct (X_av n (X_av n cur)) = (Int64.ofNat 504363246962)) := c1295
          refine T_p xr_71_101 xn_71 (pc' := 102) (ls' := [(3, .int (iI 0)), (1, .long (ct (X_av n cur))), (0, .ref 496)]) (st' := [.ref 496]) rfl ?_
          refine T_get xr_71_102 h1286 rfl (v := .ref 497) rfl (pc' := 105) rfl ?_
          refine T_cv (S := S1281) (q := 497) xr_71_105 xf_52.1 xf_52.2.1 xn_52 (as := []) (r := []) rfl h1284 (Nat.le_of_ble_eq_true rfl) (Nat.le_of_ble_eq_true rfl) (pc' := 108) rfl (ls' := [(0, .ref 497)]) rfl ?_
          refine T_mono (c_advance sc S1281 at_ n (X_av n (X_av n cur)) so pl ct ⟨h1284, h1287, h1288, h1289⟩ (by omega)) (fun v1342 S1343 h1341 => ?_)
          obtain ⟨h1344, h1346, h1345⟩ := h1341
          rw [h1344]
          show X_T sc 71 (108, [(3, .int (iI 0)), (1, .long (ct (X_av n cur))), (0, .ref 496)], [], S1343) _
          have hv1347 := X_av_r (n := n) (c := (X_av n (X_av n cur))) (by omega)
          refine T_p xr_71_108 xn_71 (pc' := 109) (ls' := [(3, .int (iI 0)), (1, .long (ct (X_av n cur))), (0, .ref 496)]) (st' := [.ref 496]) rfl ?_
          have h1348 := (h1345.1 496 (by omega)).trans (h1286)
          refine T_cv (S := S1343) (q := 496) xr_71_109 xf_73.1 xf_73.2.1 xn_73 (as := []) (r := []) rfl h1348 (Nat.le_of_ble_eq_true rfl) (Nat.le_of_ble_eq_true rfl) (pc' := 112) rfl (ls' := [(0, .ref 496)]) rfl ?_
          have h1349 := (h1345.1 498 (by omega)).trans (h1287)
          have h1350 := (h1345.1 499 (by omega)).trans (h1288)
          have h1351 := (h1345.1 500 (by omega)).trans (h1289)
          have h1352 := (h1345.1 B (by omega)).trans ((h1283.1 B (by omega)).trans (h1258))
          have h1353 := (h1345.1 (B + 3) (by omega)).trans ((h1283.1 (B + 3) (by omega)).trans (h1268))
          have h1359 := (h1345.1 (B + 1) (by omega)).trans ((h1283.1 (B + 1) (by omega)).trans (h1266))
          have h1360 := (h1345.1 (B + 2) (by omega)).trans ((h1283.1 (B + 2) (by omega)).trans (h1267))
          have h1361 := (h1345.1 (B + 4) (by omega)).trans ((h1283.1 (B + 4) (by omega)).trans (h1269))
          have h1362 := (h1345.1 (B + 5) (by omega)).trans ((h1283.1 (B + 5) (by omega)).trans (h1270))
          have hb1363 : C_bk S1343 B rc kc wc rn lo kn ab := ⟨h1352, h1359, h1360, h1353, h1361, ⟨f, h1362, hf⟩, ⟨by omega, by omega⟩, ⟨by omega, by omega⟩, ⟨by omega, by omega⟩⟩
          refine T_mono (c_passKind sc S1343 B 0 fp at_ n (X_av n (X_av n (X_av n cur))) so pl ct rc kc wc rn lo kn ab h1348 ⟨h1346, h1349, h1350, h1351⟩ (by omega) hso hB hb1363) (fun v1365 S1366 h1367 => ?_)
          rcases h1367 with ⟨h1354, h1355, h1356, h1357, hp1368, hl1369, hf1370⟩ | ⟨h1354, h1358, ⟨fl1371, fp1372, hn1373, hp1368⟩, hl1369, hf1370⟩
          · skip
            rw [h1354]
            have hv1364 := X_av_r (n := n) (c := (X_av n (X_av n (X_av n cur)))) (by omega)
            show X_T sc 71 (112, [(3, .int (iI 0)), (1, .long (ct (X_av n cur))), (0, .ref 496)], [.int (iI (X_ix kn kc (ct (X_av n (X_av n (X_av n cur))))))], S1366) _
            refine T_p xr_71_112 xn_71 (pc' := 113) (ls' := [(3, .int (iI (X_ix kn kc (ct (X_av n (X_av n (X_av n cur))))))), (1, .long (ct (X_av n cur))), (0, .ref 496)]) (st' := []) rfl ?_
            refine T_p xr_71_113 xn_71 (pc' := 114) (ls' := [(3, .int (iI (X_ix kn kc (ct (X_av n (X_av n (X_av n cur))))))), (1, .long (ct (X_av n cur))), (0, .ref 496)]) (st' := [.int (iI (X_ix kn kc (ct (X_av n (X_av n (X_av n cur))))))]) rfl ?_
            refine T_p xr_71_114 xn_71 (pc' := 115) (ls' := [(3, .int (iI (X_ix kn kc (ct (X_av n (X_av n (X_av n cur))))))), (1, .long (ct (X_av n cur))), (0, .ref 496)]) (st' := [.int (iI (-1)), .int (iI (X_ix kn kc (ct (X_av n (X_av n (X_av n cur))))))]) rfl ?_
            refine T_zicmp_eq xr_71_115 (t := 136) (pc' := 118) rfl rfl (fun c1374 => ?_) (fun c1374 => ?_)
            · skip
              have c1374 : (X_ix kn kc (ct (X_av n (X_av n (X_av n cur))))) = (-1) := c1374
              exact (show False by first | contradiction | omega).elim
            · skip
              have c1374 : ¬ ((X_ix kn kc (ct (X_av n (X_av n (X_av n cur))))) = (-1)) := c1374
              refine T_p xr_71_118 xn_71 (pc' := 119) (ls' := [(3, .int (iI (X_ix kn kc (ct (X_av n (X_av n (X_av n cur))))))), (1, .long (ct (X_av n cur))), (0, .ref 496)]) (st' := [.ref 496]) rfl ?_
              refine T_p xr_71_119 xn_71 (pc' := 121) (ls' := [(3, .int (iI (X_ix kn kc (ct (X_av n (X_av n (X_av n cur))))))), (1, .long (ct (X_av n cur))), (0, .ref 496)]) (st' := [.int (iI 59), .ref 496]) rfl ?_
              refine T_cv (S := S1366) (q := 496) xr_71_121 xf_68.1 xf_68.2.1 xn_68 (as := [.int (iI 59)]) (r := []) rfl hp1368 (Nat.le_of_ble_eq_true rfl) (Nat.le_of_ble_eq_true rfl) (pc' := 124) rfl (ls' := [(0, .ref 496), (1, .int (iI 59))]) rfl ?_
              have h1375 := (hf1370.1 498 (by omega)).trans (h1349)
              have h1376 := (hf1370.1 499 (by omega)).trans (h1350)
              have h1377 := (hf1370.1 500 (by omega)).trans (h1351)
              refine T_mono (c_pass sc S1366 B 0 fp at_ n (X_av n (X_av n (X_av n (X_av n cur)))) so pl ct 59 hp1368 ⟨hl1369, h1375, h1376, h1377⟩ (by omega) hso (by omega)) (fun v1381 S1382 h1383 => ?_)
              rcases h1383 with ⟨hv1378, hc1379, hp1384, hl1385, hf1386⟩ | ⟨hv1378, hc1379, ⟨fl1387, fp1388, hn1389, hp1384⟩, hl1385, hf1386⟩
              · skip
                rw [hv1378]
                have hv1380 := X_av_r (n := n) (c := (X_av n (X_av n (X_av n (X_av n cur))))) (by omega)
                show X_T sc 71 (124, [(3, .int (iI (X_ix kn kc (ct (X_av n (X_av n (X_av n cur))))))), (1, .long (ct (X_av n cur))), (0, .ref 496)], [.int (iI 1)], S1382) _
                refine T_zif_eqf xr_71_124 (t := 136) (pc' := 127) rfl rfl (by decide) ?_
                refine T_p xr_71_127 xn_71 (pc' := 128) (ls' := [(3, .int (iI (X_ix kn kc (ct (X_av n (X_av n (X_av n cur))))))), (1, .long (ct (X_av n cur))), (0, .ref 496)]) (st' := [.ref 496]) rfl ?_
                refine T_get xr_71_128 hp1384 rfl (v := .ref B) rfl (pc' := 131) rfl ?_
                refine T_p xr_71_131 xn_71 (pc' := 132) (ls' := [(3, .int (iI (X_ix kn kc (ct (X_av n (X_av n (X_av n cur))))))), (1, .long (ct (X_av n cur))), (0, .ref 496)]) (st' := [.long (ct (X_av n cur)), .ref B]) rfl ?_
                refine T_p xr_71_132 xn_71 (pc' := 133) (ls' := [(3, .int (iI (X_ix kn kc (ct (X_av n (X_av n (X_av n cur))))))), (1, .long (ct (X_av n cur))), (0, .ref 496)]) (st' := [.int (iI (X_ix kn kc (ct (X_av n (X_av n (X_av n cur)))))), .long (ct (X_av n cur)), .ref B]) rfl ?_
                have h1390 := (hf1386.1 B (by omega)).trans ((hf1370.1 B (by omega)).trans (h1352))
                refine T_cv (S := S1382) (q := B) xr_71_133 xf_9.1 xf_9.2.1 xn_9 (as := [.long (ct (X_av n cur)), .int (iI (X_ix kn kc (ct (X_av n (X_av n (X_av n cur))))))]) (r := []) rfl h1390 (Nat.le_of_ble_eq_true rfl) (Nat.le_of_ble_eq_true rfl) (pc' := 136) rfl (ls' := [(0, .ref B), (1, .long (ct (X_av n cur))), (3, .int (iI (X_ix kn kc (ct (X_av n (X_av n (X_av n cur)))))))]) rfl ?_
                have h1397 := (hf1386.1 (B + 1) (by omega)).trans ((hf1370.1 (B + 1) (by omega)).trans (h1359))
                have h1398 := (hf1386.1 (B + 2) (by omega)).trans ((hf1370.1 (B + 2) (by omega)).trans (h1360))
                have h1399 := (hf1386.1 (B + 3) (by omega)).trans ((hf1370.1 (B + 3) (by omega)).trans (h1353))
                have h1400 := (hf1386.1 (B + 4) (by omega)).trans ((hf1370.1 (B + 4) (by omega)).trans (h1361))
                have h1401 := (hf1386.1 (B + 5) (by omega)).trans ((hf1370.1 (B + 5) (by omega)).trans (h1362))
                refine T_mono (c_addKind sc S1382 B rc kc wc rn lo kn ab (ct (X_av n cur)) (X_ix kn kc (ct (X_av n (X_av n (X_av n cur))))) ⟨h1390, h1397, h1398, h1399, h1400, ⟨f, h1401, hf⟩, ⟨by omega, by omega⟩, ⟨by omega, by omega⟩, ⟨by omega, by omega⟩⟩ (by omega) (by omega)) (fun v1391 S1392 h1393 => ?_)
                obtain ⟨h1394, hb1395, h1396⟩ := h1393
                rw [h1394]
                show X_T sc 71 (136, [(3, .int (iI (X_ix kn kc (ct (X_av n (X_av n (X_av n cur))))))), (1, .long (ct (X_av n cur))), (0, .ref 496)], [], S1392) _
                refine T_vret xr_71_136 xf_71.2.2 ?_
                refine hQ _ _ ?_
                have h1402 := (h1396.1 496 (by omega)).trans (hp1384)
                have hs1403 : C_ws S1392 B D W := C_ws.fr (P := fun r => ¬ (B + 6 ≤ r ∧ r < B + 246)) hs (((((((X_Fr.rf).tr (X_Fr.mono ⟨h1239.1, h1239.2⟩ (fun q hq => (by omega)))).tr (X_Fr.mono ⟨h1283.1, h1283.2⟩ (fun q hq => (by omega)))).tr (X_Fr.mono ⟨h1345.1, h1345.2⟩ (fun q hq => (by omega)))).tr (X_Fr.mono ⟨hf1370.1, hf1370.2⟩ (fun q hq => (by omega)))).tr (X_Fr.mono ⟨hf1386.1, hf1386.2⟩ (fun q hq => (by omega)))).tr (X_Fr.mono ⟨h1396.1, h1396.2⟩ (fun q hq => (by omega)))) (fun k h1 h2 => by omega)
                have h1404 := (h1396.1 497 (by omega)).trans (hl1385)
                have h1407 := (h1396.1 (B + 5) (by omega)).trans (h1401)
                have h1408 := (h1396.1 498 (by omega)).trans ((hf1386.1 498 (by omega)).trans (h1375))
                have h1409 := (h1396.1 499 (by omega)).trans ((hf1386.1 499 (by omega)).trans (h1376))
                have h1410 := (h1396.1 500 (by omega)).trans ((hf1386.1 500 (by omega)).trans (h1377))
                have hb1405 : C_bk S1392 B rc (kc + 1) wc rn lo (X_ug kn kc (ct (X_av n cur))) (X_ug ab kc (X_bO (ab (X_ix kn kc (ct (X_av n (X_av n (X_av n cur)))))) (X_bS kc))) := ⟨hb1395.1, hb1395.2.1, hb1395.2.2.1, hb1395.2.2.2.1, hb1395.2.2.2.2.1, ⟨f, h1407, hf⟩, ⟨by omega, by omega⟩, ⟨by omega, by omega⟩, ⟨by omega, by omega⟩⟩
                have hc1406 : 0 ≤ (X_av n (X_av n (X_av n (X_av n (X_av n cur))))) ∧ (X_av n (X_av n (X_av n (X_av n (X_av n cur))))) < n := by omega
                refine Or.inl ⟨(X_av n (X_av n (X_av n (X_av n (X_av n cur)))), rc, kc + 1, wc, rn, lo, (X_ug kn kc (ct (X_av n cur))), (X_ug ab kc (X_bO (ab (X_ix kn kc (ct (X_av n (X_av n (X_av n cur)))))) (X_bS kc))), D, W), ?_, fp, ⟨h1402, ⟨h1404, h1408, h1409, h1410⟩, hb1405, hs1403, hc1406⟩, ((((((X_Fr.rf).tr (X_Fr.mono ⟨h1239.1, h1239.2⟩ (fun q hq => (by omega)))).tr (X_Fr.mono ⟨h1283.1, h1283.2⟩ (fun q hq => (by omega)))).tr (X_Fr.mono ⟨h1345.1, h1345.2⟩ (fun q hq => (by omega)))).tr (X_Fr.mono ⟨hf1370.1, hf1370.2⟩ (fun q hq => (by omega)))).tr (X_Fr.mono ⟨hf1386.1, hf1386.2⟩ (fun q hq => (by omega)))).tr (X_Fr.mono ⟨h1396.1, h1396.2⟩ (fun q hq => (by omega)))⟩
                simp only [sp_kind]
                subst_vars
                (repeat (first | rw [if_pos (by assumption)] | rw [if_neg (by assumption)]))
                all_goals first | rfl | ((repeat' split) <;> first | rfl | (exfalso; omega))
              · skip
                rw [hv1378]
                show X_T sc 71 (124, [(3, .int (iI (X_ix kn kc (ct (X_av n (X_av n (X_av n cur))))))), (1, .long (ct (X_av n cur))), (0, .ref 496)], [.int (iI 0)], S1382) _
                refine T_zif_eqt xr_71_124 (t := 136) rfl (by decide) ?_
                refine T_vret xr_71_136 xf_71.2.2 ?_
                refine hQ _ _ ?_
                have h1411 := (hf1386.1 B (by omega)).trans ((hf1370.1 B (by omega)).trans (h1352))
                have hs1412 : C_ws S1382 B D W := C_ws.fr (P := fun r => ¬ (B + 6 ≤ r ∧ r < B + 246)) hs ((((((X_Fr.rf).tr (X_Fr.mono ⟨h1239.1, h1239.2⟩ (fun q hq => (by omega)))).tr (X_Fr.mono ⟨h1283.1, h1283.2⟩ (fun q hq => (by omega)))).tr (X_Fr.mono ⟨h1345.1, h1345.2⟩ (fun q hq => (by omega)))).tr (X_Fr.mono ⟨hf1370.1, hf1370.2⟩ (fun q hq => (by omega)))).tr (X_Fr.mono ⟨hf1386.1, hf1386.2⟩ (fun q hq => (by omega)))) (fun k h1 h2 => by omega)
                have h1413 := (hf1386.1 (B + 1) (by omega)).trans ((hf1370.1 (B + 1) (by omega)).trans (h1359))
                have h1414 := (hf1386.1 (B + 2) (by omega)).trans ((hf1370.1 (B + 2) (by omega)).trans (h1360))
                have h1415 := (hf1386.1 (B + 3) (by omega)).trans ((hf1370.1 (B + 3) (by omega)).trans (h1353))
                have h1416 := (hf1386.1 (B + 4) (by omega)).trans ((hf1370.1 (B + 4) (by omega)).trans (h1361))
                have h1419 := (hf1386.1 (B + 5) (by omega)).trans ((hf1370.1 (B + 5) (by omega)).trans (h1362))
                have h1420 := (hf1386.1 498 (by omega)).trans (h1375)
                have h1421 := (hf1386.1 499 (by omega)).trans (h1376)
                have h1422 := (hf1386.1 500 (by omega)).trans (h1377)
                have hb1417 : C_bk S1382 B rc kc wc rn lo kn ab := ⟨h1411, h1413, h1414, h1415, h1416, ⟨f, h1419, hf⟩, ⟨by omega, by omega⟩, ⟨by omega, by omega⟩, ⟨by omega, by omega⟩⟩
                have hc1418 : 0 ≤ (X_av n (X_av n (X_av n (X_av n cur)))) ∧ (X_av n (X_av n (X_av n (X_av n cur)))) < n := by omega
                refine Or.inr ⟨?_, fl1387, fp1388, ((X_av n (X_av n (X_av n (X_av n cur)))), rc, kc, wc, rn, lo, kn, ab, D, W), by omega, ⟨hp1384, ⟨hl1385, h1420, h1421, h1422⟩, hb1417, hs1412, hc1418⟩, (((((X_Fr.rf).tr (X_Fr.mono ⟨h1239.1, h1239.2⟩ (fun q hq => (by omega)))).tr (X_Fr.mono ⟨h1283.1, h1283.2⟩ (fun q hq => (by omega)))).tr (X_Fr.mono ⟨h1345.1, h1345.2⟩ (fun q hq => (by omega)))).tr (X_Fr.mono ⟨hf1370.1, hf1370.2⟩ (fun q hq => (by omega)))).tr (X_Fr.mono ⟨hf1386.1, hf1386.2⟩ (fun q hq => (by omega)))⟩
                simp only [sp_kind]
                subst_vars
                (repeat (first | rw [if_pos (by assumption)] | rw [if_neg (by assumption)]))
                all_goals first | rfl | ((repeat' split) <;> first | rfl | (exfalso; omega))
          · skip
            rw [h1354]
            show X_T sc 71 (112, [(3, .int (iI 0)), (1, .long (ct (X_av n cur))), (0, .ref 496)], [.int (iI (-1))], S1366) _
            refine T_p xr_71_112 xn_71 (pc' := 113) (ls' := [(3, .int (iI (-1))), (1, .long (ct (X_av n cur))), (0, .ref 496)]) (st' := []) rfl ?_
            refine T_p xr_71_113 xn_71 (pc' := 114) (ls' := [(3, .int (iI (-1))), (1, .long (ct (X_av n cur))), (0, .ref 496)]) (st' := [.int (iI (-1))]) rfl ?_
            refine T_p xr_71_114 xn_71 (pc' := 115) (ls' := [(3, .int (iI (-1))), (1, .long (ct (X_av n cur))), (0, .ref 496)]) (st' := [.int (iI (-1)), .int (iI (-1))]) rfl ?_
            refine T_zicmp_eqt xr_71_115 (t := 136) rfl (by decide) ?_
            refine T_vret xr_71_136 xf_71.2.2 ?_
            refine hQ _ _ ?_
            have h1423 := (hf1370.1 B (by omega)).trans (h1352)
            have hs1424 : C_ws S1366 B D W := C_ws.fr (P := fun r => ¬ (B + 6 ≤ r ∧ r < B + 246)) hs (((((X_Fr.rf).tr (X_Fr.mono ⟨h1239.1, h1239.2⟩ (fun q hq => (by omega)))).tr (X_Fr.mono ⟨h1283.1, h1283.2⟩ (fun q hq => (by omega)))).tr (X_Fr.mono ⟨h1345.1, h1345.2⟩ (fun q hq => (by omega)))).tr (X_Fr.mono ⟨hf1370.1, hf1370.2⟩ (fun q hq => (by omega)))) (fun k h1 h2 => by omega)
            have h1425 := (hf1370.1 (B + 1) (by omega)).trans (h1359)
            have h1426 := (hf1370.1 (B + 2) (by omega)).trans (h1360)
            have h1427 := (hf1370.1 (B + 3) (by omega)).trans (h1353)
            have h1428 := (hf1370.1 (B + 4) (by omega)).trans (h1361)
            have h1431 := (hf1370.1 (B + 5) (by omega)).trans (h1362)
            have h1432 := (hf1370.1 498 (by omega)).trans (h1349)
            have h1433 := (hf1370.1 499 (by omega)).trans (h1350)
            have h1434 := (hf1370.1 500 (by omega)).trans (h1351)
            have hb1429 : C_bk S1366 B rc kc wc rn lo kn ab := ⟨h1423, h1425, h1426, h1427, h1428, ⟨f, h1431, hf⟩, ⟨by omega, by omega⟩, ⟨by omega, by omega⟩, ⟨by omega, by omega⟩⟩
            have hc1430 : 0 ≤ (X_av n (X_av n (X_av n cur))) ∧ (X_av n (X_av n (X_av n cur))) < n := by omega
            refine Or.inr ⟨?_, fl1371, fp1372, ((X_av n (X_av n (X_av n cur))), rc, kc, wc, rn, lo, kn, ab, D, W), by omega, ⟨hp1368, ⟨hl1369, h1432, h1433, h1434⟩, hb1429, hs1424, hc1430⟩, ((((X_Fr.rf).tr (X_Fr.mono ⟨h1239.1, h1239.2⟩ (fun q hq => (by omega)))).tr (X_Fr.mono ⟨h1283.1, h1283.2⟩ (fun q hq => (by omega)))).tr (X_Fr.mono ⟨h1345.1, h1345.2⟩ (fun q hq => (by omega)))).tr (X_Fr.mono ⟨hf1370.1, hf1370.2⟩ (fun q hq => (by omega)))⟩
            simp only [sp_kind]
            subst_vars
            (repeat (first | rw [if_pos (by assumption)] | rw [if_neg (by assumption)]))
            all_goals first | rfl | ((repeat' split) <;> first | rfl | (exfalso; omega))
      · skip
        have c1273 : ¬ (r1262 = (-1)) := c1273
        refine T_p xr_71_58 xn_71 (pc' := 59) (ls' := [(0, .ref 496)]) (st' := [.ref 496]) rfl ?_
        refine T_p xr_71_59 xn_71 (pc' := 60) (ls' := [(0, .ref 496)]) (st' := [.int (iI 3), .ref 496]) rfl ?_
        refine T_p xr_71_60 xn_71 (pc' := 61) (ls' := [(0, .ref 496)]) (st' := [.ref 496, .int (iI 3), .ref 496]) rfl ?_
        refine T_get xr_71_61 h1242 rfl (v := .ref 497) rfl (pc' := 64) rfl ?_
        refine T_cv (S := S1237) (q := 497) xr_71_64 xf_49.1 xf_49.2.1 xn_49 (as := []) (r := [.int (iI 3), .ref 496]) rfl h1240 (Nat.le_of_ble_eq_true rfl) (Nat.le_of_ble_eq_true rfl) (pc' := 67) rfl (ls' := [(0, .ref 497)]) rfl ?_
        refine T_mono (c_place sc S1237 at_ n (X_av n cur) so pl ct ⟨h1240, h1243, h1244, h1245⟩ (by omega)) (fun v1436 S1437 h1435 => ?_)
        obtain ⟨h1438, h1439⟩ := h1435
        rw [h1438, h1439]
        show X_T sc 71 (67, [(0, .ref 496)], [.int (iI (pl (X_av n cur))), .int (iI 3), .ref 496], S1237) _
        refine T_cv (S := S1237) (q := 496) xr_71_67 xf_66.1 xf_66.2.1 xn_66 (as := [.int (iI 3), .int (iI (pl (X_av n cur)))]) (r := []) rfl h1242 (Nat.le_of_ble_eq_true rfl) (Nat.le_of_ble_eq_true rfl) (pc' := 70) rfl (ls' := [(0, .ref 496), (1, .int (iI 3)), (2, .int (iI (pl (X_av n cur))))]) rfl ?_
        refine T_p xr_66_0 xn_66 (pc' := 1) (ls' := [(0, .ref 496), (1, .int (iI 3)), (2, .int (iI (pl (X_av n cur))))]) (st' := [.ref 496]) rfl ?_
        refine T_p xr_66_1 xn_66 (pc' := 2) (ls' := [(0, .ref 496), (1, .int (iI 3)), (2, .int (iI (pl (X_av n cur))))]) (st' := [.int (iI 3), .ref 496]) rfl ?_
        refine T_put xr_66_2 h1242 rfl (Nat.le_of_ble_eq_true rfl) rfl (fs' := [.ref 497, .ref B, .int (iI 3), .int (iI fp)]) rfl (pc' := 5) rfl (fun S1440 h1441 n1442 e1443 => ?_)
        refine T_p xr_66_5 xn_66 (pc' := 6) (ls' := [(0, .ref 496), (1, .int (iI 3)), (2, .int (iI (pl (X_av n cur))))]) (st' := [.ref 496]) rfl ?_
        refine T_p xr_66_6 xn_66 (pc' := 7) (ls' := [(0, .ref 496), (1, .int (iI 3)), (2, .int (iI (pl (X_av n cur))))]) (st' := [.int (iI (pl (X_av n cur))), .ref 496]) rfl ?_
        refine T_put xr_66_7 h1441 rfl (Nat.le_of_ble_eq_true rfl) rfl (fs' := [.ref 497, .ref B, .int (iI 3), .int (iI (pl (X_av n cur)))]) rfl (pc' := 10) rfl (fun S1444 h1445 n1446 e1447 => ?_)
        refine T_vret xr_66_10 xf_66.2.2 ?_
        show X_T sc 71 (70, [(0, .ref 496)], [], S1444) _
        refine T_vret xr_71_70 xf_71.2.2 ?_
        refine hQ _ _ ?_
        have h1448 := (n1446 B (by omega)).trans ((n1442 B (by omega)).trans (h1258))
        have hs1449 : C_ws S1444 B D W := C_ws.fr (P := fun r => ¬ (B + 6 ≤ r ∧ r < B + 246)) hs ((((X_Fr.rf).tr (X_Fr.mono ⟨h1239.1, h1239.2⟩ (fun q hq => (by omega)))).tr (X_Fr.of n1442 e1443 (by omega))).tr (X_Fr.of n1446 e1447 (by omega))) (fun k h1 h2 => by omega)
        have h1450 := (n1446 497 (by decide)).trans ((n1442 497 (by decide)).trans (h1240))
        have h1451 := (n1446 (B + 1) (by omega)).trans ((n1442 (B + 1) (by omega)).trans (h1266))
        have h1452 := (n1446 (B + 2) (by omega)).trans ((n1442 (B + 2) (by omega)).trans (h1267))
        have h1453 := (n1446 (B + 3) (by omega)).trans ((n1442 (B + 3) (by omega)).trans (h1268))
        have h1454 := (n1446 (B + 4) (by omega)).trans ((n1442 (B + 4) (by omega)).trans (h1269))
        have h1457 := (n1446 (B + 5) (by omega)).trans ((n1442 (B + 5) (by omega)).trans (h1270))
        have h1458 := (n1446 498 (by decide)).trans ((n1442 498 (by decide)).trans (h1243))
        have h1459 := (n1446 499 (by decide)).trans ((n1442 499 (by decide)).trans (h1244))
        have h1460 := (n1446 500 (by decide)).trans ((n1442 500 (by decide)).trans (h1245))
        have hb1455 : C_bk S1444 B rc kc wc rn lo kn ab := ⟨h1448, h1451, h1452, h1453, h1454, ⟨f, h1457, hf⟩, ⟨by omega, by omega⟩, ⟨by omega, by omega⟩, ⟨by omega, by omega⟩⟩
        have hc1456 : 0 ≤ (X_av n cur) ∧ (X_av n cur) < n := by omega
        refine Or.inr ⟨?_, 3, pl (X_av n cur), (X_av n cur, rc, kc, wc, rn, lo, kn, ab, D, W), by omega, ⟨h1445, ⟨h1450, h1458, h1459, h1460⟩, hb1455, hs1449, hc1456⟩, (((X_Fr.rf).tr (X_Fr.mono ⟨h1239.1, h1239.2⟩ (fun q hq => (by omega)))).tr (X_Fr.of n1442 e1443 (by omega))).tr (X_Fr.of n1446 e1447 (by omega))⟩
        simp only [sp_kind]
        subst_vars
        (repeat (first | rw [if_pos (by assumption)] | rw [if_neg (by assumption)]))
        all_goals first | rfl | ((repeat' split) <;> first | rfl | (exfalso; omega))
    · skip
      have c1252 : ¬ ((so (X_av n cur)) = 2) := c1252
      refine T_p xr_71_35 xn_71 (pc' := 36) (ls' := [(0, .ref 496)]) (st' := [.ref 496]) rfl ?_
      refine T_cv (S := S1237) (q := 496) xr_71_36 xf_67.1 xf_67.2.1 xn_67 (as := []) (r := []) rfl h1242 (Nat.le_of_ble_eq_true rfl) (Nat.le_of_ble_eq_true rfl) (pc' := 39) rfl (ls' := [(0, .ref 496)]) rfl ?_
      refine T_mono (c_refuse sc S1237 B 0 fp at_ n (X_av n cur) so pl ct h1242 ⟨h1240, h1243, h1244, h1245⟩ (by omega) hso) (fun v1461 S1462 h1463 => ?_)
      obtain ⟨h1464, ⟨fl1465, fp1466, hn1467, hp1468⟩, hf1469⟩ := h1463
      rw [h1464]
      show X_T sc 71 (39, [(0, .ref 496)], [], S1462) _
      refine T_vret xr_71_39 xf_71.2.2 ?_
      refine hQ _ _ ?_
      have h1470 := (hf1469.1 B (by omega)).trans ((h1239.1 B (by omega)).trans (hb0))
      have hs1471 : C_ws S1462 B D W := C_ws.fr (P := fun r => ¬ (B + 6 ≤ r ∧ r < B + 246)) hs (((X_Fr.rf).tr (X_Fr.mono ⟨h1239.1, h1239.2⟩ (fun q hq => (by omega)))).tr (X_Fr.mono ⟨hf1469.1, hf1469.2⟩ (fun q hq => (by omega)))) (fun k h1 h2 => by omega)
      have h1472 := (hf1469.1 497 (by omega)).trans (h1240)
      have h1473 := (hf1469.1 (B + 1) (by omega)).trans ((h1239.1 (B + 1) (by omega)).trans (hb1))
      have h1474 := (hf1469.1 (B + 2) (by omega)).trans ((h1239.1 (B + 2) (by omega)).trans (hb2))
      have h1475 := (hf1469.1 (B + 3) (by omega)).trans ((h1239.1 (B + 3) (by omega)).trans (hb3))
      have h1476 := (hf1469.1 (B + 4) (by omega)).trans ((h1239.1 (B + 4) (by omega)).trans (hb4))
      have h1479 := (hf1469.1 (B + 5) (by omega)).trans ((h1239.1 (B + 5) (by omega)).trans (hb5))
      have h1480 := (hf1469.1 498 (by omega)).trans (h1243)
      have h1481 := (hf1469.1 499 (by omega)).trans (h1244)
      have h1482 := (hf1469.1 500 (by omega)).trans (h1245)
      have hb1477 : C_bk S1462 B rc kc wc rn lo kn ab := ⟨h1470, h1473, h1474, h1475, h1476, ⟨f, h1479, hf⟩, ⟨by omega, by omega⟩, ⟨by omega, by omega⟩, ⟨by omega, by omega⟩⟩
      have hc1478 : 0 ≤ (X_av n cur) ∧ (X_av n cur) < n := by omega
      refine Or.inr ⟨?_, fl1465, fp1466, (X_av n cur, rc, kc, wc, rn, lo, kn, ab, D, W), by omega, ⟨hp1468, ⟨h1472, h1480, h1481, h1482⟩, hb1477, hs1471, hc1478⟩, ((X_Fr.rf).tr (X_Fr.mono ⟨h1239.1, h1239.2⟩ (fun q hq => (by omega)))).tr (X_Fr.mono ⟨hf1469.1, hf1469.2⟩ (fun q hq => (by omega)))⟩
      simp only [sp_kind]
      subst_vars
      (repeat (first | rw [if_pos (by assumption)] | rw [if_neg (by assumption)]))
      all_goals first | rfl | ((repeat' split) <;> first | rfl | (exfalso; omega))
  · skip
    have c1234 : ¬ (¬ kc = 11) := c1234
    refine T_p xr_71_12 xn_71 (pc' := 13) (ls' := [(0, .ref 496)]) (st' := [.ref 496]) rfl ?_
    refine T_cv (S := S) (q := 496) xr_71_13 xf_67.1 xf_67.2.1 xn_67 (as := []) (r := []) rfl hp (Nat.le_of_ble_eq_true rfl) (Nat.le_of_ble_eq_true rfl) (pc' := 16) rfl (ls' := [(0, .ref 496)]) rfl ?_
    refine T_mono (c_refuse sc S B 0 fp at_ n cur so pl ct hp ⟨hx.1, hx.2.1, hx.2.2.1, hx.2.2.2⟩ (by omega) hso) (fun v1483 S1484 h1485 => ?_)
    obtain ⟨h1486, ⟨fl1487, fp1488, hn1489, hp1490⟩, hf1491⟩ := h1485
    rw [h1486]
    show X_T sc 71 (16, [(0, .ref 496)], [], S1484) _
    refine T_vret xr_71_16 xf_71.2.2 ?_
    refine hQ _ _ ?_
    have h1492 := (hf1491.1 B (by omega)).trans (hb0)
    have hs1493 : C_ws S1484 B D W := C_ws.fr (P := fun r => ¬ (B + 6 ≤ r ∧ r < B + 246)) hs ((X_Fr.rf).tr (X_Fr.mono ⟨hf1491.1, hf1491.2⟩ (fun q hq => (by omega)))) (fun k h1 h2 => by omega)
    have h1494 := (hf1491.1 497 (by omega)).trans (hx.1)
    have h1495 := (hf1491.1 (B + 1) (by omega)).trans (hb1)
    have h1496 := (hf1491.1 (B + 2) (by omega)).trans (hb2)
    have h1497 := (hf1491.1 (B + 3) (by omega)).trans (hb3)
    have h1498 := (hf1491.1 (B + 4) (by omega)).trans (hb4)
    have h1501 := (hf1491.1 (B + 5) (by omega)).trans (hb5)
    have h1502 := (hf1491.1 498 (by omega)).trans (hx.2.1)
    have h1503 := (hf1491.1 499 (by omega)).trans (hx.2.2.1)
    have h1504 := (hf1491.1 500 (by omega)).trans (hx.2.2.2)
    have hb1499 : C_bk S1484 B rc kc wc rn lo kn ab := ⟨h1492, h1495, h1496, h1497, h1498, ⟨f, h1501, hf⟩, ⟨by omega, by omega⟩, ⟨by omega, by omega⟩, ⟨by omega, by omega⟩⟩
    have hc1500 : 0 ≤ cur ∧ cur < n := by omega
    refine Or.inr ⟨?_, fl1487, fp1488, (cur, rc, kc, wc, rn, lo, kn, ab, D, W), by omega, ⟨hp1490, ⟨h1494, h1502, h1503, h1504⟩, hb1499, hs1493, hc1500⟩, (X_Fr.rf).tr (X_Fr.mono ⟨hf1491.1, hf1491.2⟩ (fun q hq => (by omega)))⟩
    simp only [sp_kind]
    subst_vars
    (repeat (first | rw [if_pos (by assumption)] | rw [if_neg (by assumption)]))
    all_goals first | rfl | ((repeat' split) <;> first | rfl | (exfalso; omega))
