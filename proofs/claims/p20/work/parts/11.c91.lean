theorem xr_66_0 : X_row 66 0 = some (0, (.aload_n 0, 1), (0, 0, 0)) := by decide +kernel
theorem xr_66_1 : X_row 66 1 = some (1, (.getfield 23, 3), (4, 0, 18)) := by decide +kernel
theorem xr_66_4 : X_row 66 4 = some (4, (.invokevirtual 80, 3), (48, 18, 0)) := by decide +kernel
theorem xr_66_7 : X_row 66 7 = some (7, (.aload_n 0, 1), (0, 0, 0)) := by decide +kernel
theorem xr_66_8 : X_row 66 8 = some (8, (.invokevirtual 102, 3), (68, 30, 0)) := by decide +kernel
theorem xr_66_11 : X_row 66 11 = some (11, (.istore_n 1, 1), (0, 0, 0)) := by decide +kernel
theorem xr_66_12 : X_row 66 12 = some (12, (.iload_n 1, 1), (0, 0, 0)) := by decide +kernel
theorem xr_66_13 : X_row 66 13 = some (13, (.iconst (-1), 1), (0, 0, 0)) := by decide +kernel
theorem xr_66_14 : X_row 66 14 = some (14, (.if_icmp .ne 4, 3), (0, 0, 0)) := by decide +kernel
theorem xr_66_17 : X_row 66 17 = some (17, (.return_, 1), (0, 0, 0)) := by decide +kernel
theorem xr_66_18 : X_row 66 18 = some (18, (.aload_n 0, 1), (0, 0, 0)) := by decide +kernel
theorem xr_66_19 : X_row 66 19 = some (19, (.getfield 23, 3), (4, 0, 18)) := by decide +kernel
theorem xr_66_22 : X_row 66 22 = some (22, (.invokevirtual 73, 3), (45, 14, 0)) := by decide +kernel
theorem xr_66_25 : X_row 66 25 = some (25, (.istore_n 2, 1), (0, 0, 0)) := by decide +kernel
theorem xr_66_26 : X_row 66 26 = some (26, (.aload_n 0, 1), (0, 0, 0)) := by decide +kernel
theorem xr_66_27 : X_row 66 27 = some (27, (.invokevirtual 102, 3), (68, 30, 0)) := by decide +kernel
theorem xr_66_30 : X_row 66 30 = some (30, (.istore_n 3, 1), (0, 0, 0)) := by decide +kernel
theorem xr_66_31 : X_row 66 31 = some (31, (.iload_n 3, 1), (0, 0, 0)) := by decide +kernel
theorem xr_66_32 : X_row 66 32 = some (32, (.iconst (-1), 1), (0, 0, 0)) := by decide +kernel
theorem xr_66_33 : X_row 66 33 = some (33, (.if_icmp .ne 4, 3), (0, 0, 0)) := by decide +kernel
theorem xr_66_36 : X_row 66 36 = some (36, (.return_, 1), (0, 0, 0)) := by decide +kernel
theorem xr_66_37 : X_row 66 37 = some (37, (.iload_n 1, 1), (0, 0, 0)) := by decide +kernel
theorem xr_66_38 : X_row 66 38 = some (38, (.iload_n 3, 1), (0, 0, 0)) := by decide +kernel
theorem xr_66_39 : X_row 66 39 = some (39, (.if_icmp .eq 15, 3), (0, 0, 0)) := by decide +kernel
theorem xr_66_42 : X_row 66 42 = some (42, (.aload_n 0, 1), (0, 0, 0)) := by decide +kernel
theorem xr_66_43 : X_row 66 43 = some (43, (.getfield 27, 3), (4, 1, 20)) := by decide +kernel
theorem xr_66_46 : X_row 66 46 = some (46, (.iload_n 3, 1), (0, 0, 0)) := by decide +kernel
theorem xr_66_47 : X_row 66 47 = some (47, (.iload_n 1, 1), (0, 0, 0)) := by decide +kernel
theorem xr_66_48 : X_row 66 48 = some (48, (.invokevirtual 105, 3), (10, 34, 0)) := by decide +kernel
theorem xr_66_51 : X_row 66 51 = some (51, (.ifCond .eq 10, 3), (0, 0, 0)) := by decide +kernel
theorem xr_66_54 : X_row 66 54 = some (54, (.aload_n 0, 1), (0, 0, 0)) := by decide +kernel
theorem xr_66_55 : X_row 66 55 = some (55, (.iconst 4, 1), (0, 0, 0)) := by decide +kernel
theorem xr_66_56 : X_row 66 56 = some (56, (.iload_n 2, 1), (0, 0, 0)) := by decide +kernel
theorem xr_66_57 : X_row 66 57 = some (57, (.invokevirtual 76, 3), (62, 16, 0)) := by decide +kernel
theorem xr_66_60 : X_row 66 60 = some (60, (.return_, 1), (0, 0, 0)) := by decide +kernel
theorem xr_66_61 : X_row 66 61 = some (61, (.aload_n 0, 1), (0, 0, 0)) := by decide +kernel
theorem xr_66_62 : X_row 66 62 = some (62, (.getfield 27, 3), (4, 1, 20)) := by decide +kernel
theorem xr_66_65 : X_row 66 65 = some (65, (.iload_n 1, 1), (0, 0, 0)) := by decide +kernel
theorem xr_66_66 : X_row 66 66 = some (66, (.iload_n 3, 1), (0, 0, 0)) := by decide +kernel
theorem xr_66_67 : X_row 66 67 = some (67, (.invokevirtual 109, 3), (9, 36, 0)) := by decide +kernel
theorem xr_66_70 : X_row 66 70 = some (70, (.aload_n 0, 1), (0, 0, 0)) := by decide +kernel
theorem xr_66_71 : X_row 66 71 = some (71, (.bipush 59, 2), (0, 0, 0)) := by decide +kernel
theorem xr_66_73 : X_row 66 73 = some (73, (.invokevirtual 98, 3), (64, 26, 0)) := by decide +kernel
theorem xr_66_76 : X_row 66 76 = some (76, (.pop, 1), (0, 0, 0)) := by decide +kernel
theorem xr_66_77 : X_row 66 77 = some (77, (.return_, 1), (0, 0, 0)) := by decide +kernel
theorem xr_67_0 : X_row 67 0 = some (0, (.aload_n 0, 1), (0, 0, 0)) := by decide +kernel
theorem xr_67_1 : X_row 67 1 = some (1, (.getfield 27, 3), (4, 1, 20)) := by decide +kernel
theorem xr_67_4 : X_row 67 4 = some (4, (.getfield 112, 3), (0, 1, 13)) := by decide +kernel
theorem xr_67_7 : X_row 67 7 = some (7, (.bipush 11, 2), (0, 0, 0)) := by decide +kernel
theorem xr_67_9 : X_row 67 9 = some (9, (.if_icmp .ne 8, 3), (0, 0, 0)) := by decide +kernel
theorem xr_67_12 : X_row 67 12 = some (12, (.aload_n 0, 1), (0, 0, 0)) := by decide +kernel
theorem xr_67_13 : X_row 67 13 = some (13, (.invokevirtual 67, 3), (63, 12, 0)) := by decide +kernel
theorem xr_67_16 : X_row 67 16 = some (16, (.return_, 1), (0, 0, 0)) := by decide +kernel
theorem xr_67_17 : X_row 67 17 = some (17, (.aload_n 0, 1), (0, 0, 0)) := by decide +kernel
theorem xr_67_18 : X_row 67 18 = some (18, (.getfield 23, 3), (4, 0, 18)) := by decide +kernel
theorem xr_67_21 : X_row 67 21 = some (21, (.invokevirtual 80, 3), (48, 18, 0)) := by decide +kernel
theorem xr_67_24 : X_row 67 24 = some (24, (.aload_n 0, 1), (0, 0, 0)) := by decide +kernel
theorem xr_67_25 : X_row 67 25 = some (25, (.getfield 23, 3), (4, 0, 18)) := by decide +kernel
theorem xr_67_28 : X_row 67 28 = some (28, (.invokevirtual 39, 3), (44, 6, 0)) := by decide +kernel
theorem xr_67_31 : X_row 67 31 = some (31, (.iconst 2, 1), (0, 0, 0)) := by decide +kernel
theorem xr_67_32 : X_row 67 32 = some (32, (.if_icmp .eq 8, 3), (0, 0, 0)) := by decide +kernel
theorem xr_67_35 : X_row 67 35 = some (35, (.aload_n 0, 1), (0, 0, 0)) := by decide +kernel
theorem xr_67_36 : X_row 67 36 = some (36, (.invokevirtual 67, 3), (63, 12, 0)) := by decide +kernel
theorem xr_67_39 : X_row 67 39 = some (39, (.return_, 1), (0, 0, 0)) := by decide +kernel
theorem xr_67_40 : X_row 67 40 = some (40, (.aload_n 0, 1), (0, 0, 0)) := by decide +kernel
theorem xr_67_41 : X_row 67 41 = some (41, (.getfield 27, 3), (4, 1, 20)) := by decide +kernel
theorem xr_67_44 : X_row 67 44 = some (44, (.aload_n 0, 1), (0, 0, 0)) := by decide +kernel
theorem xr_67_45 : X_row 67 45 = some (45, (.getfield 23, 3), (4, 0, 18)) := by decide +kernel
theorem xr_67_48 : X_row 67 48 = some (48, (.invokevirtual 86, 3), (46, 20, 0)) := by decide +kernel
theorem xr_67_51 : X_row 67 51 = some (51, (.invokevirtual 115, 3), (5, 40, 0)) := by decide +kernel
theorem xr_67_54 : X_row 67 54 = some (54, (.iconst (-1), 1), (0, 0, 0)) := by decide +kernel
theorem xr_67_55 : X_row 67 55 = some (55, (.if_icmp .eq 16, 3), (0, 0, 0)) := by decide +kernel
theorem xr_67_58 : X_row 67 58 = some (58, (.aload_n 0, 1), (0, 0, 0)) := by decide +kernel
theorem xr_67_59 : X_row 67 59 = some (59, (.iconst 3, 1), (0, 0, 0)) := by decide +kernel
theorem xr_67_60 : X_row 67 60 = some (60, (.aload_n 0, 1), (0, 0, 0)) := by decide +kernel
theorem xr_67_61 : X_row 67 61 = some (61, (.getfield 23, 3), (4, 0, 18)) := by decide +kernel
theorem xr_67_64 : X_row 67 64 = some (64, (.invokevirtual 73, 3), (45, 14, 0)) := by decide +kernel
theorem xr_67_67 : X_row 67 67 = some (67, (.invokevirtual 76, 3), (62, 16, 0)) := by decide +kernel
theorem xr_67_70 : X_row 67 70 = some (70, (.return_, 1), (0, 0, 0)) := by decide +kernel
theorem xr_67_71 : X_row 67 71 = some (71, (.aload_n 0, 1), (0, 0, 0)) := by decide +kernel
theorem xr_67_72 : X_row 67 72 = some (72, (.getfield 23, 3), (4, 0, 18)) := by decide +kernel
theorem xr_67_75 : X_row 67 75 = some (75, (.invokevirtual 86, 3), (46, 20, 0)) := by decide +kernel
theorem xr_67_78 : X_row 67 78 = some (78, (.lstore_n 1, 1), (0, 0, 0)) := by decide +kernel
theorem xr_67_79 : X_row 67 79 = some (79, (.iconst 0, 1), (0, 0, 0)) := by decide +kernel
theorem xr_67_80 : X_row 67 80 = some (80, (.istore_n 3, 1), (0, 0, 0)) := by decide +kernel
theorem xr_67_81 : X_row 67 81 = some (81, (.aload_n 0, 1), (0, 0, 0)) := by decide +kernel
theorem xr_67_82 : X_row 67 82 = some (82, (.getfield 23, 3), (4, 0, 18)) := by decide +kernel
theorem xr_67_85 : X_row 67 85 = some (85, (.invokevirtual 80, 3), (48, 18, 0)) := by decide +kernel
theorem xr_67_88 : X_row 67 88 = some (88, (.aload_n 0, 1), (0, 0, 0)) := by decide +kernel
theorem xr_67_89 : X_row 67 89 = some (89, (.getfield 23, 3), (4, 0, 18)) := by decide +kernel
theorem xr_67_92 : X_row 67 92 = some (92, (.ldc2_w 118, 3), (504363246962, 594, 0)) := by decide +kernel
theorem xr_67_95 : X_row 67 95 = some (95, (.invokevirtual 45, 3), (47, 8, 0)) := by decide +kernel
theorem xr_67_98 : X_row 67 98 = some (98, (.ifCond .eq 15, 3), (0, 0, 0)) := by decide +kernel
theorem xr_67_101 : X_row 67 101 = some (101, (.aload_n 0, 1), (0, 0, 0)) := by decide +kernel
theorem xr_67_102 : X_row 67 102 = some (102, (.getfield 23, 3), (4, 0, 18)) := by decide +kernel
theorem xr_67_105 : X_row 67 105 = some (105, (.invokevirtual 80, 3), (48, 18, 0)) := by decide +kernel
theorem xr_67_108 : X_row 67 108 = some (108, (.aload_n 0, 1), (0, 0, 0)) := by decide +kernel
theorem xr_67_109 : X_row 67 109 = some (109, (.invokevirtual 120, 3), (69, 42, 0)) := by decide +kernel
theorem xr_67_112 : X_row 67 112 = some (112, (.istore_n 3, 1), (0, 0, 0)) := by decide +kernel
theorem xr_67_113 : X_row 67 113 = some (113, (.iload_n 3, 1), (0, 0, 0)) := by decide +kernel
theorem xr_67_114 : X_row 67 114 = some (114, (.iconst (-1), 1), (0, 0, 0)) := by decide +kernel
theorem xr_67_115 : X_row 67 115 = some (115, (.if_icmp .eq 21, 3), (0, 0, 0)) := by decide +kernel
theorem xr_67_118 : X_row 67 118 = some (118, (.aload_n 0, 1), (0, 0, 0)) := by decide +kernel
theorem xr_67_119 : X_row 67 119 = some (119, (.bipush 59, 2), (0, 0, 0)) := by decide +kernel
theorem xr_67_121 : X_row 67 121 = some (121, (.invokevirtual 98, 3), (64, 26, 0)) := by decide +kernel
theorem xr_67_124 : X_row 67 124 = some (124, (.ifCond .eq 12, 3), (0, 0, 0)) := by decide +kernel
theorem xr_67_127 : X_row 67 127 = some (127, (.aload_n 0, 1), (0, 0, 0)) := by decide +kernel
theorem xr_67_128 : X_row 67 128 = some (128, (.getfield 27, 3), (4, 1, 20)) := by decide +kernel
theorem xr_67_131 : X_row 67 131 = some (131, (.lload_n 1, 1), (0, 0, 0)) := by decide +kernel
theorem xr_67_132 : X_row 67 132 = some (132, (.iload_n 3, 1), (0, 0, 0)) := by decide +kernel
theorem xr_67_133 : X_row 67 133 = some (133, (.invokevirtual 123, 3), (8, 44, 0)) := by decide +kernel
theorem xr_67_136 : X_row 67 136 = some (136, (.return_, 1), (0, 0, 0)) := by decide +kernel
theorem xn_66 : X_nL 66 = 4 := by decide +kernel
theorem xf_66 : X_na 66 = 0 ∧ X_ci 66 = 4 ∧ X_rt 66 = none := by decide +kernel
theorem xn_67 : X_nL 67 = 4 := by decide +kernel
theorem xf_67 : X_na 67 = 0 ∧ X_ci 67 = 4 ∧ X_rt 67 = none := by decide +kernel
theorem c_parseTighter (sc : X_Sc) (S : X_S) (B : Nat) (fp at_ n : Int) (so pl : Int → Int) (ct : Int → Int64) (cur rc kc wc : Int) (rn : Int → Int64) (lo : Int → Int) (kn : Int → Int64) (ab : Int → Int) (D : Int → Nat → Int → Int) (W : Int → Int → Int64)  (hB : 4 ≤ B ∧ B + 246 ≤ 496) (hn : n ≤ 2001) (hso : ∀ i, 0 ≤ i → i < n → 0 ≤ so i ∧ so i ≤ 255) (hK : C_K S B 0 fp at_ n so pl ct (cur, rc, kc, wc, rn, lo, kn, ab, D, W))  : X_T sc 66 (0, [(0, .ref 496)], [], S) (fun v S' => (∃ K, sp_tight n so ct (cur, rc, kc, wc, rn, lo, kn, ab, D, W) = some K ∧ ∃ fp', C_K S' B 0 fp' at_ n so pl ct K ∧ X_Fr (fun q => q = 496 ∨ q = 497 ∨ (B ≤ q ∧ q < B + 246)) S S') ∨ (sp_tight n so ct (cur, rc, kc, wc, rn, lo, kn, ab, D, W) = none ∧ ∃ fl' fp' K, (¬ fl' = 0 ∧ 0 ≤ fl' ∧ fl' ≤ 5) ∧ C_K S' B fl' fp' at_ n so pl ct K ∧ X_Fr (fun q => q = 496 ∨ q = 497 ∨ (B ≤ q ∧ q < B + 246)) S S')) := by
  obtain ⟨hp, hx, hb, hs, hcu⟩ := id hK
  simp only at hx hb hs hcu
  obtain ⟨hb0, hb1, hb2, hb3, hb4, ⟨f, hb5, hf⟩, ⟨hrc, hrcb⟩, ⟨hkc, hkcb⟩, ⟨hwc, hwcb⟩⟩ := id hb
  refine X_QI (fun Q hQ => ?_)
  refine T_p xr_66_0 xn_66 (pc' := 1) (ls' := [(0, .ref 496)]) (st' := [.ref 496]) rfl ?_
  refine T_get xr_66_1 hp rfl (v := .ref 497) rfl (pc' := 4) rfl ?_
  refine T_cv (S := S) (q := 497) xr_66_4 xf_48.1 xf_48.2.1 xn_48 (as := []) (r := []) rfl hx.1 (Nat.le_of_ble_eq_true rfl) (Nat.le_of_ble_eq_true rfl) (pc' := 7) rfl (ls' := [(0, .ref 497)]) rfl ?_
  refine T_mono (c_advance sc S at_ n cur so pl ct ⟨hx.1, hx.2.1, hx.2.2.1, hx.2.2.2⟩ (by omega)) (fun v943 S944 h942 => ?_)
  obtain ⟨h945, h947, h946⟩ := h942
  rw [h945]
  show X_T sc 66 (7, [(0, .ref 496)], [], S944) _
  have hv948 := X_av_r (n := n) (c := cur) (by omega)
  refine T_p xr_66_7 xn_66 (pc' := 8) (ls' := [(0, .ref 496)]) (st' := [.ref 496]) rfl ?_
  have h949 := (h946.1 496 (by omega)).trans (hp)
  refine T_cv (S := S944) (q := 496) xr_66_8 xf_68.1 xf_68.2.1 xn_68 (as := []) (r := []) rfl h949 (Nat.le_of_ble_eq_true rfl) (Nat.le_of_ble_eq_true rfl) (pc' := 11) rfl (ls' := [(0, .ref 496)]) rfl ?_
  have h950 := (h946.1 498 (by omega)).trans (hx.2.1)
  have h951 := (h946.1 499 (by omega)).trans (hx.2.2.1)
  have h952 := (h946.1 500 (by omega)).trans (hx.2.2.2)
  have h953 := (h946.1 B (by omega)).trans (hb0)
  have h954 := (h946.1 (B + 1) (by omega)).trans (hb1)
  have h960 := (h946.1 (B + 2) (by omega)).trans (hb2)
  have h961 := (h946.1 (B + 3) (by omega)).trans (hb3)
  have h962 := (h946.1 (B + 4) (by omega)).trans (hb4)
  have h963 := (h946.1 (B + 5) (by omega)).trans (hb5)
  have hb964 : C_bk S944 B rc kc wc rn lo kn ab := ⟨h953, h954, h960, h961, h962, ⟨f, h963, hf⟩, ⟨by omega, by omega⟩, ⟨by omega, by omega⟩, ⟨by omega, by omega⟩⟩
  refine T_mono (c_passRank sc S944 B 0 fp at_ n (X_av n cur) so pl ct rc kc wc rn lo kn ab h949 ⟨h947, h950, h951, h952⟩ (by omega) hso hB hb964) (fun v966 S967 h968 => ?_)
  rcases h968 with ⟨h955, h956, h957, h958, hp969, hl970, hf971⟩ | ⟨h955, h959, ⟨fl972, fp973, hn974, hp969⟩, hl970, hf971⟩
  · skip
    rw [h955]
    have hv965 := X_av_r (n := n) (c := (X_av n cur)) (by omega)
    show X_T sc 66 (11, [(0, .ref 496)], [.int (iI (X_ix rn rc (ct (X_av n cur))))], S967) _
    refine T_p xr_66_11 xn_66 (pc' := 12) (ls' := [(1, .int (iI (X_ix rn rc (ct (X_av n cur))))), (0, .ref 496)]) (st' := []) rfl ?_
    refine T_p xr_66_12 xn_66 (pc' := 13) (ls' := [(1, .int (iI (X_ix rn rc (ct (X_av n cur))))), (0, .ref 496)]) (st' := [.int (iI (X_ix rn rc (ct (X_av n cur))))]) rfl ?_
    refine T_p xr_66_13 xn_66 (pc' := 14) (ls' := [(1, .int (iI (X_ix rn rc (ct (X_av n cur))))), (0, .ref 496)]) (st' := [.int (iI (-1)), .int (iI (X_ix rn rc (ct (X_av n cur))))]) rfl ?_
    refine T_zicmp_ne xr_66_14 (t := 18) (pc' := 17) rfl rfl (fun c975 => ?_) (fun c975 => ?_)
    · skip
      have c975 : ¬ (X_ix rn rc (ct (X_av n cur))) = (-1) := c975
      refine T_p xr_66_18 xn_66 (pc' := 19) (ls' := [(1, .int (iI (X_ix rn rc (ct (X_av n cur))))), (0, .ref 496)]) (st' := [.ref 496]) rfl ?_
      refine T_get xr_66_19 hp969 rfl (v := .ref 497) rfl (pc' := 22) rfl ?_
      refine T_cv (S := S967) (q := 497) xr_66_22 xf_45.1 xf_45.2.1 xn_45 (as := []) (r := []) rfl hl970 (Nat.le_of_ble_eq_true rfl) (Nat.le_of_ble_eq_true rfl) (pc' := 25) rfl (ls' := [(0, .ref 497)]) rfl ?_
      have h976 := (hf971.1 498 (by omega)).trans (h950)
      have h977 := (hf971.1 499 (by omega)).trans (h951)
      have h978 := (hf971.1 500 (by omega)).trans (h952)
      refine T_mono (c_place sc S967 at_ n (X_av n (X_av n cur)) so pl ct ⟨hl970, h976, h977, h978⟩ (by omega)) (fun v980 S981 h979 => ?_)
      obtain ⟨h982, h983⟩ := h979
      rw [h982, h983]
      show X_T sc 66 (25, [(1, .int (iI (X_ix rn rc (ct (X_av n cur))))), (0, .ref 496)], [.int (iI (pl (X_av n (X_av n cur))))], S967) _
      refine T_p xr_66_25 xn_66 (pc' := 26) (ls' := [(2, .int (iI (pl (X_av n (X_av n cur))))), (1, .int (iI (X_ix rn rc (ct (X_av n cur))))), (0, .ref 496)]) (st' := []) rfl ?_
      refine T_p xr_66_26 xn_66 (pc' := 27) (ls' := [(2, .int (iI (pl (X_av n (X_av n cur))))), (1, .int (iI (X_ix rn rc (ct (X_av n cur))))), (0, .ref 496)]) (st' := [.ref 496]) rfl ?_
      refine T_cv (S := S967) (q := 496) xr_66_27 xf_68.1 xf_68.2.1 xn_68 (as := []) (r := []) rfl hp969 (Nat.le_of_ble_eq_true rfl) (Nat.le_of_ble_eq_true rfl) (pc' := 30) rfl (ls' := [(0, .ref 496)]) rfl ?_
      have h984 := (hf971.1 B (by omega)).trans (h953)
      have h985 := (hf971.1 (B + 1) (by omega)).trans (h954)
      have h991 := (hf971.1 (B + 2) (by omega)).trans (h960)
      have h992 := (hf971.1 (B + 3) (by omega)).trans (h961)
      have h993 := (hf971.1 (B + 4) (by omega)).trans (h962)
      have h994 := (hf971.1 (B + 5) (by omega)).trans (h963)
      have hb995 : C_bk S967 B rc kc wc rn lo kn ab := ⟨h984, h985, h991, h992, h993, ⟨f, h994, hf⟩, ⟨by omega, by omega⟩, ⟨by omega, by omega⟩, ⟨by omega, by omega⟩⟩
      refine T_mono (c_passRank sc S967 B 0 fp at_ n (X_av n (X_av n cur)) so pl ct rc kc wc rn lo kn ab hp969 ⟨hl970, h976, h977, h978⟩ (by omega) hso hB hb995) (fun v997 S998 h999 => ?_)
      rcases h999 with ⟨h986, h987, h988, h989, hp1000, hl1001, hf1002⟩ | ⟨h986, h990, ⟨fl1003, fp1004, hn1005, hp1000⟩, hl1001, hf1002⟩
      · skip
        rw [h986]
        have hv996 := X_av_r (n := n) (c := (X_av n (X_av n cur))) (by omega)
        show X_T sc 66 (30, [(2, .int (iI (pl (X_av n (X_av n cur))))), (1, .int (iI (X_ix rn rc (ct (X_av n cur))))), (0, .ref 496)], [.int (iI (X_ix rn rc (ct (X_av n (X_av n cur)))))], S998) _
        refine T_p xr_66_30 xn_66 (pc' := 31) (ls' := [(3, .int (iI (X_ix rn rc (ct (X_av n (X_av n cur)))))), (2, .int (iI (pl (X_av n (X_av n cur))))), (1, .int (iI (X_ix rn rc (ct (X_av n cur))))), (0, .ref 496)]) (st' := []) rfl ?_
        refine T_p xr_66_31 xn_66 (pc' := 32) (ls' := [(3, .int (iI (X_ix rn rc (ct (X_av n (X_av n cur)))))), (2, .int (iI (pl (X_av n (X_av n cur))))), (1, .int (iI (X_ix rn rc (ct (X_av n cur))))), (0, .ref 496)]) (st' := [.int (iI (X_ix rn rc (ct (X_av n (X_av n cur)))))]) rfl ?_
        refine T_p xr_66_32 xn_66 (pc' := 33) (ls' := [(3, .int (iI (X_ix rn rc (ct (X_av n (X_av n cur)))))), (2, .int (iI (pl (X_av n (X_av n cur))))), (1, .int (iI (X_ix rn rc (ct (X_av n cur))))), (0, .ref 496)]) (st' := [.int (iI (-1)), .int (iI (X_ix rn rc (ct (X_av n (X_av n cur)))))]) rfl ?_
        refine T_zicmp_ne xr_66_33 (t := 37) (pc' := 36) rfl rfl (fun c1006 => ?_) (fun c1006 => ?_)
        · skip
          have c1006 : ¬ (X_ix rn rc (ct (X_av n (X_av n cur)))) = (-1) := c1006
          refine T_p xr_66_37 xn_66 (pc' := 38) (ls' := [(3, .int (iI (X_ix rn rc (ct (X_av n (X_av n cur)))))), (2, .int (iI (pl (X_av n (X_av n cur))))), (1, .int (iI (X_ix rn rc (ct (X_av n cur))))), (0, .ref 496)]) (st' := [.int (iI (X_ix rn rc (ct (X_av n cur))))]) rfl ?_
          refine T_p xr_66_38 xn_66 (pc' := 39) (ls' := [(3, .int (iI (X_ix rn rc (ct (X_av n (X_av n cur)))))), (2, .int (iI (pl (X_av n (X_av n cur))))), (1, .int (iI (X_ix rn rc (ct (X_av n cur))))), (0, .ref 496)]) (st' := [.int (iI (X_ix rn rc (ct (X_av n (X_av n cur))))), .int (iI (X_ix rn rc (ct (X_av n cur))))]) rfl ?_
          refine T_zicmp_eq xr_66_39 (t := 54) (pc' := 42) rfl rfl (fun c1007 => ?_) (fun c1007 => ?_)
          · skip
            have c1007 : (X_ix rn rc (ct (X_av n cur))) = (X_ix rn rc (ct (X_av n (X_av n cur)))) := c1007
            refine T_p xr_66_54 xn_66 (pc' := 55) (ls' := [(3, .int (iI (X_ix rn rc (ct (X_av n (X_av n cur)))))), (2, .int (iI (pl (X_av n (X_av n cur))))), (1, .int (iI (X_ix rn rc (ct (X_av n cur))))), (0, .ref 496)]) (st' := [.ref 496]) rfl ?_
            refine T_p xr_66_55 xn_66 (pc' := 56) (ls' := [(3, .int (iI (X_ix rn rc (ct (X_av n (X_av n cur)))))), (2, .int (iI (pl (X_av n (X_av n cur))))), (1, .int (iI (X_ix rn rc (ct (X_av n cur))))), (0, .ref 496)]) (st' := [.int (iI 4), .ref 496]) rfl ?_
            refine T_p xr_66_56 xn_66 (pc' := 57) (ls' := [(3, .int (iI (X_ix rn rc (ct (X_av n (X_av n cur)))))), (2, .int (iI (pl (X_av n (X_av n cur))))), (1, .int (iI (X_ix rn rc (ct (X_av n cur))))), (0, .ref 496)]) (st' := [.int (iI (pl (X_av n (X_av n cur)))), .int (iI 4), .ref 496]) rfl ?_
            refine T_cv (S := S998) (q := 496) xr_66_57 xf_62.1 xf_62.2.1 xn_62 (as := [.int (iI 4), .int (iI (pl (X_av n (X_av n cur))))]) (r := []) rfl hp1000 (Nat.le_of_ble_eq_true rfl) (Nat.le_of_ble_eq_true rfl) (pc' := 60) rfl (ls' := [(0, .ref 496), (1, .int (iI 4)), (2, .int (iI (pl (X_av n (X_av n cur)))))]) rfl ?_
            refine T_p xr_62_0 xn_62 (pc' := 1) (ls' := [(0, .ref 496), (1, .int (iI 4)), (2, .int (iI (pl (X_av n (X_av n cur)))))]) (st' := [.ref 496]) rfl ?_
            refine T_p xr_62_1 xn_62 (pc' := 2) (ls' := [(0, .ref 496), (1, .int (iI 4)), (2, .int (iI (pl (X_av n (X_av n cur)))))]) (st' := [.int (iI 4), .ref 496]) rfl ?_
            refine T_put xr_62_2 hp1000 rfl (Nat.le_of_ble_eq_true rfl) rfl (fs' := [.ref 497, .ref B, .int (iI 4), .int (iI fp)]) rfl (pc' := 5) rfl (fun S1008 h1009 n1010 e1011 => ?_)
            refine T_p xr_62_5 xn_62 (pc' := 6) (ls' := [(0, .ref 496), (1, .int (iI 4)), (2, .int (iI (pl (X_av n (X_av n cur)))))]) (st' := [.ref 496]) rfl ?_
            refine T_p xr_62_6 xn_62 (pc' := 7) (ls' := [(0, .ref 496), (1, .int (iI 4)), (2, .int (iI (pl (X_av n (X_av n cur)))))]) (st' := [.int (iI (pl (X_av n (X_av n cur)))), .ref 496]) rfl ?_
            refine T_put xr_62_7 h1009 rfl (Nat.le_of_ble_eq_true rfl) rfl (fs' := [.ref 497, .ref B, .int (iI 4), .int (iI (pl (X_av n (X_av n cur))))]) rfl (pc' := 10) rfl (fun S1012 h1013 n1014 e1015 => ?_)
            refine T_vret xr_62_10 xf_62.2.2 ?_
            show X_T sc 66 (60, [(3, .int (iI (X_ix rn rc (ct (X_av n (X_av n cur)))))), (2, .int (iI (pl (X_av n (X_av n cur))))), (1, .int (iI (X_ix rn rc (ct (X_av n cur))))), (0, .ref 496)], [], S1012) _
            refine T_vret xr_66_60 xf_66.2.2 ?_
            refine hQ _ _ ?_
            have h1016 := (n1014 B (by omega)).trans ((n1010 B (by omega)).trans ((hf1002.1 B (by omega)).trans (h984)))
            have hs1017 : C_ws S1012 B D W := C_ws.fr (P := fun r => ¬ (B + 6 ≤ r ∧ r < B + 246)) hs ((((((X_Fr.rf).tr (X_Fr.mono ⟨h946.1, h946.2⟩ (fun q hq => (by omega)))).tr (X_Fr.mono ⟨hf971.1, hf971.2⟩ (fun q hq => (by omega)))).tr (X_Fr.mono ⟨hf1002.1, hf1002.2⟩ (fun q hq => (by omega)))).tr (X_Fr.of n1010 e1011 (by omega))).tr (X_Fr.of n1014 e1015 (by omega))) (fun k h1 h2 => by omega)
            have h1018 := (n1014 497 (by decide)).trans ((n1010 497 (by decide)).trans (hl1001))
            have h1019 := (n1014 (B + 1) (by omega)).trans ((n1010 (B + 1) (by omega)).trans ((hf1002.1 (B + 1) (by omega)).trans (h985)))
            have h1020 := (n1014 (B + 2) (by omega)).trans ((n1010 (B + 2) (by omega)).trans ((hf1002.1 (B + 2) (by omega)).trans (h991)))
            have h1021 := (n1014 (B + 3) (by omega)).trans ((n1010 (B + 3) (by omega)).trans ((hf1002.1 (B + 3) (by omega)).trans (h992)))
            have h1022 := (n1014 (B + 4) (by omega)).trans ((n1010 (B + 4) (by omega)).trans ((hf1002.1 (B + 4) (by omega)).trans (h993)))
            have h1025 := (n1014 (B + 5) (by omega)).trans ((n1010 (B + 5) (by omega)).trans ((hf1002.1 (B + 5) (by omega)).trans (h994)))
            have h1026 := (n1014 498 (by decide)).trans ((n1010 498 (by decide)).trans ((hf1002.1 498 (by omega)).trans (h976)))
            have h1027 := (n1014 499 (by decide)).trans ((n1010 499 (by decide)).trans ((hf1002.1 499 (by omega)).trans (h977)))
            have h1028 := (n1014 500 (by decide)).trans ((n1010 500 (by decide)).trans ((hf1002.1 500 (by omega)).trans (h978)))
            have hb1023 : C_bk S1012 B rc kc wc rn lo kn ab := ⟨h1016, h1019, h1020, h1021, h1022, ⟨f, h1025, hf⟩, ⟨by omega, by omega⟩, ⟨by omega, by omega⟩, ⟨by omega, by omega⟩⟩
            have hc1024 : 0 ≤ (X_av n (X_av n (X_av n cur))) ∧ (X_av n (X_av n (X_av n cur))) < n := by omega
            refine Or.inr ⟨?_, 4, pl (X_av n (X_av n cur)), (X_av n (X_av n (X_av n cur)), rc, kc, wc, rn, lo, kn, ab, D, W), by omega, ⟨h1013, ⟨h1018, h1026, h1027, h1028⟩, hb1023, hs1017, hc1024⟩, (((((X_Fr.rf).tr (X_Fr.mono ⟨h946.1, h946.2⟩ (fun q hq => (by omega)))).tr (X_Fr.mono ⟨hf971.1, hf971.2⟩ (fun q hq => (by omega)))).tr (X_Fr.mono ⟨hf1002.1, hf1002.2⟩ (fun q hq => (by omega)))).tr (X_Fr.of n1010 e1011 (by omega))).tr (X_Fr.of n1014 e1015 (by omega))⟩
            simp only [sp_tight]
            subst_vars
            (repeat (first | rw [if_pos (by assumption)] | rw [if_neg (by assumption)]))
            all_goals first | rfl | ((repeat' split) <;> first | rfl | (exfalso; omega))
          · skip
            have c1007 : ¬ ((X_ix rn rc (ct (X_av n cur))) = (X_ix rn rc (ct (X_av n (X_av n cur))))) := c1007
            refine T_p xr_66_42 xn_66 (pc' := 43) (ls' := [(3, .int (iI (X_ix rn rc (ct (X_av n (X_av n cur)))))), (2, .int (iI (pl (X_av n (X_av n cur))))), (1, .int (iI (X_ix rn rc (ct (X_av n cur))))), (0, .ref 496)]) (st' := [.ref 496]) rfl ?_
            refine T_get xr_66_43 hp1000 rfl (v := .ref B) rfl (pc' := 46) rfl ?_
            refine T_p xr_66_46 xn_66 (pc' := 47) (ls' := [(3, .int (iI (X_ix rn rc (ct (X_av n (X_av n cur)))))), (2, .int (iI (pl (X_av n (X_av n cur))))), (1, .int (iI (X_ix rn rc (ct (X_av n cur))))), (0, .ref 496)]) (st' := [.int (iI (X_ix rn rc (ct (X_av n (X_av n cur))))), .ref B]) rfl ?_
            refine T_p xr_66_47 xn_66 (pc' := 48) (ls' := [(3, .int (iI (X_ix rn rc (ct (X_av n (X_av n cur)))))), (2, .int (iI (pl (X_av n (X_av n cur))))), (1, .int (iI (X_ix rn rc (ct (X_av n cur))))), (0, .ref 496)]) (st' := [.int (iI (X_ix rn rc (ct (X_av n cur)))), .int (iI (X_ix rn rc (ct (X_av n (X_av n cur))))), .ref B]) rfl ?_
            have h1029 := (hf1002.1 B (by omega)).trans (h984)
            refine T_cv (S := S998) (q := B) xr_66_48 xf_10.1 xf_10.2.1 xn_10 (as := [.int (iI (X_ix rn rc (ct (X_av n (X_av n cur))))), .int (iI (X_ix rn rc (ct (X_av n cur))))]) (r := []) rfl h1029 (Nat.le_of_ble_eq_true rfl) (Nat.le_of_ble_eq_true rfl) (pc' := 51) rfl (ls' := [(0, .ref B), (1, .int (iI (X_ix rn rc (ct (X_av n (X_av n cur)))))), (2, .int (iI (X_ix rn rc (ct (X_av n cur)))))]) rfl ?_
            have h1030 := (hf1002.1 (B + 1) (by omega)).trans (h985)
            have h1031 := (hf1002.1 (B + 2) (by omega)).trans (h991)
            have h1032 := (hf1002.1 (B + 3) (by omega)).trans (h992)
            have h1033 := (hf1002.1 (B + 4) (by omega)).trans (h993)
            have h1034 := (hf1002.1 (B + 5) (by omega)).trans (h994)
            refine T_mono (c_isTighter sc S998 B rc kc wc rn lo kn ab (X_ix rn rc (ct (X_av n (X_av n cur)))) (X_ix rn rc (ct (X_av n cur))) ⟨h1029, h1030, h1031, h1032, h1033, ⟨f, h1034, hf⟩, ⟨by omega, by omega⟩, ⟨by omega, by omega⟩, ⟨by omega, by omega⟩⟩ (by omega)) (fun v1036 S1037 h1035 => ?_)
            obtain ⟨h1038, h1039⟩ := h1035
            rw [h1038, h1039]
            show X_T sc 66 (51, [(3, .int (iI (X_ix rn rc (ct (X_av n (X_av n cur)))))), (2, .int (iI (pl (X_av n (X_av n cur))))), (1, .int (iI (X_ix rn rc (ct (X_av n cur))))), (0, .ref 496)], [.int (iI (bI (X_bt (lo (X_ix rn rc (ct (X_av n (X_av n cur))))) (X_ix rn rc (ct (X_av n cur))))))], S998) _
            refine T_bif_eq xr_66_51 (t := 61) (pc' := 54) rfl rfl (fun c1040 => ?_) (fun c1040 => ?_)
            · skip
              have c1040 : ¬ (X_bt (lo (X_ix rn rc (ct (X_av n (X_av n cur))))) (X_ix rn rc (ct (X_av n cur)))) := c1040
              refine T_p xr_66_61 xn_66 (pc' := 62) (ls' := [(3, .int (iI (X_ix rn rc (ct (X_av n (X_av n cur)))))), (2, .int (iI (pl (X_av n (X_av n cur))))), (1, .int (iI (X_ix rn rc (ct (X_av n cur))))), (0, .ref 496)]) (st' := [.ref 496]) rfl ?_
              refine T_get xr_66_62 hp1000 rfl (v := .ref B) rfl (pc' := 65) rfl ?_
              refine T_p xr_66_65 xn_66 (pc' := 66) (ls' := [(3, .int (iI (X_ix rn rc (ct (X_av n (X_av n cur)))))), (2, .int (iI (pl (X_av n (X_av n cur))))), (1, .int (iI (X_ix rn rc (ct (X_av n cur))))), (0, .ref 496)]) (st' := [.int (iI (X_ix rn rc (ct (X_av n cur)))), .ref B]) rfl ?_
              refine T_p xr_66_66 xn_66 (pc' := 67) (ls' := [(3, .int (iI (X_ix rn rc (ct (X_av n (X_av n cur)))))), (2, .int (iI (pl (X_av n (X_av n cur))))), (1, .int (iI (X_ix rn rc (ct (X_av n cur))))), (0, .ref 496)]) (st' := [.int (iI (X_ix rn rc (ct (X_av n (X_av n cur))))), .int (iI (X_ix rn rc (ct (X_av n cur)))), .ref B]) rfl ?_
              refine T_cv (S := S998) (q := B) xr_66_67 xf_9.1 xf_9.2.1 xn_9 (as := [.int (iI (X_ix rn rc (ct (X_av n cur)))), .int (iI (X_ix rn rc (ct (X_av n (X_av n cur)))))]) (r := []) rfl h1029 (Nat.le_of_ble_eq_true rfl) (Nat.le_of_ble_eq_true rfl) (pc' := 70) rfl (ls' := [(0, .ref B), (1, .int (iI (X_ix rn rc (ct (X_av n cur))))), (2, .int (iI (X_ix rn rc (ct (X_av n (X_av n cur))))))]) rfl ?_
              refine T_mono (c_setTighter sc S998 B rc kc wc rn lo kn ab (X_ix rn rc (ct (X_av n cur))) (X_ix rn rc (ct (X_av n (X_av n cur)))) ⟨h1029, h1030, h1031, h1032, h1033, ⟨f, h1034, hf⟩, ⟨by omega, by omega⟩, ⟨by omega, by omega⟩, ⟨by omega, by omega⟩⟩ (by omega) (by omega)) (fun v1041 S1042 h1043 => ?_)
              obtain ⟨h1044, hb1045, h1046⟩ := h1043
              rw [h1044]
              show X_T sc 66 (70, [(3, .int (iI (X_ix rn rc (ct (X_av n (X_av n cur)))))), (2, .int (iI (pl (X_av n (X_av n cur))))), (1, .int (iI (X_ix rn rc (ct (X_av n cur))))), (0, .ref 496)], [], S1042) _
              refine T_p xr_66_70 xn_66 (pc' := 71) (ls' := [(3, .int (iI (X_ix rn rc (ct (X_av n (X_av n cur)))))), (2, .int (iI (pl (X_av n (X_av n cur))))), (1, .int (iI (X_ix rn rc (ct (X_av n cur))))), (0, .ref 496)]) (st' := [.ref 496]) rfl ?_
              refine T_p xr_66_71 xn_66 (pc' := 73) (ls' := [(3, .int (iI (X_ix rn rc (ct (X_av n (X_av n cur)))))), (2, .int (iI (pl (X_av n (X_av n cur))))), (1, .int (iI (X_ix rn rc (ct (X_av n cur))))), (0, .ref 496)]) (st' := [.int (iI 59), .ref 496]) rfl ?_
              have h1047 := (h1046.1 496 (by omega)).trans (hp1000)
              refine T_cv (S := S1042) (q := 496) xr_66_73 xf_64.1 xf_64.2.1 xn_64 (as := [.int (iI 59)]) (r := []) rfl h1047 (Nat.le_of_ble_eq_true rfl) (Nat.le_of_ble_eq_true rfl) (pc' := 76) rfl (ls' := [(0, .ref 496), (1, .int (iI 59))]) rfl ?_
              have h1048 := (h1046.1 497 (by omega)).trans (hl1001)
              have h1049 := (h1046.1 498 (by omega)).trans ((hf1002.1 498 (by omega)).trans (h976))
              have h1050 := (h1046.1 499 (by omega)).trans ((hf1002.1 499 (by omega)).trans (h977))
              have h1051 := (h1046.1 500 (by omega)).trans ((hf1002.1 500 (by omega)).trans (h978))
              refine T_mono (c_pass sc S1042 B 0 fp at_ n (X_av n (X_av n (X_av n cur))) so pl ct 59 h1047 ⟨h1048, h1049, h1050, h1051⟩ (by omega) hso (by omega)) (fun v1055 S1056 h1057 => ?_)
              rcases h1057 with ⟨hv1052, hc1053, hp1058, hl1059, hf1060⟩ | ⟨hv1052, hc1053, ⟨fl1061, fp1062, hn1063, hp1058⟩, hl1059, hf1060⟩
              · skip
                rw [hv1052]
                have hv1054 := X_av_r (n := n) (c := (X_av n (X_av n (X_av n cur)))) (by omega)
                show X_T sc 66 (76, [(3, .int (iI (X_ix rn rc (ct (X_av n (X_av n cur)))))), (2, .int (iI (pl (X_av n (X_av n cur))))), (1, .int (iI (X_ix rn rc (ct (X_av n cur))))), (0, .ref 496)], [.int (iI 1)], S1056) _
                refine T_p xr_66_76 xn_66 (pc' := 77) (ls' := [(3, .int (iI (X_ix rn rc (ct (X_av n (X_av n cur)))))), (2, .int (iI (pl (X_av n (X_av n cur))))), (1, .int (iI (X_ix rn rc (ct (X_av n cur))))), (0, .ref 496)]) (st' := []) rfl ?_
                refine T_vret xr_66_77 xf_66.2.2 ?_
                refine hQ _ _ ?_
                have h1064 := (hf1060.1 B (by omega)).trans (hb1045.1)
                have hs1065 : C_ws S1056 B D W := C_ws.fr (P := fun r => ¬ (B + 6 ≤ r ∧ r < B + 246)) hs ((((((X_Fr.rf).tr (X_Fr.mono ⟨h946.1, h946.2⟩ (fun q hq => (by omega)))).tr (X_Fr.mono ⟨hf971.1, hf971.2⟩ (fun q hq => (by omega)))).tr (X_Fr.mono ⟨hf1002.1, hf1002.2⟩ (fun q hq => (by omega)))).tr (X_Fr.mono ⟨h1046.1, h1046.2⟩ (fun q hq => (by omega)))).tr (X_Fr.mono ⟨hf1060.1, hf1060.2⟩ (fun q hq => (by omega)))) (fun k h1 h2 => by omega)
                have h1066 := (hf1060.1 (B + 1) (by omega)).trans (hb1045.2.1)
                have h1067 := (hf1060.1 (B + 2) (by omega)).trans (hb1045.2.2.1)
                have h1068 := (hf1060.1 (B + 3) (by omega)).trans (hb1045.2.2.2.1)
                have h1069 := (hf1060.1 (B + 4) (by omega)).trans (hb1045.2.2.2.2.1)
                have h1072 := (hf1060.1 (B + 5) (by omega)).trans ((h1046.1 (B + 5) (by omega)).trans (h1034))
                have h1073 := (hf1060.1 498 (by omega)).trans (h1049)
                have h1074 := (hf1060.1 499 (by omega)).trans (h1050)
                have h1075 := (hf1060.1 500 (by omega)).trans (h1051)
                have hb1070 : C_bk S1056 B rc kc wc rn (X_tf rc lo (X_ix rn rc (ct (X_av n cur))) (X_ix rn rc (ct (X_av n (X_av n cur))))) kn ab := ⟨h1064, h1066, h1067, h1068, h1069, ⟨f, h1072, hf⟩, ⟨by omega, by omega⟩, ⟨by omega, by omega⟩, ⟨by omega, by omega⟩⟩
                have hc1071 : 0 ≤ (X_av n (X_av n (X_av n (X_av n cur)))) ∧ (X_av n (X_av n (X_av n (X_av n cur)))) < n := by omega
                refine Or.inl ⟨(X_av n (X_av n (X_av n (X_av n cur))), rc, kc, wc, rn, (X_tf rc lo (X_ix rn rc (ct (X_av n cur))) (X_ix rn rc (ct (X_av n (X_av n cur))))), kn, ab, D, W), ?_, fp, ⟨hp1058, ⟨hl1059, h1073, h1074, h1075⟩, hb1070, hs1065, hc1071⟩, (((((X_Fr.rf).tr (X_Fr.mono ⟨h946.1, h946.2⟩ (fun q hq => (by omega)))).tr (X_Fr.mono ⟨hf971.1, hf971.2⟩ (fun q hq => (by omega)))).tr (X_Fr.mono ⟨hf1002.1, hf1002.2⟩ (fun q hq => (by omega)))).tr (X_Fr.mono ⟨h1046.1, h1046.2⟩ (fun q hq => (by omega)))).tr (X_Fr.mono ⟨hf1060.1, hf1060.2⟩ (fun q hq => (by omega)))⟩
                simp only [sp_tight]
                subst_vars
                (repeat (first | rw [if_pos (by assumption)] | rw [if_neg (by assumption)]))
                all_goals first | rfl | ((repeat' split) <;> first | rfl | (exfalso; omega))
              · skip
                rw [hv1052]
                show X_T sc 66 (76, [(3, .int (iI (X_ix rn rc (ct (X_av n (X_av n cur)))))), (2, .int (iI (pl (X_av n (X_av n cur))))), (1, .int (iI (X_ix rn rc (ct (X_av n cur))))), (0, .ref 496)], [.int (iI 0)], S1056) _
                refine T_p xr_66_76 xn_66 (pc' := 77) (ls' := [(3, .int (iI (X_ix rn rc (ct (X_av n (X_av n cur)))))), (2, .int (iI (pl (X_av n (X_av n cur))))), (1, .int (iI (X_ix rn rc (ct (X_av n cur))))), (0, .ref 496)]) (st' := []) rfl ?_
                refine T_vret xr_66_77 xf_66.2.2 ?_
                refine hQ _ _ ?_
                have h1076 := (hf1060.1 B (by omega)).trans (hb1045.1)
                have hs1077 : C_ws S1056 B D W := C_ws.fr (P := fun r => ¬ (B + 6 ≤ r ∧ r < B + 246)) hs ((((((X_Fr.rf).tr (X_Fr.mono ⟨h946.1, h946.2⟩ (fun q hq => (by omega)))).tr (X_Fr.mono ⟨hf971.1, hf971.2⟩ (fun q hq => (by omega)))).tr (X_Fr.mono ⟨hf1002.1, hf1002.2⟩ (fun q hq => (by omega)))).tr (X_Fr.mono ⟨h1046.1, h1046.2⟩ (fun q hq => (by omega)))).tr (X_Fr.mono ⟨hf1060.1, hf1060.2⟩ (fun q hq => (by omega)))) (fun k h1 h2 => by omega)
                have h1078 := (hf1060.1 (B + 1) (by omega)).trans (hb1045.2.1)
                have h1079 := (hf1060.1 (B + 2) (by omega)).trans (hb1045.2.2.1)
                have h1080 := (hf1060.1 (B + 3) (by omega)).trans (hb1045.2.2.2.1)
                have h1081 := (hf1060.1 (B + 4) (by omega)).trans (hb1045.2.2.2.2.1)
                have h1084 := (hf1060.1 (B + 5) (by omega)).trans ((h1046.1 (B + 5) (by omega)).trans (h1034))
                have h1085 := (hf1060.1 498 (by omega)).trans (h1049)
                have h1086 := (hf1060.1 499 (by omega)).trans (h1050)
                have h1087 := (hf1060.1 500 (by omega)).trans (h1051)
                have hb1082 : C_bk S1056 B rc kc wc rn (X_tf rc lo (X_ix rn rc (ct (X_av n cur))) (X_ix rn rc (ct (X_av n (X_av n cur))))) kn ab := ⟨h1076, h1078, h1079, h1080, h1081, ⟨f, h1084, hf⟩, ⟨by omega, by omega⟩, ⟨by omega, by omega⟩, ⟨by omega, by omega⟩⟩
                have hc1083 : 0 ≤ (X_av n (X_av n (X_av n cur))) ∧ (X_av n (X_av n (X_av n cur))) < n := by omega
                refine Or.inr ⟨?_, fl1061, fp1062, ((X_av n (X_av n (X_av n cur))), rc, kc, wc, rn, (X_tf rc lo (X_ix rn rc (ct (X_av n cur))) (X_ix rn rc (ct (X_av n (X_av n cur))))), kn, ab, D, W), by omega, ⟨hp1058, ⟨hl1059, h1085, h1086, h1087⟩, hb1082, hs1077, hc1083⟩, (((((X_Fr.rf).tr (X_Fr.mono ⟨h946.1, h946.2⟩ (fun q hq => (by omega)))).tr (X_Fr.mono ⟨hf971.1, hf971.2⟩ (fun q hq => (by omega)))).tr (X_Fr.mono ⟨hf1002.1, hf1002.2⟩ (fun q hq => (by omega)))).tr (X_Fr.mono ⟨h1046.1, h1046.2⟩ (fun q hq => (by omega)))).tr (X_Fr.mono ⟨hf1060.1, hf1060.2⟩ (fun q hq => (by omega)))⟩
                simp only [sp_tight]
                subst_vars
                (repeat (first | rw [if_pos (by assumption)] | rw [if_neg (by assumption)]))
                all_goals first | rfl | ((repeat' split) <;> first | rfl | (exfalso; omega))
            · skip
              have c1040 : (X_bt (lo (X_ix rn rc (ct (X_av n (X_av n cur))))) (X_ix rn rc (ct (X_av n cur)))) := c1040
              refine T_p xr_66_54 xn_66 (pc' := 55) (ls' := [(3, .int (iI (X_ix rn rc (ct (X_av n (X_av n cur)))))), (2, .int (iI (pl (X_av n (X_av n cur))))), (1, .int (iI (X_ix rn rc (ct (X_av n cur))))), (0, .ref 496)]) (st' := [.ref 496]) rfl ?_
              refine T_p xr_66_55 xn_66 (pc' := 56) (ls' := [(3, .int (iI (X_ix rn rc (ct (X_av n (X_av n cur)))))), (2, .int (iI (pl (X_av n (X_av n cur))))), (1, .int (iI (X_ix rn rc (ct (X_av n cur))))), (0, .ref 496)]) (st' := [.int (iI 4), .ref 496]) rfl ?_
              refine T_p xr_66_56 xn_66 (pc' := 57) (ls' := [(3, .int (iI (X_ix rn rc (ct (X_av n (X_av n cur)))))), (2, .int (iI (pl (X_av n (X_av n cur))))), (1, .int (iI (X_ix rn rc (ct (X_av n cur))))), (0, .ref 496)]) (st' := [.int (iI (pl (X_av n (X_av n cur)))), .int (iI 4), .ref 496]) rfl ?_
              refine T_cv (S := S998) (q := 496) xr_66_57 xf_62.1 xf_62.2.1 xn_62 (as := [.int (iI 4), .int (iI (pl (X_av n (X_av n cur))))]) (r := []) rfl hp1000 (Nat.le_of_ble_eq_true rfl) (Nat.le_of_ble_eq_true rfl) (pc' := 60) rfl (ls' := [(0, .ref 496), (1, .int (iI 4)), (2, .int (iI (pl (X_av n (X_av n cur)))))]) rfl ?_
              refine T_p xr_62_0 xn_62 (pc' := 1) (ls' := [(0, .ref 496), (1, .int (iI 4)), (2, .int (iI (pl (X_av n (X_av n cur)))))]) (st' := [.ref 496]) rfl ?_
              refine T_p xr_62_1 xn_62 (pc' := 2) (ls' := [(0, .ref 496), (1, .int (iI 4)), (2, .int (iI (pl (X_av n (X_av n cur)))))]) (st' := [.int (iI 4), .ref 496]) rfl ?_
              refine T_put xr_62_2 hp1000 rfl (Nat.le_of_ble_eq_true rfl) rfl (fs' := [.ref 497, .ref B, .int (iI 4), .int (iI fp)]) rfl (pc' := 5) rfl (fun S1088 h1089 n1090 e1091 => ?_)
              refine T_p xr_62_5 xn_62 (pc' := 6) (ls' := [(0, .ref 496), (1, .int (iI 4)), (2, .int (iI (pl (X_av n (X_av n cur)))))]) (st' := [.ref 496]) rfl ?_
              refine T_p xr_62_6 xn_62 (pc' := 7) (ls' := [(0, .ref 496), (1, .int (iI 4)), (2, .int (iI (pl (X_av n (X_av n cur)))))]) (st' := [.int (iI (pl (X_av n (X_av n cur)))), .ref 496]) rfl ?_
              refine T_put xr_62_7 h1089 rfl (Nat.le_of_ble_eq_true rfl) rfl (fs' := [.ref 497, .ref B, .int (iI 4), .int (iI (pl (X_av n (X_av n cur))))]) rfl (pc' := 10) rfl (fun S1092 h1093 n1094 e1095 => ?_)
              refine T_vret xr_62_10 xf_62.2.2 ?_
              show X_T sc 66 (60, [(3, .int (iI (X_ix rn rc (ct (X_av n (X_av n cur)))))), (2, .int (iI (pl (X_av n (X_av n cur))))), (1, .int (iI (X_ix rn rc (ct (X_av n cur))))), (0, .ref 496)], [], S1092) _
              refine T_vret xr_66_60 xf_66.2.2 ?_
              refine hQ _ _ ?_
              have h1096 := (n1094 B (by omega)).trans ((n1090 B (by omega)).trans (h1029))
              have hs1097 : C_ws S1092 B D W := C_ws.fr (P := fun r => ¬ (B + 6 ≤ r ∧ r < B + 246)) hs ((((((X_Fr.rf).tr (X_Fr.mono ⟨h946.1, h946.2⟩ (fun q hq => (by omega)))).tr (X_Fr.mono ⟨hf971.1, hf971.2⟩ (fun q hq => (by omega)))).tr (X_Fr.mono ⟨hf1002.1, hf1002.2⟩ (fun q hq => (by omega)))).tr (X_Fr.of n1090 e1091 (by omega))).tr (X_Fr.of n1094 e1095 (by omega))) (fun k h1 h2 => by omega)
              have h1098 := (n1094 497 (by decide)).trans ((n1090 497 (by decide)).trans (hl1001))
              have h1099 := (n1094 (B + 1) (by omega)).trans ((n1090 (B + 1) (by omega)).trans (h1030))
              have h1100 := (n1094 (B + 2) (by omega)).trans ((n1090 (B + 2) (by omega)).trans (h1031))
              have h1101 := (n1094 (B + 3) (by omega)).trans ((n1090 (B + 3) (by omega)).trans (h1032))
              have h1102 := (n1094 (B + 4) (by omega)).trans ((n1090 (B + 4) (by omega)).trans (h1033))
              have h1105 := (n1094 (B + 5) (by omega)).trans ((n1090 (B + 5) (by omega)).trans (h1034))
              have h1106 := (n1094 498 (by decide)).trans ((n1090 498 (by decide)).trans ((hf1002.1 498 (by omega)).trans (h976)))
              have h1107 := (n1094 499 (by decide)).trans ((n1090 499 (by decide)).trans ((hf1002.1 499 (by omega)).trans (h977)))
              have h1108 := (n1094 500 (by decide)).trans ((n1090 500 (by decide)).trans ((hf1002.1 500 (by omega)).trans (h978)))
              have hb1103 : C_bk S1092 B rc kc wc rn lo kn ab := ⟨h1096, h1099, h1100, h1101, h1102, ⟨f, h1105, hf⟩, ⟨by omega, by omega⟩, ⟨by omega, by omega⟩, ⟨by omega, by omega⟩⟩
              have hc1104 : 0 ≤ (X_av n (X_av n (X_av n cur))) ∧ (X_av n (X_av n (X_av n cur))) < n := by omega
              refine Or.inr ⟨?_, 4, pl (X_av n (X_av n cur)), (X_av n (X_av n (X_av n cur)), rc, kc, wc, rn, lo, kn, ab, D, W), by omega, ⟨h1093, ⟨h1098, h1106, h1107, h1108⟩, hb1103, hs1097, hc1104⟩, (((((X_Fr.rf).tr (X_Fr.mono ⟨h946.1, h946.2⟩ (fun q hq => (by omega)))).tr (X_Fr.mono ⟨hf971.1, hf971.2⟩ (fun q hq => (by omega)))).tr (X_Fr.mono ⟨hf1002.1, hf1002.2⟩ (fun q hq => (by omega)))).tr (X_Fr.of n1090 e1091 (by omega))).tr (X_Fr.of n1094 e1095 (by omega))⟩
              simp only [sp_tight]
              subst_vars
              (repeat (first | rw [if_pos (by assumption)] | rw [if_neg (by assumption)]))
              all_goals first | rfl | ((repeat' split) <;> first | rfl | (exfalso; omega))
        · skip
          have c1006 : ¬ (¬ (X_ix rn rc (ct (X_av n (X_av n cur)))) = (-1)) := c1006
          exact (show False by first | contradiction | omega).elim
      · skip
        rw [h986]
        show X_T sc 66 (30, [(2, .int (iI (pl (X_av n (X_av n cur))))), (1, .int (iI (X_ix rn rc (ct (X_av n cur))))), (0, .ref 496)], [.int (iI (-1))], S998) _
        refine T_p xr_66_30 xn_66 (pc' := 31) (ls' := [(3, .int (iI (-1))), (2, .int (iI (pl (X_av n (X_av n cur))))), (1, .int (iI (X_ix rn rc (ct (X_av n cur))))), (0, .ref 496)]) (st' := []) rfl ?_
        refine T_p xr_66_31 xn_66 (pc' := 32) (ls' := [(3, .int (iI (-1))), (2, .int (iI (pl (X_av n (X_av n cur))))), (1, .int (iI (X_ix rn rc (ct (X_av n cur))))), (0, .ref 496)]) (st' := [.int (iI (-1))]) rfl ?_
        refine T_p xr_66_32 xn_66 (pc' := 33) (ls' := [(3, .int (iI (-1))), (2, .int (iI (pl (X_av n (X_av n cur))))), (1, .int (iI (X_ix rn rc (ct (X_av n cur))))), (0, .ref 496)]) (st' := [.int (iI (-1)), .int (iI (-1))]) rfl ?_
        refine T_zicmp_nef xr_66_33 (t := 37) (pc' := 36) rfl rfl (by decide) ?_
        refine T_vret xr_66_36 xf_66.2.2 ?_
        refine hQ _ _ ?_
        have h1109 := (hf1002.1 B (by omega)).trans (h984)
        have hs1110 : C_ws S998 B D W := C_ws.fr (P := fun r => ¬ (B + 6 ≤ r ∧ r < B + 246)) hs ((((X_Fr.rf).tr (X_Fr.mono ⟨h946.1, h946.2⟩ (fun q hq => (by omega)))).tr (X_Fr.mono ⟨hf971.1, hf971.2⟩ (fun q hq => (by omega)))).tr (X_Fr.mono ⟨hf1002.1, hf1002.2⟩ (fun q hq => (by omega)))) (fun k h1 h2 => by omega)
        have h1111 := (hf1002.1 (B + 1) (by omega)).trans (h985)
        have h1112 := (hf1002.1 (B + 2) (by omega)).trans (h991)
        have h1113 := (hf1002.1 (B + 3) (by omega)).trans (h992)
        have h1114 := (hf1002.1 (B + 4) (by omega)).trans (h993)
        have h1117 := (hf1002.1 (B + 5) (by omega)).trans (h994)
        have h1118 := (hf1002.1 498 (by omega)).trans (h976)
        have h1119 := (hf1002.1 499 (by omega)).trans (h977)
        have h1120 := (hf1002.1 500 (by omega)).trans (h978)
        have hb1115 : C_bk S998 B rc kc wc rn lo kn ab := ⟨h1109, h1111, h1112, h1113, h1114, ⟨f, h1117, hf⟩, ⟨by omega, by omega⟩, ⟨by omega, by omega⟩, ⟨by omega, by omega⟩⟩
        have hc1116 : 0 ≤ (X_av n (X_av n cur)) ∧ (X_av n (X_av n cur)) < n := by omega
        refine Or.inr ⟨?_, fl1003, fp1004, ((X_av n (X_av n cur)), rc, kc, wc, rn, lo, kn, ab, D, W), by omega, ⟨hp1000, ⟨hl1001, h1118, h1119, h1120⟩, hb1115, hs1110, hc1116⟩, (((X_Fr.rf).tr (X_Fr.mono ⟨h946.1, h946.2⟩ (fun q hq => (by omega)))).tr (X_Fr.mono ⟨hf971.1, hf971.2⟩ (fun q hq => (by omega)))).tr (X_Fr.mono ⟨hf1002.1, hf1002.2⟩ (fun q hq => (by omega)))⟩
        simp only [sp_tight]
        subst_vars
        (repeat (first | rw [if_pos (by assumption)] | rw [if_neg (by assumption)]))
        all_goals first | rfl | ((repeat' split) <;> first | rfl | (exfalso; omega))
    · skip
      have c975 : ¬ (¬ (X_ix rn rc (ct (X_av n cur))) = (-1)) := c975
      exact (show False by first | contradiction | omega).elim
  · skip
    rw [h955]
    show X_T sc 66 (11, [(0, .ref 496)], [.int (iI (-1))], S967) _
    refine T_p xr_66_11 xn_66 (pc' := 12) (ls' := [(1, .int (iI (-1))), (0, .ref 496)]) (st' := []) rfl ?_
    refine T_p xr_66_12 xn_66 (pc' := 13) (ls' := [(1, .int (iI (-1))), (0, .ref 496)]) (st' := [.int (iI (-1))]) rfl ?_
    refine T_p xr_66_13 xn_66 (pc' := 14) (ls' := [(1, .int (iI (-1))), (0, .ref 496)]) (st' := [.int (iI (-1)), .int (iI (-1))]) rfl ?_
    refine T_zicmp_nef xr_66_14 (t := 18) (pc' := 17) rfl rfl (by decide) ?_
    refine T_vret xr_66_17 xf_66.2.2 ?_
    refine hQ _ _ ?_
    have h1121 := (hf971.1 B (by omega)).trans (h953)
    have hs1122 : C_ws S967 B D W := C_ws.fr (P := fun r => ¬ (B + 6 ≤ r ∧ r < B + 246)) hs (((X_Fr.rf).tr (X_Fr.mono ⟨h946.1, h946.2⟩ (fun q hq => (by omega)))).tr (X_Fr.mono ⟨hf971.1, hf971.2⟩ (fun q hq => (by omega)))) (fun k h1 h2 => by omega)
    have h1123 := (hf971.1 (B + 1) (by omega)).trans (h954)
    have h1124 := (hf971.1 (B + 2) (by omega)).trans (h960)
    have h1125 := (hf971.1 (B + 3) (by omega)).trans (h961)
    have h1126 := (hf971.1 (B + 4) (by omega)).trans (h962)
    have h1129 := (hf971.1 (B + 5) (by omega)).trans (h963)
    have h1130 := (hf971.1 498 (by omega)).trans (h950)
    have h1131 := (hf971.1 499 (by omega)).trans (h951)
    have h1132 := (hf971.1 500 (by omega)).trans (h952)
    have hb1127 : C_bk S967 B rc kc wc rn lo kn ab := ⟨h1121, h1123, h1124, h1125, h1126, ⟨f, h1129, hf⟩, ⟨by omega, by omega⟩, ⟨by omega, by omega⟩, ⟨by omega, by omega⟩⟩
    have hc1128 : 0 ≤ (X_av n cur) ∧ (X_av n cur) < n := by omega
    refine Or.inr ⟨?_, fl972, fp973, ((X_av n cur), rc, kc, wc, rn, lo, kn, ab, D, W), by omega, ⟨hp969, ⟨hl970, h1130, h1131, h1132⟩, hb1127, hs1122, hc1128⟩, ((X_Fr.rf).tr (X_Fr.mono ⟨h946.1, h946.2⟩ (fun q hq => (by omega)))).tr (X_Fr.mono ⟨hf971.1, hf971.2⟩ (fun q hq => (by omega)))⟩
    simp only [sp_tight]
    subst_vars
    (repeat (first | rw [if_pos (by assumption)] | rw [if_neg (by assumption)]))
    all_goals first | rfl | ((repeat' split) <;> first | rfl | (exfalso; omega))
theorem c_parseKind (sc : X_Sc) (S : X_S) (B : Nat) (fp at_ n : Int) (so pl : Int → Int) (ct : Int → Int64) (cur rc kc wc : Int) (rn : Int → Int64) (lo : Int → Int) (kn : Int → Int64) (ab : Int → Int) (D : Int → Nat → Int → Int) (W : Int → Int → Int64)  (hB : 4 ≤ B ∧ B + 246 ≤ 496) (hn : n ≤ 2001) (hso : ∀ i, 0 ≤ i → i < n → 0 ≤ so i ∧ so i ≤ 255) (hK : C_K S B 0 fp at_ n so pl ct (cur, rc, kc, wc, rn, lo, kn, ab, D, W))  : X_T sc 67 (0, [(0, .ref 496)], [], S) (fun v S' => (∃ K, sp_kind n so ct (cur, rc, kc, wc, rn, lo, kn, ab, D, W) = some K ∧ ∃ fp', C_K S' B 0 fp' at_ n so pl ct K ∧ X_Fr (fun q => q = 496 ∨ q = 497 ∨ (B ≤ q ∧ q < B + 246)) S S') ∨ (sp_kind n so ct (cur, rc, kc, wc, rn, lo, kn, ab, D, W) = none ∧ ∃ fl' fp' K, (¬ fl' = 0 ∧ 0 ≤ fl' ∧ fl' ≤ 5) ∧ C_K S' B fl' fp' at_ n so pl ct K ∧ X_Fr (fun q => q = 496 ∨ q = 497 ∨ (B ≤ q ∧ q < B + 246)) S S')) := by
  obtain ⟨hp, hx, hb, hs, hcu⟩ := id hK
  simp only at hx hb hs hcu
  obtain ⟨hb0, hb1, hb2, hb3, hb4, ⟨f, hb5, hf⟩, ⟨hrc, hrcb⟩, ⟨hkc, hkcb⟩, ⟨hwc, hwcb⟩⟩ := id hb
  refine X_QI (fun Q hQ => ?_)
  refine T_p xr_67_0 xn_67 (pc' := 1) (ls' := [(0, .ref 496)]) (st' := [.ref 496]) rfl ?_
  refine T_get xr_67_1 hp rfl (v := .ref B) rfl (pc' := 4) rfl ?_
  refine T_get xr_67_4 hb0 rfl (v := .int (iI kc)) rfl (pc' := 7) rfl ?_
  refine T_p xr_67_7 xn_67 (pc' := 9) (ls' := [(0, .ref 496)]) (st' := [.int (iI 11), .int (iI kc)]) rfl ?_
  refine T_zicmp_ne xr_67_9 (t := 17) (pc' := 12) rfl rfl (fun c1133 => ?_) (fun c1133 => ?_)
  · skip
    have c1133 : ¬ kc = 11 := c1133
    refine T_p xr_67_17 xn_67 (pc' := 18) (ls' := [(0, .ref 496)]) (st' := [.ref 496]) rfl ?_
    refine T_get xr_67_18 hp rfl (v := .ref 497) rfl (pc' := 21) rfl ?_
    refine T_cv (S := S) (q := 497) xr_67_21 xf_48.1 xf_48.2.1 xn_48 (as := []) (r := []) rfl hx.1 (Nat.le_of_ble_eq_true rfl) (Nat.le_of_ble_eq_true rfl) (pc' := 24) rfl (ls' := [(0, .ref 497)]) rfl ?_
    refine T_mono (c_advance sc S at_ n cur so pl ct ⟨hx.1, hx.2.1, hx.2.2.1, hx.2.2.2⟩ (by omega)) (fun v1135 S1136 h1134 => ?_)
    obtain ⟨h1137, h1139, h1138⟩ := h1134
    rw [h1137]
    show X_T sc 67 (24, [(0, .ref 496)], [], S1136) _
    have hv1140 := X_av_r (n := n) (c := cur) (by omega)
    refine T_p xr_67_24 xn_67 (pc' := 25) (ls' := [(0, .ref 496)]) (st' := [.ref 496]) rfl ?_
    have h1141 := (h1138.1 496 (by omega)).trans (hp)
    refine T_get xr_67_25 h1141 rfl (v := .ref 497) rfl (pc' := 28) rfl ?_
    refine T_cv (S := S1136) (q := 497) xr_67_28 xf_44.1 xf_44.2.1 xn_44 (as := []) (r := []) rfl h1139 (Nat.le_of_ble_eq_true rfl) (Nat.le_of_ble_eq_true rfl) (pc' := 31) rfl (ls' := [(0, .ref 497)]) rfl ?_
    have h1142 := (h1138.1 498 (by omega)).trans (hx.2.1)
    have h1143 := (h1138.1 499 (by omega)).trans (hx.2.2.1)
    have h1144 := (h1138.1 500 (by omega)).trans (hx.2.2.2)
    refine T_mono (c_sort sc S1136 at_ n (X_av n cur) so pl ct ⟨h1139, h1142, h1143, h1144⟩ (by omega)) (fun v1146 S1147 h1145 => ?_)
    obtain ⟨h1148, h1149⟩ := h1145
    rw [h1148, h1149]
    show X_T sc 67 (31, [(0, .ref 496)], [.int (iI (so (X_av n cur)))], S1136) _
    have hs1150 := hso (X_av n cur) (by omega) (by omega)
    refine T_p xr_67_31 xn_67 (pc' := 32) (ls' := [(0, .ref 496)]) (st' := [.int (iI 2), .int (iI (so (X_av n cur)))]) rfl ?_
    refine T_zicmp_eq xr_67_32 (t := 40) (pc' := 35) rfl rfl (fun c1151 => ?_) (fun c1151 => ?_)
    · skip
      have c1151 : (so (X_av n cur)) = 2 := c1151
      refine T_p xr_67_40 xn_67 (pc' := 41) (ls' := [(0, .ref 496)]) (st' := [.ref 496]) rfl ?_
      refine T_get xr_67_41 h1141 rfl (v := .ref B) rfl (pc' := 44) rfl ?_
      refine T_p xr_67_44 xn_67 (pc' := 45) (ls' := [(0, .ref 496)]) (st' := [.ref 496, .ref B]) rfl ?_
      refine T_get xr_67_45 h1141 rfl (v := .ref 497) rfl (pc' := 48) rfl ?_
      refine T_cv (S := S1136) (q := 497) xr_67_48 xf_46.1 xf_46.2.1 xn_46 (as := []) (r := [.ref B]) rfl h1139 (Nat.le_of_ble_eq_true rfl) (Nat.le_of_ble_eq_true rfl) (pc' := 51) rfl (ls' := [(0, .ref 497)]) rfl ?_
      refine T_mono (c_content sc S1136 at_ n (X_av n cur) so pl ct ⟨h1139, h1142, h1143, h1144⟩ (by omega)) (fun v1153 S1154 h1152 => ?_)
      obtain ⟨h1155, h1156⟩ := h1152
      rw [h1155, h1156]
      show X_T sc 67 (51, [(0, .ref 496)], [.long (ct (X_av n cur)), .ref B], S1136) _
      have h1157 := (h1138.1 B (by omega)).trans (hb0)
      refine T_cv (S := S1136) (q := B) xr_67_51 xf_5.1 xf_5.2.1 xn_5 (as := [.long (ct (X_av n cur))]) (r := []) rfl h1157 (Nat.le_of_ble_eq_true rfl) (Nat.le_of_ble_eq_true rfl) (pc' := 54) rfl (ls' := [(0, .ref B), (1, .long (ct (X_av n cur)))]) rfl ?_
      have h1165 := (h1138.1 (B + 1) (by omega)).trans (hb1)
      have h1166 := (h1138.1 (B + 2) (by omega)).trans (hb2)
      have h1167 := (h1138.1 (B + 3) (by omega)).trans (hb3)
      have h1168 := (h1138.1 (B + 4) (by omega)).trans (hb4)
      have h1169 := (h1138.1 (B + 5) (by omega)).trans (hb5)
      refine T_mono (c_kindNamed sc S1136 B rc kc wc rn lo kn ab (ct (X_av n cur)) ⟨h1157, h1165, h1166, h1167, h1168, ⟨f, h1169, hf⟩, ⟨by omega, by omega⟩, ⟨by omega, by omega⟩, ⟨by omega, by omega⟩⟩) (fun v1158 S1159 h1160 => ?_)
      obtain ⟨r1161, h1162, hx1163, h1164⟩ := h1160
      rw [h1162, h1164]
      have hr1170 := X_Ix_r (by omega) hx1163
      have hq1171 := X_ix_e hx1163
      show X_T sc 67 (54, [(0, .ref 496)], [.int (iI r1161)], S1136) _
      refine T_p xr_67_54 xn_67 (pc' := 55) (ls' := [(0, .ref 496)]) (st' := [.int (iI (-1)), .int (iI r1161)]) rfl ?_
      refine T_zicmp_eq xr_67_55 (t := 71) (pc' := 58) rfl rfl (fun c1172 => ?_) (fun c1172 => ?_)
      · skip
        have c1172 : r1161 = (-1) := c1172
        refine T_p xr_67_71 xn_67 (pc' := 72) (ls' := [(0, .ref 496)]) (st' := [.ref 496]) rfl ?_
        refine T_get xr_67_72 h1141 rfl (v := .ref 497) rfl (pc' := 75) rfl ?_
        refine T_cv (S := S1136) (q := 497) xr_67_75 xf_46.1 xf_46.2.1 xn_46 (as := []) (r := []) rfl h1139 (Nat.le_of_ble_eq_true rfl) (Nat.le_of_ble_eq_true rfl) (pc' := 78) rfl (ls' := [(0, .ref 497)]) rfl ?_
        refine T_mono (c_content sc S1136 at_ n (X_av n cur) so pl ct ⟨h1139, h1142, h1143, h1144⟩ (by omega)) (fun v1174 S1175 h1173 => ?_)
        obtain ⟨h1176, h1177⟩ := h1173
        rw [h1176, h1177]
        show X_T sc 67 (78, [(0, .ref 496)], [.long (ct (X_av n cur))], S1136) _
        refine T_p xr_67_78 xn_67 (pc' := 79) (ls' := [(1, .long (ct (X_av n cur))), (0, .ref 496)]) (st' := []) rfl ?_
        refine T_p xr_67_79 xn_67 (pc' := 80) (ls' := [(1, .long (ct (X_av n cur))), (0, .ref 496)]) (st' := [.int (iI 0)]) rfl ?_
        refine T_p xr_67_80 xn_67 (pc' := 81) (ls' := [(3, .int (iI 0)), (1, .long (ct (X_av n cur))), (0, .ref 496)]) (st' := []) rfl ?_
        refine T_p xr_67_81 xn_67 (pc' := 82) (ls' := [(3, .int (iI 0)), (1, .long (ct (X_av n cur))), (0, .ref 496)]) (st' := [.ref 496]) rfl ?_
        refine T_get xr_67_82 h1141 rfl (v := .ref 497) rfl (pc' := 85) rfl ?_
        refine T_cv (S := S1136) (q := 497) xr_67_85 xf_48.1 xf_48.2.1 xn_48 (as := []) (r := []) rfl h1139 (Nat.le_of_ble_eq_true rfl) (Nat.le_of_ble_eq_true rfl) (pc' := 88) rfl (ls' := [(0, .ref 497)]) rfl ?_
        refine T_mono (c_advance sc S1136 at_ n (X_av n cur) so pl ct ⟨h1139, h1142, h1143, h1144⟩ (by omega)) (fun v1179 S1180 h1178 => ?_)
        obtain ⟨h1181, h1183, h1182⟩ := h1178
        rw [h1181]
        show X_T sc 67 (88, [(3, .int (iI 0)), (1, .long (ct (X_av n cur))), (0, .ref 496)], [], S1180) _
        have hv1184 := X_av_r (n := n) (c := (X_av n cur)) (by omega)
        refine T_p xr_67_88 xn_67 (pc' := 89) (ls' := [(3, .int (iI 0)), (1, .long (ct (X_av n cur))), (0, .ref 496)]) (st' := [.ref 496]) rfl ?_
        have h1185 := (h1182.1 496 (by omega)).trans (h1141)
        refine T_get xr_67_89 h1185 rfl (v := .ref 497) rfl (pc' := 92) rfl ?_
        refine T_p xr_67_92 xn_67 (pc' := 95) (ls' := [(3, .int (iI 0)), (1, .long (ct (X_av n cur))), (0, .ref 496)]) (st' := [.long (Int64.ofNat 504363246962), .ref 497]) rfl ?_
        refine T_cv (S := S1180) (q := 497) xr_67_95 xf_47.1 xf_47.2.1 xn_47 (as := [.long (Int64.ofNat 504363246962)]) (r := []) rfl h1183 (Nat.le_of_ble_eq_true rfl) (Nat.le_of_ble_eq_true rfl) (pc' := 98) rfl (ls' := [(0, .ref 497), (1, .long (Int64.ofNat 504363246962))]) rfl ?_
        have h1186 := (h1182.1 498 (by omega)).trans (h1142)
        have h1187 := (h1182.1 499 (by omega)).trans (h1143)
        have h1188 := (h1182.1 500 (by omega)).trans (h1144)
        refine T_mono (c_isKeyword sc S1180 at_ n (X_av n (X_av n cur)) so pl ct (Int64.ofNat 504363246962) ⟨h1183, h1186, h1187, h1188⟩ (by omega) hso) (fun v1190 S1191 h1189 => ?_)
        obtain ⟨h1192, h1193⟩ := h1189
        rw [h1192, h1193]
        show X_T sc 67 (98, [(3, .int (iI 0)), (1, .long (ct (X_av n cur))), (0, .ref 496)], [.int (iI (bI (so (X_av n (X_av n cur)) = 3 ∧ ct (X_av n (X_av n cur)) = (Int64.ofNat 504363246962))))], S1180) _
        refine T_bif_eq xr_67_98 (t := 113) (pc' := 101) rfl rfl (fun c1194 => ?_) (fun c1194 => ?_)
        · skip
          have c1194 : ¬ (so (X_av n (X_av n cur)) = 3 ∧ ct (X_av n (X_av n cur)) = (Int64.ofNat 504363246962)) := c1194
          refine T_p xr_67_113 xn_67 (pc' := 114) (ls' := [(3, .int (iI 0)), (1, .long (ct (X_av n cur))), (0, .ref 496)]) (st' := [.int (iI 0)]) rfl ?_
          refine T_p xr_67_114 xn_67 (pc' := 115) (ls' := [(3, .int (iI 0)), (1, .long (ct (X_av n cur))), (0, .ref 496)]) (st' := [.int (iI (-1)), .int (iI 0)]) rfl ?_
          refine T_zicmp_eqf xr_67_115 (t := 136) (pc' := 118) rfl rfl (by decide) ?_
          refine T_p xr_67_118 xn_67 (pc' := 119) (ls' := [(3, .int (iI 0)), (1, .long (ct (X_av n cur))), (0, .ref 496)]) (st' := [.ref 496]) rfl ?_
          refine T_p xr_67_119 xn_67 (pc' := 121) (ls' := [(3, .int (iI 0)), (1, .long (ct (X_av n cur))), (0, .ref 496)]) (st' := [.int (iI 59), .ref 496]) rfl ?_
          refine T_cv (S := S1180) (q := 496) xr_67_121 xf_64.1 xf_64.2.1 xn_64 (as := [.int (iI 59)]) (r := []) rfl h1185 (Nat.le_of_ble_eq_true rfl) (Nat.le_of_ble_eq_true rfl) (pc' := 124) rfl (ls' := [(0, .ref 496), (1, .int (iI 59))]) rfl ?_
          refine T_mono (c_pass sc S1180 B 0 fp at_ n (X_av n (X_av n cur)) so pl ct 59 h1185 ⟨h1183, h1186, h1187, h1188⟩ (by omega) hso (by omega)) (fun v1198 S1199 h1200 => ?_)
          rcases h1200 with ⟨hv1195, hc1196, hp1201, hl1202, hf1203⟩ | ⟨hv1195, hc1196, ⟨fl1204, fp1205, hn1206, hp1201⟩, hl1202, hf1203⟩
          · skip
            rw [hv1195]
            have hv1197 := X_av_r (n := n) (c := (X_av n (X_av n cur))) (by omega)
            show X_T sc 67 (124, [(3, .int (iI 0)), (1, .long (ct (X_av n cur))), (0, .ref 496)], [.int (iI 1)], S1199) _
            refine T_zif_eqf xr_67_124 (t := 136) (pc' := 127) rfl rfl (by decide) ?_
            refine T_p xr_67_127 xn_67 (pc' := 128) (ls' := [(3, .int (iI 0)), (1, .long (ct (X_av n cur))), (0, .ref 496)]) (st' := [.ref 496]) rfl ?_
            refine T_get xr_67_128 hp1201 rfl (v := .ref B) rfl (pc' := 131) rfl ?_
            refine T_p xr_67_131 xn_67 (pc' := 132) (ls' := [(3, .int (iI 0)), (1, .long (ct (X_av n cur))), (0, .ref 496)]) (st' := [.long (ct (X_av n cur)), .ref B]) rfl ?_
            refine T_p xr_67_132 xn_67 (pc' := 133) (ls' := [(3, .int (iI 0)), (1, .long (ct (X_av n cur))), (0, .ref 496)]) (st' := [.int (iI 0), .long (ct (X_av n cur)), .ref B]) rfl ?_
            have h1207 := (hf1203.1 B (by omega)).trans ((h1182.1 B (by omega)).trans (h1157))
            refine T_cv (S := S1199) (q := B) xr_67_133 xf_8.1 xf_8.2.1 xn_8 (as := [.long (ct (X_av n cur)), .int (iI 0)]) (r := []) rfl h1207 (Nat.le_of_ble_eq_true rfl) (Nat.le_of_ble_eq_true rfl) (pc' := 136) rfl (ls' := [(0, .ref B), (1, .long (ct (X_av n cur))), (3, .int (iI 0))]) rfl ?_
            have h1214 := (hf1203.1 (B + 1) (by omega)).trans ((h1182.1 (B + 1) (by omega)).trans (h1165))
            have h1215 := (hf1203.1 (B + 2) (by omega)).trans ((h1182.1 (B + 2) (by omega)).trans (h1166))
            have h1216 := (hf1203.1 (B + 3) (by omega)).trans ((h1182.1 (B + 3) (by omega)).trans (h1167))
            have h1217 := (hf1203.1 (B + 4) (by omega)).trans ((h1182.1 (B + 4) (by omega)).trans (h1168))
            have h1218 := (hf1203.1 (B + 5) (by omega)).trans ((h1182.1 (B + 5) (by omega)).trans (h1169))
            refine T_mono (c_addKind sc S1199 B rc kc wc rn lo kn ab (ct (X_av n cur)) 0 ⟨h1207, h1214, h1215, h1216, h1217, ⟨f, h1218, hf⟩, ⟨by omega, by omega⟩, ⟨by omega, by omega⟩, ⟨by omega, by omega⟩⟩ (by omega) (by omega)) (fun v1208 S1209 h1210 => ?_)
            obtain ⟨h1211, hb1212, h1213⟩ := h1210
            rw [h1211]
            show X_T sc 67 (136, [(3, .int (iI 0)), (1, .long (ct (X_av n cur))), (0, .ref 496)], [], S1209) _
            refine T_vret xr_67_136 xf_67.2.2 ?_
            refine hQ _ _ ?_
            have h1219 := (h1213.1 496 (by omega)).trans (hp1201)
            have hs1220 : C_ws S1209 B D W := C_ws.fr (P := fun r => ¬ (B + 6 ≤ r ∧ r < B + 246)) hs (((((X_Fr.rf).tr (X_Fr.mono ⟨h1138.1, h1138.2⟩ (fun q hq => (by omega)))).tr (X_Fr.mono ⟨h1182.1, h1182.2⟩ (fun q hq => (by omega)))).tr (X_Fr.mono ⟨hf1203.1, hf1203.2⟩ (fun q hq => (by omega)))).tr (X_Fr.mono ⟨h1213.1, h1213.2⟩ (fun q hq => (by omega)))) (fun k h1 h2 => by omega)
            have h1221 := (h1213.1 497 (by omega)).trans (hl1202)
            have h1224 := (h1213.1 (B + 5) (by omega)).trans (h1218)
            have h1225 := (h1213.1 498 (by omega)).trans ((hf1203.1 498 (by omega)).trans (h1186))
            have h1226 := (h1213.1 499 (by omega)).trans ((hf1203.1 499 (by omega)).trans (h1187))
            have h1227 := (h1213.1 500 (by omega)).trans ((hf1203.1 500 (by omega)).trans (h1188))
            have hb1222 : C_bk S1209 B rc (kc + 1) wc rn lo (X_ug kn kc (ct (X_av n cur))) (X_ug ab kc (X_bO (ab 0) (X_bS kc))) := ⟨hb1212.1, hb1212.2.1, hb1212.2.2.1, hb1212.2.2.2.1, hb1212.2.2.2.2.1, ⟨f, h1224, hf⟩, ⟨by omega, by omega⟩, ⟨by omega, by omega⟩, ⟨by omega, by omega⟩⟩
            have hc1223 : 0 ≤ (X_av n (X_av n (X_av n cur))) ∧ (X_av n (X_av n (X_av n cur))) < n := by omega
            refine Or.inl ⟨(X_av n (X_av n (X_av n cur)), rc, kc + 1, wc, rn, lo, (X_ug kn kc (ct (X_av n cur))), (X_ug ab kc (X_bO (ab 0) (X_bS kc))), D, W), ?_, fp, ⟨h1219, ⟨h1221, h1225, h1226, h1227⟩, hb1222, hs1220, hc1223⟩, ((((X_Fr.rf).tr (X_Fr.mono ⟨h1138.1, h1138.2⟩ (fun q hq => (by omega)))).tr (X_Fr.mono ⟨h1182.1, h1182.2⟩ (fun q hq => (by omega)))).tr (X_Fr.mono ⟨hf1203.1, hf1203.2⟩ (fun q hq => (by omega)))).tr (X_Fr.mono ⟨h1213.1, h1213.2⟩ (fun q hq => (by omega)))⟩
            simp only [sp_kind]
            subst_vars
            (repeat (first | rw [if_pos (by assumption)] | rw [if_neg (by assumption)]))
            all_goals first | rfl | ((repeat' split) <;> first | rfl | (exfalso; omega))
          · skip
            rw [hv1195]
            show X_T sc 67 (124, [(3, .int (iI 0)), (1, .long (ct (X_av n cur))), (0, .ref 496)], [.int (iI 0)], S1199) _
            refine T_zif_eqt xr_67_124 (t := 136) rfl (by decide) ?_
            refine T_vret xr_67_136 xf_67.2.2 ?_
            refine hQ _ _ ?_
            have h1228 := (hf1203.1 B (by omega)).trans ((h1182.1 B (by omega)).trans (h1157))
            have hs1229 : C_ws S1199 B D W := C_ws.fr (P := fun r => ¬ (B + 6 ≤ r ∧ r < B + 246)) hs ((((X_Fr.rf).tr (X_Fr.mono ⟨h1138.1, h1138.2⟩ (fun q hq => (by omega)))).tr (X_Fr.mono ⟨h1182.1, h1182.2⟩ (fun q hq => (by omega)))).tr (X_Fr.mono ⟨hf1203.1, hf1203.2⟩ (fun q hq => (by omega)))) (fun k h1 h2 => by omega)
            have h1230 := (hf1203.1 (B + 1) (by omega)).trans ((h1182.1 (B + 1) (by omega)).trans (h1165))
            have h1231 := (hf1203.1 (B + 2) (by omega)).trans ((h1182.1 (B + 2) (by omega)).trans (h1166))
            have h1232 := (hf1203.1 (B + 3) (by omega)).trans ((h1182.1 (B + 3) (by omega)).trans (h1167))
            have h1233 := (hf1203.1 (B + 4) (by omega)).trans ((h1182.1 (B + 4) (by omega)).trans (h1168))
            have h1236 := (hf1203.1 (B + 5) (by omega)).trans ((h1182.1 (B + 5) (by omega)).trans (h1169))
            have h1237 := (hf1203.1 498 (by omega)).trans (h1186)
            have h1238 := (hf1203.1 499 (by omega)).trans (h1187)
            have h1239 := (hf1203.1 500 (by omega)).trans (h1188)
            have hb1234 : C_bk S1199 B rc kc wc rn lo kn ab := ⟨h1228, h1230, h1231, h1232, h1233, ⟨f, h1236, hf⟩, ⟨by omega, by omega⟩, ⟨by omega, by omega⟩, ⟨by omega, by omega⟩⟩
            have hc1235 : 0 ≤ (X_av n (X_av n cur)) ∧ (X_av n (X_av n cur)) < n := by omega
            refine Or.inr ⟨?_, fl1204, fp1205, ((X_av n (X_av n cur)), rc, kc, wc, rn, lo, kn, ab, D, W), by omega, ⟨hp1201, ⟨hl1202, h1237, h1238, h1239⟩, hb1234, hs1229, hc1235⟩, (((X_Fr.rf).tr (X_Fr.mono ⟨h1138.1, h1138.2⟩ (fun q hq => (by omega)))).tr (X_Fr.mono ⟨h1182.1, h1182.2⟩ (fun q hq => (by omega)))).tr (X_Fr.mono ⟨hf1203.1, hf1203.2⟩ (fun q hq => (by omega)))⟩
            simp only [sp_kind]
            subst_vars
            (repeat (first | rw [if_pos (by assumption)] | rw [if_neg (by assumption)]))
            all_goals first | rfl | ((repeat' split) <;> first | rfl | (exfalso; omega))
        · skip
          have c1194 : (so (X_av n (X_av n cur)) = 3 ∧ ct (X_av n (X_av n cur)) = (Int64.ofNat 504363246962)) := c1194
          refine T_p xr_67_101 xn_67 (pc' := 102) (ls' := [(3, .int (iI 0)), (1, .long (ct (X_av n cur))), (0, .ref 496)]) (st' := [.ref 496]) rfl ?_
          refine T_get xr_67_102 h1185 rfl (v := .ref 497) rfl (pc' := 105) rfl ?_
          refine T_cv (S := S1180) (q := 497) xr_67_105 xf_48.1 xf_48.2.1 xn_48 (as := []) (r := []) rfl h1183 (Nat.le_of_ble_eq_true rfl) (Nat.le_of_ble_eq_true rfl) (pc' := 108) rfl (ls' := [(0, .ref 497)]) rfl ?_
          refine T_mono (c_advance sc S1180 at_ n (X_av n (X_av n cur)) so pl ct ⟨h1183, h1186, h1187, h1188⟩ (by omega)) (fun v1241 S1242 h1240 => ?_)
          obtain ⟨h1243, h1245, h1244⟩ := h1240
          rw [h1243]
          show X_T sc 67 (108, [(3, .int (iI 0)), (1, .long (ct (X_av n cur))), (0, .ref 496)], [], S1242) _
          have hv1246 := X_av_r (n := n) (c := (X_av n (X_av n cur))) (by omega)
          refine T_p xr_67_108 xn_67 (pc' := 109) (ls' := [(3, .int (iI 0)), (1, .long (ct (X_av n cur))), (0, .ref 496)]) (st' := [.ref 496]) rfl ?_
          have h1247 := (h1244.1 496 (by omega)).trans (h1185)
          refine T_cv (S := S1242) (q := 496) xr_67_109 xf_69.1 xf_69.2.1 xn_69 (as := []) (r := []) rfl h1247 (Nat.le_of_ble_eq_true rfl) (Nat.le_of_ble_eq_true rfl) (pc' := 112) rfl (ls' := [(0, .ref 496)]) rfl ?_
          have h1248 := (h1244.1 498 (by omega)).trans (h1186)
          have h1249 := (h1244.1 499 (by omega)).trans (h1187)
          have h1250 := (h1244.1 500 (by omega)).trans (h1188)
          have h1251 := (h1244.1 B (by omega)).trans ((h1182.1 B (by omega)).trans (h1157))
          have h1252 := (h1244.1 (B + 3) (by omega)).trans ((h1182.1 (B + 3) (by omega)).trans (h1167))
          have h1258 := (h1244.1 (B + 1) (by omega)).trans ((h1182.1 (B + 1) (by omega)).trans (h1165))
          have h1259 := (h1244.1 (B + 2) (by omega)).trans ((h1182.1 (B + 2) (by omega)).trans (h1166))
          have h1260 := (h1244.1 (B + 4) (by omega)).trans ((h1182.1 (B + 4) (by omega)).trans (h1168))
          have h1261 := (h1244.1 (B + 5) (by omega)).trans ((h1182.1 (B + 5) (by omega)).trans (h1169))
          have hb1262 : C_bk S1242 B rc kc wc rn lo kn ab := ⟨h1251, h1258, h1259, h1252, h1260, ⟨f, h1261, hf⟩, ⟨by omega, by omega⟩, ⟨by omega, by omega⟩, ⟨by omega, by omega⟩⟩
          refine T_mono (c_passKind sc S1242 B 0 fp at_ n (X_av n (X_av n (X_av n cur))) so pl ct rc kc wc rn lo kn ab h1247 ⟨h1245, h1248, h1249, h1250⟩ (by omega) hso hB hb1262) (fun v1264 S1265 h1266 => ?_)
          rcases h1266 with ⟨h1253, h1254, h1255, h1256, hp1267, hl1268, hf1269⟩ | ⟨h1253, h1257, ⟨fl1270, fp1271, hn1272, hp1267⟩, hl1268, hf1269⟩
          · skip
            rw [h1253]
            have hv1263 := X_av_r (n := n) (c := (X_av n (X_av n (X_av n cur)))) (by omega)
            show X_T sc 67 (112, [(3, .int (iI 0)), (1, .long (ct (X_av n cur))), (0, .ref 496)], [.int (iI (X_ix kn kc (ct (X_av n (X_av n (X_av n cur))))))], S1265) _
            refine T_p xr_67_112 xn_67 (pc' := 113) (ls' := [(3, .int (iI (X_ix kn kc (ct (X_av n (X_av n (X_av n cur))))))), (1, .long (ct (X_av n cur))), (0, .ref 496)]) (st' := []) rfl ?_
            refine T_p xr_67_113 xn_67 (pc' := 114) (ls' := [(3, .int (iI (X_ix kn kc (ct (X_av n (X_av n (X_av n cur))))))), (1, .long (ct (X_av n cur))), (0, .ref 496)]) (st' := [.int (iI (X_ix kn kc (ct (X_av n (X_av n (X_av n cur))))))]) rfl ?_
            refine T_p xr_67_114 xn_67 (pc' := 115) (ls' := [(3, .int (iI (X_ix kn kc (ct (X_av n (X_av n (X_av n cur))))))), (1, .long (ct (X_av n cur))), (0, .ref 496)]) (st' := [.int (iI (-1)), .int (iI (X_ix kn kc (ct (X_av n (X_av n (X_av n cur))))))]) rfl ?_
            refine T_zicmp_eq xr_67_115 (t := 136) (pc' := 118) rfl rfl (fun c1273 => ?_) (fun c1273 => ?_)
            · skip
              have c1273 : (X_ix kn kc (ct (X_av n (X_av n (X_av n cur))))) = (-1) := c1273
              exact (show False by first | contradiction | omega).elim
            · skip
              have c1273 : ¬ ((X_ix kn kc (ct (X_av n (X_av n (X_av n cur))))) = (-1)) := c1273
              refine T_p xr_67_118 xn_67 (pc' := 119) (ls' := [(3, .int (iI (X_ix kn kc (ct (X_av n (X_av n (X_av n cur))))))), (1, .long (ct (X_av n cur))), (0, .ref 496)]) (st' := [.ref 496]) rfl ?_
              refine T_p xr_67_119 xn_67 (pc' := 121) (ls' := [(3, .int (iI (X_ix kn kc (ct (X_av n (X_av n (X_av n cur))))))), (1, .long (ct (X_av n cur))), (0, .ref 496)]) (st' := [.int (iI 59), .ref 496]) rfl ?_
              refine T_cv (S := S1265) (q := 496) xr_67_121 xf_64.1 xf_64.2.1 xn_64 (as := [.int (iI 59)]) (r := []) rfl hp1267 (Nat.le_of_ble_eq_true rfl) (Nat.le_of_ble_eq_true rfl) (pc' := 124) rfl (ls' := [(0, .ref 496), (1, .int (iI 59))]) rfl ?_
              have h1274 := (hf1269.1 498 (by omega)).trans (h1248)
              have h1275 := (hf1269.1 499 (by omega)).trans (h1249)
              have h1276 := (hf1269.1 500 (by omega)).trans (h1250)
              refine T_mono (c_pass sc S1265 B 0 fp at_ n (X_av n (X_av n (X_av n (X_av n cur)))) so pl ct 59 hp1267 ⟨hl1268, h1274, h1275, h1276⟩ (by omega) hso (by omega)) (fun v1280 S1281 h1282 => ?_)
              rcases h1282 with ⟨hv1277, hc1278, hp1283, hl1284, hf1285⟩ | ⟨hv1277, hc1278, ⟨fl1286, fp1287, hn1288, hp1283⟩, hl1284, hf1285⟩
              · skip
                rw [hv1277]
                have hv1279 := X_av_r (n := n) (c := (X_av n (X_av n (X_av n (X_av n cur))))) (by omega)
                show X_T sc 67 (124, [(3, .int (iI (X_ix kn kc (ct (X_av n (X_av n (X_av n cur))))))), (1, .long (ct (X_av n cur))), (0, .ref 496)], [.int (iI 1)], S1281) _
                refine T_zif_eqf xr_67_124 (t := 136) (pc' := 127) rfl rfl (by decide) ?_
                refine T_p xr_67_127 xn_67 (pc' := 128) (ls' := [(3, .int (iI (X_ix kn kc (ct (X_av n (X_av n (X_av n cur))))))), (1, .long (ct (X_av n cur))), (0, .ref 496)]) (st' := [.ref 496]) rfl ?_
                refine T_get xr_67_128 hp1283 rfl (v := .ref B) rfl (pc' := 131) rfl ?_
                refine T_p xr_67_131 xn_67 (pc' := 132) (ls' := [(3, .int (iI (X_ix kn kc (ct (X_av n (X_av n (X_av n cur))))))), (1, .long (ct (X_av n cur))), (0, .ref 496)]) (st' := [.long (ct (X_av n cur)), .ref B]) rfl ?_
                refine T_p xr_67_132 xn_67 (pc' := 133) (ls' := [(3, .int (iI (X_ix kn kc (ct (X_av n (X_av n (X_av n cur))))))), (1, .long (ct (X_av n cur))), (0, .ref 496)]) (st' := [.int (iI (X_ix kn kc (ct (X_av n (X_av n (X_av n cur)))))), .long (ct (X_av n cur)), .ref B]) rfl ?_
                have h1289 := (hf1285.1 B (by omega)).trans ((hf1269.1 B (by omega)).trans (h1251))
                refine T_cv (S := S1281) (q := B) xr_67_133 xf_8.1 xf_8.2.1 xn_8 (as := [.long (ct (X_av n cur)), .int (iI (X_ix kn kc (ct (X_av n (X_av n (X_av n cur))))))]) (r := []) rfl h1289 (Nat.le_of_ble_eq_true rfl) (Nat.le_of_ble_eq_true rfl) (pc' := 136) rfl (ls' := [(0, .ref B), (1, .long (ct (X_av n cur))), (3, .int (iI (X_ix kn kc (ct (X_av n (X_av n (X_av n cur)))))))]) rfl ?_
                have h1296 := (hf1285.1 (B + 1) (by omega)).trans ((hf1269.1 (B + 1) (by omega)).trans (h1258))
                have h1297 := (hf1285.1 (B + 2) (by omega)).trans ((hf1269.1 (B + 2) (by omega)).trans (h1259))
                have h1298 := (hf1285.1 (B + 3) (by omega)).trans ((hf1269.1 (B + 3) (by omega)).trans (h1252))
                have h1299 := (hf1285.1 (B + 4) (by omega)).trans ((hf1269.1 (B + 4) (by omega)).trans (h1260))
                have h1300 := (hf1285.1 (B + 5) (by omega)).trans ((hf1269.1 (B + 5) (by omega)).trans (h1261))
                refine T_mono (c_addKind sc S1281 B rc kc wc rn lo kn ab (ct (X_av n cur)) (X_ix kn kc (ct (X_av n (X_av n (X_av n cur))))) ⟨h1289, h1296, h1297, h1298, h1299, ⟨f, h1300, hf⟩, ⟨by omega, by omega⟩, ⟨by omega, by omega⟩, ⟨by omega, by omega⟩⟩ (by omega) (by omega)) (fun v1290 S1291 h1292 => ?_)
                obtain ⟨h1293, hb1294, h1295⟩ := h1292
                rw [h1293]
                show X_T sc 67 (136, [(3, .int (iI (X_ix kn kc (ct (X_av n (X_av n (X_av n cur))))))), (1, .long (ct (X_av n cur))), (0, .ref 496)], [], S1291) _
                refine T_vret xr_67_136 xf_67.2.2 ?_
                refine hQ _ _ ?_
                have h1301 := (h1295.1 496 (by omega)).trans (hp1283)
                have hs1302 : C_ws S1291 B D W := C_ws.fr (P := fun r => ¬ (B + 6 ≤ r ∧ r < B + 246)) hs (((((((X_Fr.rf).tr (X_Fr.mono ⟨h1138.1, h1138.2⟩ (fun q hq => (by omega)))).tr (X_Fr.mono ⟨h1182.1, h1182.2⟩ (fun q hq => (by omega)))).tr (X_Fr.mono ⟨h1244.1, h1244.2⟩ (fun q hq => (by omega)))).tr (X_Fr.mono ⟨hf1269.1, hf1269.2⟩ (fun q hq => (by omega)))).tr (X_Fr.mono ⟨hf1285.1, hf1285.2⟩ (fun q hq => (by omega)))).tr (X_Fr.mono ⟨h1295.1, h1295.2⟩ (fun q hq => (by omega)))) (fun k h1 h2 => by omega)
                have h1303 := (h1295.1 497 (by omega)).trans (hl1284)
                have h1306 := (h1295.1 (B + 5) (by omega)).trans (h1300)
                have h1307 := (h1295.1 498 (by omega)).trans ((hf1285.1 498 (by omega)).trans (h1274))
                have h1308 := (h1295.1 499 (by omega)).trans ((hf1285.1 499 (by omega)).trans (h1275))
                have h1309 := (h1295.1 500 (by omega)).trans ((hf1285.1 500 (by omega)).trans (h1276))
                have hb1304 : C_bk S1291 B rc (kc + 1) wc rn lo (X_ug kn kc (ct (X_av n cur))) (X_ug ab kc (X_bO (ab (X_ix kn kc (ct (X_av n (X_av n (X_av n cur)))))) (X_bS kc))) := ⟨hb1294.1, hb1294.2.1, hb1294.2.2.1, hb1294.2.2.2.1, hb1294.2.2.2.2.1, ⟨f, h1306, hf⟩, ⟨by omega, by omega⟩, ⟨by omega, by omega⟩, ⟨by omega, by omega⟩⟩
                have hc1305 : 0 ≤ (X_av n (X_av n (X_av n (X_av n (X_av n cur))))) ∧ (X_av n (X_av n (X_av n (X_av n (X_av n cur))))) < n := by omega
                refine Or.inl ⟨(X_av n (X_av n (X_av n (X_av n (X_av n cur)))), rc, kc + 1, wc, rn, lo, (X_ug kn kc (ct (X_av n cur))), (X_ug ab kc (X_bO (ab (X_ix kn kc (ct (X_av n (X_av n (X_av n cur)))))) (X_bS kc))), D, W), ?_, fp, ⟨h1301, ⟨h1303, h1307, h1308, h1309⟩, hb1304, hs1302, hc1305⟩, ((((((X_Fr.rf).tr (X_Fr.mono ⟨h1138.1, h1138.2⟩ (fun q hq => (by omega)))).tr (X_Fr.mono ⟨h1182.1, h1182.2⟩ (fun q hq => (by omega)))).tr (X_Fr.mono ⟨h1244.1, h1244.2⟩ (fun q hq => (by omega)))).tr (X_Fr.mono ⟨hf1269.1, hf1269.2⟩ (fun q hq => (by omega)))).tr (X_Fr.mono ⟨hf1285.1, hf1285.2⟩ (fun q hq => (by omega)))).tr (X_Fr.mono ⟨h1295.1, h1295.2⟩ (fun q hq => (by omega)))⟩
                simp only [sp_kind]
                subst_vars
                (repeat (first | rw [if_pos (by assumption)] | rw [if_neg (by assumption)]))
                all_goals first | rfl | ((repeat' split) <;> first | rfl | (exfalso; omega))
              · skip
                rw [hv1277]
                show X_T sc 67 (124, [(3, .int (iI (X_ix kn kc (ct (X_av n (X_av n (X_av n cur))))))), (1, .long (ct (X_av n cur))), (0, .ref 496)], [.int (iI 0)], S1281) _
                refine T_zif_eqt xr_67_124 (t := 136) rfl (by decide) ?_
                refine T_vret xr_67_136 xf_67.2.2 ?_
                refine hQ _ _ ?_
                have h1310 := (hf1285.1 B (by omega)).trans ((hf1269.1 B (by omega)).trans (h1251))
                have hs1311 : C_ws S1281 B D W := C_ws.fr (P := fun r => ¬ (B + 6 ≤ r ∧ r < B + 246)) hs ((((((X_Fr.rf).tr (X_Fr.mono ⟨h1138.1, h1138.2⟩ (fun q hq => (by omega)))).tr (X_Fr.mono ⟨h1182.1, h1182.2⟩ (fun q hq => (by omega)))).tr (X_Fr.mono ⟨h1244.1, h1244.2⟩ (fun q hq => (by omega)))).tr (X_Fr.mono ⟨hf1269.1, hf1269.2⟩ (fun q hq => (by omega)))).tr (X_Fr.mono ⟨hf1285.1, hf1285.2⟩ (fun q hq => (by omega)))) (fun k h1 h2 => by omega)
                have h1312 := (hf1285.1 (B + 1) (by omega)).trans ((hf1269.1 (B + 1) (by omega)).trans (h1258))
                have h1313 := (hf1285.1 (B + 2) (by omega)).trans ((hf1269.1 (B + 2) (by omega)).trans (h1259))
                have h1314 := (hf1285.1 (B + 3) (by omega)).trans ((hf1269.1 (B + 3) (by omega)).trans (h1252))
                have h1315 := (hf1285.1 (B + 4) (by omega)).trans ((hf1269.1 (B + 4) (by omega)).trans (h1260))
                have h1318 := (hf1285.1 (B + 5) (by omega)).trans ((hf1269.1 (B + 5) (by omega)).trans (h1261))
                have h1319 := (hf1285.1 498 (by omega)).trans (h1274)
                have h1320 := (hf1285.1 499 (by omega)).trans (h1275)
                have h1321 := (hf1285.1 500 (by omega)).trans (h1276)
                have hb1316 : C_bk S1281 B rc kc wc rn lo kn ab := ⟨h1310, h1312, h1313, h1314, h1315, ⟨f, h1318, hf⟩, ⟨by omega, by omega⟩, ⟨by omega, by omega⟩, ⟨by omega, by omega⟩⟩
                have hc1317 : 0 ≤ (X_av n (X_av n (X_av n (X_av n cur)))) ∧ (X_av n (X_av n (X_av n (X_av n cur)))) < n := by omega
                refine Or.inr ⟨?_, fl1286, fp1287, ((X_av n (X_av n (X_av n (X_av n cur)))), rc, kc, wc, rn, lo, kn, ab, D, W), by omega, ⟨hp1283, ⟨hl1284, h1319, h1320, h1321⟩, hb1316, hs1311, hc1317⟩, (((((X_Fr.rf).tr (X_Fr.mono ⟨h1138.1, h1138.2⟩ (fun q hq => (by omega)))).tr (X_Fr.mono ⟨h1182.1, h1182.2⟩ (fun q hq => (by omega)))).tr (X_Fr.mono ⟨h1244.1, h1244.2⟩ (fun q hq => (by omega)))).tr (X_Fr.mono ⟨hf1269.1, hf1269.2⟩ (fun q hq => (by omega)))).tr (X_Fr.mono ⟨hf1285.1, hf1285.2⟩ (fun q hq => (by omega)))⟩
                simp only [sp_kind]
                subst_vars
                (repeat (first | rw [if_pos (by assumption)] | rw [if_neg (by assumption)]))
                all_goals first | rfl | ((repeat' split) <;> first | rfl | (exfalso; omega))
          · skip
            rw [h1253]
            show X_T sc 67 (112, [(3, .int (iI 0)), (1, .long (ct (X_av n cur))), (0, .ref 496)], [.int (iI (-1))], S1265) _
            refine T_p xr_67_112 xn_67 (pc' := 113) (ls' := [(3, .int (iI (-1))), (1, .long (ct (X_av n cur))), (0, .ref 496)]) (st' := []) rfl ?_
            refine T_p xr_67_113 xn_67 (pc' := 114) (ls' := [(3, .int (iI (-1))), (1, .long (ct (X_av n cur))), (0, .ref 496)]) (st' := [.int (iI (-1))]) rfl ?_
            refine T_p xr_67_114 xn_67 (pc' := 115) (ls' := [(3, .int (iI (-1))), (1, .long (ct (X_av n cur))), (0, .ref 496)]) (st' := [.int (iI (-1)), .int (iI (-1))]) rfl ?_
            refine T_zicmp_eqt xr_67_115 (t := 136) rfl (by decide) ?_
            refine T_vret xr_67_136 xf_67.2.2 ?_
            refine hQ _ _ ?_
            have h1322 := (hf1269.1 B (by omega)).trans (h1251)
            have hs1323 : C_ws S1265 B D W := C_ws.fr (P := fun r => ¬ (B + 6 ≤ r ∧ r < B + 246)) hs (((((X_Fr.rf).tr (X_Fr.mono ⟨h1138.1, h1138.2⟩ (fun q hq => (by omega)))).tr (X_Fr.mono ⟨h1182.1, h1182.2⟩ (fun q hq => (by omega)))).tr (X_Fr.mono ⟨h1244.1, h1244.2⟩ (fun q hq => (by omega)))).tr (X_Fr.mono ⟨hf1269.1, hf1269.2⟩ (fun q hq => (by omega)))) (fun k h1 h2 => by omega)
            have h1324 := (hf1269.1 (B + 1) (by omega)).trans (h1258)
            have h1325 := (hf1269.1 (B + 2) (by omega)).trans (h1259)
            have h1326 := (hf1269.1 (B + 3) (by omega)).trans (h1252)
            have h1327 := (hf1269.1 (B + 4) (by omega)).trans (h1260)
            have h1330 := (hf1269.1 (B + 5) (by omega)).trans (h1261)
            have h1331 := (hf1269.1 498 (by omega)).trans (h1248)
            have h1332 := (hf1269.1 499 (by omega)).trans (h1249)
            have h1333 := (hf1269.1 500 (by omega)).trans (h1250)
            have hb1328 : C_bk S1265 B rc kc wc rn lo kn ab := ⟨h1322, h1324, h1325, h1326, h1327, ⟨f, h1330, hf⟩, ⟨by omega, by omega⟩, ⟨by omega, by omega⟩, ⟨by omega, by omega⟩⟩
            have hc1329 : 0 ≤ (X_av n (X_av n (X_av n cur))) ∧ (X_av n (X_av n (X_av n cur))) < n := by omega
            refine Or.inr ⟨?_, fl1270, fp1271, ((X_av n (X_av n (X_av n cur))), rc, kc, wc, rn, lo, kn, ab, D, W), by omega, ⟨hp1267, ⟨hl1268, h1331, h1332, h1333⟩, hb1328, hs1323, hc1329⟩, ((((X_Fr.rf).tr (X_Fr.mono ⟨h1138.1, h1138.2⟩ (fun q hq => (by omega)))).tr (X_Fr.mono ⟨h1182.1, h1182.2⟩ (fun q hq => (by omega)))).tr (X_Fr.mono ⟨h1244.1, h1244.2⟩ (fun q hq => (by omega)))).tr (X_Fr.mono ⟨hf1269.1, hf1269.2⟩ (fun q hq => (by omega)))⟩
            simp only [sp_kind]
            subst_vars
            (repeat (first | rw [if_pos (by assumption)] | rw [if_neg (by assumption)]))
            all_goals first | rfl | ((repeat' split) <;> first | rfl | (exfalso; omega))
      · skip
        have c1172 : ¬ (r1161 = (-1)) := c1172
        refine T_p xr_67_58 xn_67 (pc' := 59) (ls' := [(0, .ref 496)]) (st' := [.ref 496]) rfl ?_
        refine T_p xr_67_59 xn_67 (pc' := 60) (ls' := [(0, .ref 496)]) (st' := [.int (iI 3), .ref 496]) rfl ?_
        refine T_p xr_67_60 xn_67 (pc' := 61) (ls' := [(0, .ref 496)]) (st' := [.ref 496, .int (iI 3), .ref 496]) rfl ?_
        refine T_get xr_67_61 h1141 rfl (v := .ref 497) rfl (pc' := 64) rfl ?_
        refine T_cv (S := S1136) (q := 497) xr_67_64 xf_45.1 xf_45.2.1 xn_45 (as := []) (r := [.int (iI 3), .ref 496]) rfl h1139 (Nat.le_of_ble_eq_true rfl) (Nat.le_of_ble_eq_true rfl) (pc' := 67) rfl (ls' := [(0, .ref 497)]) rfl ?_
        refine T_mono (c_place sc S1136 at_ n (X_av n cur) so pl ct ⟨h1139, h1142, h1143, h1144⟩ (by omega)) (fun v1335 S1336 h1334 => ?_)
        obtain ⟨h1337, h1338⟩ := h1334
        rw [h1337, h1338]
        show X_T sc 67 (67, [(0, .ref 496)], [.int (iI (pl (X_av n cur))), .int (iI 3), .ref 496], S1136) _
        refine T_cv (S := S1136) (q := 496) xr_67_67 xf_62.1 xf_62.2.1 xn_62 (as := [.int (iI 3), .int (iI (pl (X_av n cur)))]) (r := []) rfl h1141 (Nat.le_of_ble_eq_true rfl) (Nat.le_of_ble_eq_true rfl) (pc' := 70) rfl (ls' := [(0, .ref 496), (1, .int (iI 3)), (2, .int (iI (pl (X_av n cur))))]) rfl ?_
        refine T_p xr_62_0 xn_62 (pc' := 1) (ls' := [(0, .ref 496), (1, .int (iI 3)), (2, .int (iI (pl (X_av n cur))))]) (st' := [.ref 496]) rfl ?_
        refine T_p xr_62_1 xn_62 (pc' := 2) (ls' := [(0, .ref 496), (1, .int (iI 3)), (2, .int (iI (pl (X_av n cur))))]) (st' := [.int (iI 3), .ref 496]) rfl ?_
        refine T_put xr_62_2 h1141 rfl (Nat.le_of_ble_eq_true rfl) rfl (fs' := [.ref 497, .ref B, .int (iI 3), .int (iI fp)]) rfl (pc' := 5) rfl (fun S1339 h1340 n1341 e1342 => ?_)
        refine T_p xr_62_5 xn_62 (pc' := 6) (ls' := [(0, .ref 496), (1, .int (iI 3)), (2, .int (iI (pl (X_av n cur))))]) (st' := [.ref 496]) rfl ?_
        refine T_p xr_62_6 xn_62 (pc' := 7) (ls' := [(0, .ref 496), (1, .int (iI 3)), (2, .int (iI (pl (X_av n cur))))]) (st' := [.int (iI (pl (X_av n cur))), .ref 496]) rfl ?_
        refine T_put xr_62_7 h1340 rfl (Nat.le_of_ble_eq_true rfl) rfl (fs' := [.ref 497, .ref B, .int (iI 3), .int (iI (pl (X_av n cur)))]) rfl (pc' := 10) rfl (fun S1343 h1344 n1345 e1346 => ?_)
        refine T_vret xr_62_10 xf_62.2.2 ?_
        show X_T sc 67 (70, [(0, .ref 496)], [], S1343) _
        refine T_vret xr_67_70 xf_67.2.2 ?_
        refine hQ _ _ ?_
        have h1347 := (n1345 B (by omega)).trans ((n1341 B (by omega)).trans (h1157))
        have hs1348 : C_ws S1343 B D W := C_ws.fr (P := fun r => ¬ (B + 6 ≤ r ∧ r < B + 246)) hs ((((X_Fr.rf).tr (X_Fr.mono ⟨h1138.1, h1138.2⟩ (fun q hq => (by omega)))).tr (X_Fr.of n1341 e1342 (by omega))).tr (X_Fr.of n1345 e1346 (by omega))) (fun k h1 h2 => by omega)
        have h1349 := (n1345 497 (by decide)).trans ((n1341 497 (by decide)).trans (h1139))
        have h1350 := (n1345 (B + 1) (by omega)).trans ((n1341 (B + 1) (by omega)).trans (h1165))
        have h1351 := (n1345 (B + 2) (by omega)).trans ((n1341 (B + 2) (by omega)).trans (h1166))
        have h1352 := (n1345 (B + 3) (by omega)).trans ((n1341 (B + 3) (by omega)).trans (h1167))
        have h1353 := (n1345 (B + 4) (by omega)).trans ((n1341 (B + 4) (by omega)).trans (h1168))
        have h1356 := (n1345 (B + 5) (by omega)).trans ((n1341 (B + 5) (by omega)).trans (h1169))
        have h1357 := (n1345 498 (by decide)).trans ((n1341 498 (by decide)).trans (h1142))
        have h1358 := (n1345 499 (by decide)).trans ((n1341 499 (by decide)).trans (h1143))
        have h1359 := (n1345 500 (by decide)).trans ((n1341 500 (by decide)).trans (h1144))
        have hb1354 : C_bk S1343 B rc kc wc rn lo kn ab := ⟨h1347, h1350, h1351, h1352, h1353, ⟨f, h1356, hf⟩, ⟨by omega, by omega⟩, ⟨by omega, by omega⟩, ⟨by omega, by omega⟩⟩
        have hc1355 : 0 ≤ (X_av n cur) ∧ (X_av n cur) < n := by omega
        refine Or.inr ⟨?_, 3, pl (X_av n cur), (X_av n cur, rc, kc, wc, rn, lo, kn, ab, D, W), by omega, ⟨h1344, ⟨h1349, h1357, h1358, h1359⟩, hb1354, hs1348, hc1355⟩, (((X_Fr.rf).tr (X_Fr.mono ⟨h1138.1, h1138.2⟩ (fun q hq => (by omega)))).tr (X_Fr.of n1341 e1342 (by omega))).tr (X_Fr.of n1345 e1346 (by omega))⟩
        simp only [sp_kind]
        subst_vars
        (repeat (first | rw [if_pos (by assumption)] | rw [if_neg (by assumption)]))
        all_goals first | rfl | ((repeat' split) <;> first | rfl | (exfalso; omega))
    · skip
      have c1151 : ¬ ((so (X_av n cur)) = 2) := c1151
      refine T_p xr_67_35 xn_67 (pc' := 36) (ls' := [(0, .ref 496)]) (st' := [.ref 496]) rfl ?_
      refine T_cv (S := S1136) (q := 496) xr_67_36 xf_63.1 xf_63.2.1 xn_63 (as := []) (r := []) rfl h1141 (Nat.le_of_ble_eq_true rfl) (Nat.le_of_ble_eq_true rfl) (pc' := 39) rfl (ls' := [(0, .ref 496)]) rfl ?_
      refine T_mono (c_refuse sc S1136 B 0 fp at_ n (X_av n cur) so pl ct h1141 ⟨h1139, h1142, h1143, h1144⟩ (by omega) hso) (fun v1360 S1361 h1362 => ?_)
      obtain ⟨h1363, ⟨fl1364, fp1365, hn1366, hp1367⟩, hf1368⟩ := h1362
      rw [h1363]
      show X_T sc 67 (39, [(0, .ref 496)], [], S1361) _
      refine T_vret xr_67_39 xf_67.2.2 ?_
      refine hQ _ _ ?_
      have h1369 := (hf1368.1 B (by omega)).trans ((h1138.1 B (by omega)).trans (hb0))
      have hs1370 : C_ws S1361 B D W := C_ws.fr (P := fun r => ¬ (B + 6 ≤ r ∧ r < B + 246)) hs (((X_Fr.rf).tr (X_Fr.mono ⟨h1138.1, h1138.2⟩ (fun q hq => (by omega)))).tr (X_Fr.mono ⟨hf1368.1, hf1368.2⟩ (fun q hq => (by omega)))) (fun k h1 h2 => by omega)
      have h1371 := (hf1368.1 497 (by omega)).trans (h1139)
      have h1372 := (hf1368.1 (B + 1) (by omega)).trans ((h1138.1 (B + 1) (by omega)).trans (hb1))
      have h1373 := (hf1368.1 (B + 2) (by omega)).trans ((h1138.1 (B + 2) (by omega)).trans (hb2))
      have h1374 := (hf1368.1 (B + 3) (by omega)).trans ((h1138.1 (B + 3) (by omega)).trans (hb3))
      have h1375 := (hf1368.1 (B + 4) (by omega)).trans ((h1138.1 (B + 4) (by omega)).trans (hb4))
      have h1378 := (hf1368.1 (B + 5) (by omega)).trans ((h1138.1 (B + 5) (by omega)).trans (hb5))
      have h1379 := (hf1368.1 498 (by omega)).trans (h1142)
      have h1380 := (hf1368.1 499 (by omega)).trans (h1143)
      have h1381 := (hf1368.1 500 (by omega)).trans (h1144)
      have hb1376 : C_bk S1361 B rc kc wc rn lo kn ab := ⟨h1369, h1372, h1373, h1374, h1375, ⟨f, h1378, hf⟩, ⟨by omega, by omega⟩, ⟨by omega, by omega⟩, ⟨by omega, by omega⟩⟩
      have hc1377 : 0 ≤ (X_av n cur) ∧ (X_av n cur) < n := by omega
      refine Or.inr ⟨?_, fl1364, fp1365, (X_av n cur, rc, kc, wc, rn, lo, kn, ab, D, W), by omega, ⟨hp1367, ⟨h1371, h1379, h1380, h1381⟩, hb1376, hs1370, hc1377⟩, ((X_Fr.rf).tr (X_Fr.mono ⟨h1138.1, h1138.2⟩ (fun q hq => (by omega)))).tr (X_Fr.mono ⟨hf1368.1, hf1368.2⟩ (fun q hq => (by omega)))⟩
      simp only [sp_kind]
      subst_vars
      (repeat (first | rw [if_pos (by assumption)] | rw [if_neg (by assumption)]))
      all_goals first | rfl | ((repeat' split) <;> first | rfl | (exfalso; omega))
  · skip
    have c1133 : ¬ (¬ kc = 11) := c1133
    refine T_p xr_67_12 xn_67 (pc' := 13) (ls' := [(0, .ref 496)]) (st' := [.ref 496]) rfl ?_
    refine T_cv (S := S) (q := 496) xr_67_13 xf_63.1 xf_63.2.1 xn_63 (as := []) (r := []) rfl hp (Nat.le_of_ble_eq_true rfl) (Nat.le_of_ble_eq_true rfl) (pc' := 16) rfl (ls' := [(0, .ref 496)]) rfl ?_
    refine T_mono (c_refuse sc S B 0 fp at_ n cur so pl ct hp ⟨hx.1, hx.2.1, hx.2.2.1, hx.2.2.2⟩ (by omega) hso) (fun v1382 S1383 h1384 => ?_)
    obtain ⟨h1385, ⟨fl1386, fp1387, hn1388, hp1389⟩, hf1390⟩ := h1384
    rw [h1385]
    show X_T sc 67 (16, [(0, .ref 496)], [], S1383) _
    refine T_vret xr_67_16 xf_67.2.2 ?_
    refine hQ _ _ ?_
    have h1391 := (hf1390.1 B (by omega)).trans (hb0)
    have hs1392 : C_ws S1383 B D W := C_ws.fr (P := fun r => ¬ (B + 6 ≤ r ∧ r < B + 246)) hs ((X_Fr.rf).tr (X_Fr.mono ⟨hf1390.1, hf1390.2⟩ (fun q hq => (by omega)))) (fun k h1 h2 => by omega)
    have h1393 := (hf1390.1 497 (by omega)).trans (hx.1)
    have h1394 := (hf1390.1 (B + 1) (by omega)).trans (hb1)
    have h1395 := (hf1390.1 (B + 2) (by omega)).trans (hb2)
    have h1396 := (hf1390.1 (B + 3) (by omega)).trans (hb3)
    have h1397 := (hf1390.1 (B + 4) (by omega)).trans (hb4)
    have h1400 := (hf1390.1 (B + 5) (by omega)).trans (hb5)
    have h1401 := (hf1390.1 498 (by omega)).trans (hx.2.1)
    have h1402 := (hf1390.1 499 (by omega)).trans (hx.2.2.1)
    have h1403 := (hf1390.1 500 (by omega)).trans (hx.2.2.2)
    have hb1398 : C_bk S1383 B rc kc wc rn lo kn ab := ⟨h1391, h1394, h1395, h1396, h1397, ⟨f, h1400, hf⟩, ⟨by omega, by omega⟩, ⟨by omega, by omega⟩, ⟨by omega, by omega⟩⟩
    have hc1399 : 0 ≤ cur ∧ cur < n := by omega
    refine Or.inr ⟨?_, fl1386, fp1387, (cur, rc, kc, wc, rn, lo, kn, ab, D, W), by omega, ⟨hp1389, ⟨h1393, h1401, h1402, h1403⟩, hb1398, hs1392, hc1399⟩, (X_Fr.rf).tr (X_Fr.mono ⟨hf1390.1, hf1390.2⟩ (fun q hq => (by omega)))⟩
    simp only [sp_kind]
    subst_vars
    (repeat (first | rw [if_pos (by assumption)] | rw [if_neg (by assumption)]))
    all_goals first | rfl | ((repeat' split) <;> first | rfl | (exfalso; omega))
