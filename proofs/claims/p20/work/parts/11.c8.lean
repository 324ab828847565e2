theorem xr_44_0 : X_row 44 0 = some (0, (.aload_n 0, 1), (0, 0, 0)) := by decide +kernel
theorem xr_44_1 : X_row 44 1 = some (1, (.getfield 9, 3), (3, 3, 8)) := by decide +kernel
theorem xr_44_4 : X_row 44 4 = some (4, (.aload_n 0, 1), (0, 0, 0)) := by decide +kernel
theorem xr_44_5 : X_row 44 5 = some (5, (.getfield 26, 3), (3, 6, 14)) := by decide +kernel
theorem xr_44_8 : X_row 44 8 = some (8, (.iaload, 1), (0, 0, 0)) := by decide +kernel
theorem xr_44_9 : X_row 44 9 = some (9, (.ireturn, 1), (0, 0, 0)) := by decide +kernel
theorem xr_45_0 : X_row 45 0 = some (0, (.aload_n 0, 1), (0, 0, 0)) := by decide +kernel
theorem xr_45_1 : X_row 45 1 = some (1, (.getfield 15, 3), (3, 4, 10)) := by decide +kernel
theorem xr_45_4 : X_row 45 4 = some (4, (.aload_n 0, 1), (0, 0, 0)) := by decide +kernel
theorem xr_45_5 : X_row 45 5 = some (5, (.getfield 26, 3), (3, 6, 14)) := by decide +kernel
theorem xr_45_8 : X_row 45 8 = some (8, (.iaload, 1), (0, 0, 0)) := by decide +kernel
theorem xr_45_9 : X_row 45 9 = some (9, (.ireturn, 1), (0, 0, 0)) := by decide +kernel
theorem xr_46_0 : X_row 46 0 = some (0, (.aload_n 0, 1), (0, 0, 0)) := by decide +kernel
theorem xr_46_1 : X_row 46 1 = some (1, (.getfield 18, 3), (3, 5, 12)) := by decide +kernel
theorem xr_46_4 : X_row 46 4 = some (4, (.aload_n 0, 1), (0, 0, 0)) := by decide +kernel
theorem xr_46_5 : X_row 46 5 = some (5, (.getfield 26, 3), (3, 6, 14)) := by decide +kernel
theorem xr_46_8 : X_row 46 8 = some (8, (.laload, 1), (0, 0, 0)) := by decide +kernel
theorem xr_46_9 : X_row 46 9 = some (9, (.lreturn, 1), (0, 0, 0)) := by decide +kernel
theorem xr_47_0 : X_row 47 0 = some (0, (.aload_n 0, 1), (0, 0, 0)) := by decide +kernel
theorem xr_47_1 : X_row 47 1 = some (1, (.invokevirtual 30, 3), (44, 26, 0)) := by decide +kernel
theorem xr_47_4 : X_row 47 4 = some (4, (.iconst 3, 1), (0, 0, 0)) := by decide +kernel
theorem xr_47_5 : X_row 47 5 = some (5, (.if_icmp .ne 16, 3), (0, 0, 0)) := by decide +kernel
theorem xr_47_8 : X_row 47 8 = some (8, (.aload_n 0, 1), (0, 0, 0)) := by decide +kernel
theorem xr_47_9 : X_row 47 9 = some (9, (.invokevirtual 34, 3), (46, 28, 0)) := by decide +kernel
theorem xr_47_12 : X_row 47 12 = some (12, (.lload_n 1, 1), (0, 0, 0)) := by decide +kernel
theorem xr_47_13 : X_row 47 13 = some (13, (.lcmp, 1), (0, 0, 0)) := by decide +kernel
theorem xr_47_14 : X_row 47 14 = some (14, (.ifCond .ne 7, 3), (0, 0, 0)) := by decide +kernel
theorem xr_47_17 : X_row 47 17 = some (17, (.iconst 1, 1), (0, 0, 0)) := by decide +kernel
theorem xr_47_18 : X_row 47 18 = some (18, (.goto 4, 3), (0, 0, 0)) := by decide +kernel
theorem xr_47_21 : X_row 47 21 = some (21, (.iconst 0, 1), (0, 0, 0)) := by decide +kernel
theorem xr_47_22 : X_row 47 22 = some (22, (.ireturn, 1), (0, 0, 0)) := by decide +kernel
theorem xr_48_0 : X_row 48 0 = some (0, (.aload_n 0, 1), (0, 0, 0)) := by decide +kernel
theorem xr_48_1 : X_row 48 1 = some (1, (.getfield 26, 3), (3, 6, 14)) := by decide +kernel
theorem xr_48_4 : X_row 48 4 = some (4, (.iconst 1, 1), (0, 0, 0)) := by decide +kernel
theorem xr_48_5 : X_row 48 5 = some (5, (.iadd, 1), (0, 0, 0)) := by decide +kernel
theorem xr_48_6 : X_row 48 6 = some (6, (.aload_n 0, 1), (0, 0, 0)) := by decide +kernel
theorem xr_48_7 : X_row 48 7 = some (7, (.getfield 38, 3), (3, 2, 6)) := by decide +kernel
theorem xr_48_10 : X_row 48 10 = some (10, (.if_icmp .ge 13, 3), (0, 0, 0)) := by decide +kernel
theorem xr_48_13 : X_row 48 13 = some (13, (.aload_n 0, 1), (0, 0, 0)) := by decide +kernel
theorem xr_48_14 : X_row 48 14 = some (14, (.dup, 1), (0, 0, 0)) := by decide +kernel
theorem xr_48_15 : X_row 48 15 = some (15, (.getfield 26, 3), (3, 6, 14)) := by decide +kernel
theorem xr_48_18 : X_row 48 18 = some (18, (.iconst 1, 1), (0, 0, 0)) := by decide +kernel
theorem xr_48_19 : X_row 48 19 = some (19, (.iadd, 1), (0, 0, 0)) := by decide +kernel
theorem xr_48_20 : X_row 48 20 = some (20, (.putfield 26, 3), (3, 6, 14)) := by decide +kernel
theorem xr_48_23 : X_row 48 23 = some (23, (.return_, 1), (0, 0, 0)) := by decide +kernel
theorem xr_62_0 : X_row 62 0 = some (0, (.aload_n 0, 1), (0, 0, 0)) := by decide +kernel
theorem xr_62_1 : X_row 62 1 = some (1, (.iload_n 1, 1), (0, 0, 0)) := by decide +kernel
theorem xr_62_2 : X_row 62 2 = some (2, (.putfield 9, 3), (4, 2, 22)) := by decide +kernel
theorem xr_62_5 : X_row 62 5 = some (5, (.aload_n 0, 1), (0, 0, 0)) := by decide +kernel
theorem xr_62_6 : X_row 62 6 = some (6, (.iload_n 2, 1), (0, 0, 0)) := by decide +kernel
theorem xr_62_7 : X_row 62 7 = some (7, (.putfield 15, 3), (4, 3, 24)) := by decide +kernel
theorem xr_62_10 : X_row 62 10 = some (10, (.return_, 1), (0, 0, 0)) := by decide +kernel
theorem xr_63_0 : X_row 63 0 = some (0, (.aload_n 0, 1), (0, 0, 0)) := by decide +kernel
theorem xr_63_1 : X_row 63 1 = some (1, (.aload_n 0, 1), (0, 0, 0)) := by decide +kernel
theorem xr_63_2 : X_row 63 2 = some (2, (.getfield 23, 3), (4, 0, 18)) := by decide +kernel
theorem xr_63_5 : X_row 63 5 = some (5, (.invokevirtual 39, 3), (44, 6, 0)) := by decide +kernel
theorem xr_63_8 : X_row 63 8 = some (8, (.iconst 1, 1), (0, 0, 0)) := by decide +kernel
theorem xr_63_9 : X_row 63 9 = some (9, (.if_icmp .ne 7, 3), (0, 0, 0)) := by decide +kernel
theorem xr_63_12 : X_row 63 12 = some (12, (.iconst 1, 1), (0, 0, 0)) := by decide +kernel
theorem xr_63_13 : X_row 63 13 = some (13, (.goto 4, 3), (0, 0, 0)) := by decide +kernel
theorem xr_63_16 : X_row 63 16 = some (16, (.iconst 2, 1), (0, 0, 0)) := by decide +kernel
theorem xr_63_17 : X_row 63 17 = some (17, (.aload_n 0, 1), (0, 0, 0)) := by decide +kernel
theorem xr_63_18 : X_row 63 18 = some (18, (.getfield 23, 3), (4, 0, 18)) := by decide +kernel
theorem xr_63_21 : X_row 63 21 = some (21, (.invokevirtual 73, 3), (45, 14, 0)) := by decide +kernel
theorem xr_63_24 : X_row 63 24 = some (24, (.invokevirtual 76, 3), (62, 16, 0)) := by decide +kernel
theorem xr_63_27 : X_row 63 27 = some (27, (.return_, 1), (0, 0, 0)) := by decide +kernel
theorem xr_64_0 : X_row 64 0 = some (0, (.aload_n 0, 1), (0, 0, 0)) := by decide +kernel
theorem xr_64_1 : X_row 64 1 = some (1, (.getfield 23, 3), (4, 0, 18)) := by decide +kernel
theorem xr_64_4 : X_row 64 4 = some (4, (.invokevirtual 39, 3), (44, 6, 0)) := by decide +kernel
theorem xr_64_7 : X_row 64 7 = some (7, (.iload_n 1, 1), (0, 0, 0)) := by decide +kernel
theorem xr_64_8 : X_row 64 8 = some (8, (.if_icmp .eq 9, 3), (0, 0, 0)) := by decide +kernel
theorem xr_64_11 : X_row 64 11 = some (11, (.aload_n 0, 1), (0, 0, 0)) := by decide +kernel
theorem xr_64_12 : X_row 64 12 = some (12, (.invokevirtual 67, 3), (63, 12, 0)) := by decide +kernel
theorem xr_64_15 : X_row 64 15 = some (15, (.iconst 0, 1), (0, 0, 0)) := by decide +kernel
theorem xr_64_16 : X_row 64 16 = some (16, (.ireturn, 1), (0, 0, 0)) := by decide +kernel
theorem xr_64_17 : X_row 64 17 = some (17, (.aload_n 0, 1), (0, 0, 0)) := by decide +kernel
theorem xr_64_18 : X_row 64 18 = some (18, (.getfield 23, 3), (4, 0, 18)) := by decide +kernel
theorem xr_64_21 : X_row 64 21 = some (21, (.invokevirtual 80, 3), (48, 18, 0)) := by decide +kernel
theorem xr_64_24 : X_row 64 24 = some (24, (.iconst 1, 1), (0, 0, 0)) := by decide +kernel
theorem xr_64_25 : X_row 64 25 = some (25, (.ireturn, 1), (0, 0, 0)) := by decide +kernel
theorem xr_65_0 : X_row 65 0 = some (0, (.aload_n 0, 1), (0, 0, 0)) := by decide +kernel
theorem xr_65_1 : X_row 65 1 = some (1, (.getfield 27, 3), (4, 1, 20)) := by decide +kernel
theorem xr_65_4 : X_row 65 4 = some (4, (.getfield 83, 3), (0, 0, 11)) := by decide +kernel
theorem xr_65_7 : X_row 65 7 = some (7, (.bipush 12, 2), (0, 0, 0)) := by decide +kernel
theorem xr_65_9 : X_row 65 9 = some (9, (.if_icmp .ne 8, 3), (0, 0, 0)) := by decide +kernel
theorem xr_65_12 : X_row 65 12 = some (12, (.aload_n 0, 1), (0, 0, 0)) := by decide +kernel
theorem xr_65_13 : X_row 65 13 = some (13, (.invokevirtual 67, 3), (63, 12, 0)) := by decide +kernel
theorem xr_65_16 : X_row 65 16 = some (16, (.return_, 1), (0, 0, 0)) := by decide +kernel
theorem xr_65_17 : X_row 65 17 = some (17, (.aload_n 0, 1), (0, 0, 0)) := by decide +kernel
theorem xr_65_18 : X_row 65 18 = some (18, (.getfield 23, 3), (4, 0, 18)) := by decide +kernel
theorem xr_65_21 : X_row 65 21 = some (21, (.invokevirtual 80, 3), (48, 18, 0)) := by decide +kernel
theorem xr_65_24 : X_row 65 24 = some (24, (.aload_n 0, 1), (0, 0, 0)) := by decide +kernel
theorem xr_65_25 : X_row 65 25 = some (25, (.getfield 23, 3), (4, 0, 18)) := by decide +kernel
theorem xr_65_28 : X_row 65 28 = some (28, (.invokevirtual 39, 3), (44, 6, 0)) := by decide +kernel
theorem xr_65_31 : X_row 65 31 = some (31, (.iconst 2, 1), (0, 0, 0)) := by decide +kernel
theorem xr_65_32 : X_row 65 32 = some (32, (.if_icmp .eq 10, 3), (0, 0, 0)) := by decide +kernel
theorem xr_65_35 : X_row 65 35 = some (35, (.aload_n 0, 1), (0, 0, 0)) := by decide +kernel
theorem xr_65_36 : X_row 65 36 = some (36, (.invokevirtual 67, 3), (63, 12, 0)) := by decide +kernel
theorem xr_65_39 : X_row 65 39 = some (39, (.goto 64, 3), (0, 0, 0)) := by decide +kernel
theorem xr_65_42 : X_row 65 42 = some (42, (.aload_n 0, 1), (0, 0, 0)) := by decide +kernel
theorem xr_65_43 : X_row 65 43 = some (43, (.getfield 27, 3), (4, 1, 20)) := by decide +kernel
theorem xr_65_46 : X_row 65 46 = some (46, (.aload_n 0, 1), (0, 0, 0)) := by decide +kernel
theorem xr_65_47 : X_row 65 47 = some (47, (.getfield 23, 3), (4, 0, 18)) := by decide +kernel
theorem xr_65_50 : X_row 65 50 = some (50, (.invokevirtual 86, 3), (46, 20, 0)) := by decide +kernel
theorem xr_65_53 : X_row 65 53 = some (53, (.invokevirtual 90, 3), (4, 22, 0)) := by decide +kernel
theorem xr_65_56 : X_row 65 56 = some (56, (.iconst (-1), 1), (0, 0, 0)) := by decide +kernel
theorem xr_65_57 : X_row 65 57 = some (57, (.if_icmp .eq 18, 3), (0, 0, 0)) := by decide +kernel
theorem xr_65_60 : X_row 65 60 = some (60, (.aload_n 0, 1), (0, 0, 0)) := by decide +kernel
theorem xr_65_61 : X_row 65 61 = some (61, (.iconst 3, 1), (0, 0, 0)) := by decide +kernel
theorem xr_65_62 : X_row 65 62 = some (62, (.aload_n 0, 1), (0, 0, 0)) := by decide +kernel
theorem xr_65_63 : X_row 65 63 = some (63, (.getfield 23, 3), (4, 0, 18)) := by decide +kernel
theorem xr_65_66 : X_row 65 66 = some (66, (.invokevirtual 73, 3), (45, 14, 0)) := by decide +kernel
theorem xr_65_69 : X_row 65 69 = some (69, (.invokevirtual 76, 3), (62, 16, 0)) := by decide +kernel
theorem xr_65_72 : X_row 65 72 = some (72, (.goto 31, 3), (0, 0, 0)) := by decide +kernel
theorem xr_65_75 : X_row 65 75 = some (75, (.aload_n 0, 1), (0, 0, 0)) := by decide +kernel
theorem xr_65_76 : X_row 65 76 = some (76, (.getfield 27, 3), (4, 1, 20)) := by decide +kernel
theorem xr_65_79 : X_row 65 79 = some (79, (.aload_n 0, 1), (0, 0, 0)) := by decide +kernel
theorem xr_65_80 : X_row 65 80 = some (80, (.getfield 23, 3), (4, 0, 18)) := by decide +kernel
theorem xr_65_83 : X_row 65 83 = some (83, (.invokevirtual 86, 3), (46, 20, 0)) := by decide +kernel
theorem xr_65_86 : X_row 65 86 = some (86, (.invokevirtual 94, 3), (7, 24, 0)) := by decide +kernel
theorem xr_65_89 : X_row 65 89 = some (89, (.aload_n 0, 1), (0, 0, 0)) := by decide +kernel
theorem xr_65_90 : X_row 65 90 = some (90, (.getfield 23, 3), (4, 0, 18)) := by decide +kernel
theorem xr_65_93 : X_row 65 93 = some (93, (.invokevirtual 80, 3), (48, 18, 0)) := by decide +kernel
theorem xr_65_96 : X_row 65 96 = some (96, (.aload_n 0, 1), (0, 0, 0)) := by decide +kernel
theorem xr_65_97 : X_row 65 97 = some (97, (.bipush 59, 2), (0, 0, 0)) := by decide +kernel
theorem xr_65_99 : X_row 65 99 = some (99, (.invokevirtual 98, 3), (64, 26, 0)) := by decide +kernel
theorem xr_65_102 : X_row 65 102 = some (102, (.pop, 1), (0, 0, 0)) := by decide +kernel
theorem xr_65_103 : X_row 65 103 = some (103, (.return_, 1), (0, 0, 0)) := by decide +kernel
theorem xn_44 : X_nL 44 = 1 := by decide +kernel
theorem xf_44 : X_na 44 = 0 ∧ X_ci 44 = 3 ∧ X_rt 44 = (some .int) := by decide +kernel
theorem xn_45 : X_nL 45 = 1 := by decide +kernel
theorem xf_45 : X_na 45 = 0 ∧ X_ci 45 = 3 ∧ X_rt 45 = (some .int) := by decide +kernel
theorem xn_46 : X_nL 46 = 1 := by decide +kernel
theorem xf_46 : X_na 46 = 0 ∧ X_ci 46 = 3 ∧ X_rt 46 = (some .long) := by decide +kernel
theorem xn_47 : X_nL 47 = 3 := by decide +kernel
theorem xf_47 : X_na 47 = 1 ∧ X_ci 47 = 3 ∧ X_rt 47 = (some .boolean) := by decide +kernel
theorem xn_48 : X_nL 48 = 1 := by decide +kernel
theorem xf_48 : X_na 48 = 0 ∧ X_ci 48 = 3 ∧ X_rt 48 = none := by decide +kernel
theorem xn_62 : X_nL 62 = 3 := by decide +kernel
theorem xf_62 : X_na 62 = 2 ∧ X_ci 62 = 4 ∧ X_rt 62 = none := by decide +kernel
theorem xn_63 : X_nL 63 = 1 := by decide +kernel
theorem xf_63 : X_na 63 = 0 ∧ X_ci 63 = 4 ∧ X_rt 63 = none := by decide +kernel
theorem xn_64 : X_nL 64 = 2 := by decide +kernel
theorem xf_64 : X_na 64 = 1 ∧ X_ci 64 = 4 ∧ X_rt 64 = (some .boolean) := by decide +kernel
theorem xn_65 : X_nL 65 = 1 := by decide +kernel
theorem xf_65 : X_na 65 = 0 ∧ X_ci 65 = 4 ∧ X_rt 65 = none := by decide +kernel
theorem c_sort (sc : X_Sc) (S : X_S) (at_ n cur : Int) (so pl : Int → Int) (ct : Int → Int64)  (hx : C_lx S at_ n cur so pl ct) (hcu : 0 ≤ cur ∧ cur < n ∧ n ≤ 2001)  : X_T sc 44 (0, [(0, .ref 497)], [], S) (fun v S' => v = some (.int (iI (so cur))) ∧ S' = S) := by
  refine X_QI (fun Q hQ => ?_)
  refine T_p xr_44_0 xn_44 (pc' := 1) (ls' := [(0, .ref 497)]) (st' := [.ref 497]) rfl ?_
  refine T_get xr_44_1 hx.1 rfl (v := .ref 498) rfl (pc' := 4) rfl ?_
  refine T_p xr_44_4 xn_44 (pc' := 5) (ls' := [(0, .ref 497)]) (st' := [.ref 497, .ref 498]) rfl ?_
  refine T_get xr_44_5 hx.1 rfl (v := .int (iI cur)) rfl (pc' := 8) rfl ?_
  refine T_ziald xr_44_8 hx.2.1 (pc' := 9) rfl ?_
  refine T_iret xr_44_9 xf_44.2.2 rfl ?_
  refine hQ _ _ ?_
  exact ⟨rfl, rfl⟩
theorem c_place (sc : X_Sc) (S : X_S) (at_ n cur : Int) (so pl : Int → Int) (ct : Int → Int64)  (hx : C_lx S at_ n cur so pl ct) (hcu : 0 ≤ cur ∧ cur < n ∧ n ≤ 2001)  : X_T sc 45 (0, [(0, .ref 497)], [], S) (fun v S' => v = some (.int (iI (pl cur))) ∧ S' = S) := by
  refine X_QI (fun Q hQ => ?_)
  refine T_p xr_45_0 xn_45 (pc' := 1) (ls' := [(0, .ref 497)]) (st' := [.ref 497]) rfl ?_
  refine T_get xr_45_1 hx.1 rfl (v := .ref 499) rfl (pc' := 4) rfl ?_
  refine T_p xr_45_4 xn_45 (pc' := 5) (ls' := [(0, .ref 497)]) (st' := [.ref 497, .ref 499]) rfl ?_
  refine T_get xr_45_5 hx.1 rfl (v := .int (iI cur)) rfl (pc' := 8) rfl ?_
  refine T_ziald xr_45_8 hx.2.2.1 (pc' := 9) rfl ?_
  refine T_iret xr_45_9 xf_45.2.2 rfl ?_
  refine hQ _ _ ?_
  exact ⟨rfl, rfl⟩
theorem c_content (sc : X_Sc) (S : X_S) (at_ n cur : Int) (so pl : Int → Int) (ct : Int → Int64)  (hx : C_lx S at_ n cur so pl ct) (hcu : 0 ≤ cur ∧ cur < n ∧ n ≤ 2001)  : X_T sc 46 (0, [(0, .ref 497)], [], S) (fun v S' => v = some (.long (ct cur)) ∧ S' = S) := by
  refine X_QI (fun Q hQ => ?_)
  refine T_p xr_46_0 xn_46 (pc' := 1) (ls' := [(0, .ref 497)]) (st' := [.ref 497]) rfl ?_
  refine T_get xr_46_1 hx.1 rfl (v := .ref 500) rfl (pc' := 4) rfl ?_
  refine T_p xr_46_4 xn_46 (pc' := 5) (ls' := [(0, .ref 497)]) (st' := [.ref 497, .ref 500]) rfl ?_
  refine T_get xr_46_5 hx.1 rfl (v := .int (iI cur)) rfl (pc' := 8) rfl ?_
  refine T_zlald xr_46_8 hx.2.2.2 (pc' := 9) rfl ?_
  refine T_lret xr_46_9 xf_46.2.2 rfl ?_
  refine hQ _ _ ?_
  exact ⟨rfl, rfl⟩
theorem c_isKeyword (sc : X_Sc) (S : X_S) (at_ n cur : Int) (so pl : Int → Int) (ct : Int → Int64) (k : Int64) (hx : C_lx S at_ n cur so pl ct) (hcu : 0 ≤ cur ∧ cur < n ∧ n ≤ 2001) (hso : ∀ i, 0 ≤ i → i < n → 0 ≤ so i ∧ so i ≤ 255) : X_T sc 47 (0, [(0, .ref 497), (1, .long k)], [], S) (fun v S' => v = some (.int (iI (bI (so cur = 3 ∧ ct cur = k)))) ∧ S' = S) := by
  refine X_QI (fun Q hQ => ?_)
  refine T_p xr_47_0 xn_47 (pc' := 1) (ls' := [(0, .ref 497), (1, .long k)]) (st' := [.ref 497]) rfl ?_
  refine T_cv (S := S) (q := 497) xr_47_1 xf_44.1 xf_44.2.1 xn_44 (as := []) (r := []) rfl hx.1 (Nat.le_of_ble_eq_true rfl) (Nat.le_of_ble_eq_true rfl) (pc' := 4) rfl (ls' := [(0, .ref 497)]) rfl ?_
  refine T_mono (c_sort sc S at_ n cur so pl ct ⟨hx.1, hx.2.1, hx.2.2.1, hx.2.2.2⟩ (by omega)) (fun v462 S463 h461 => ?_)
  obtain ⟨h464, h465⟩ := h461
  rw [h464, h465]
  show X_T sc 47 (4, [(0, .ref 497), (1, .long k)], [.int (iI (so cur))], S) _
  have hs466 := hso cur (by omega) (by omega)
  refine T_p xr_47_4 xn_47 (pc' := 5) (ls' := [(0, .ref 497), (1, .long k)]) (st' := [.int (iI 3), .int (iI (so cur))]) rfl ?_
  refine T_zicmp_ne xr_47_5 (t := 21) (pc' := 8) rfl rfl (fun c467 => ?_) (fun c467 => ?_)
  · skip
    have c467 : ¬ (so cur) = 3 := c467
    refine T_p xr_47_21 xn_47 (pc' := 22) (ls' := [(0, .ref 497), (1, .long k)]) (st' := [.int (iI 0)]) rfl ?_
    refine T_iret xr_47_22 xf_47.2.2 (by decide) ?_
    refine hQ _ _ ?_
    exact ⟨by rw [bI_f (by rintro ⟨h1, h2⟩; first | omega | contradiction)], rfl⟩
  · skip
    have c467 : ¬ (¬ (so cur) = 3) := c467
    refine T_p xr_47_8 xn_47 (pc' := 9) (ls' := [(0, .ref 497), (1, .long k)]) (st' := [.ref 497]) rfl ?_
    refine T_cv (S := S) (q := 497) xr_47_9 xf_46.1 xf_46.2.1 xn_46 (as := []) (r := []) rfl hx.1 (Nat.le_of_ble_eq_true rfl) (Nat.le_of_ble_eq_true rfl) (pc' := 12) rfl (ls' := [(0, .ref 497)]) rfl ?_
    refine T_mono (c_content sc S at_ n cur so pl ct ⟨hx.1, hx.2.1, hx.2.2.1, hx.2.2.2⟩ (by omega)) (fun v469 S470 h468 => ?_)
    obtain ⟨h471, h472⟩ := h468
    rw [h471, h472]
    show X_T sc 47 (12, [(0, .ref 497), (1, .long k)], [.long (ct cur)], S) _
    refine T_p xr_47_12 xn_47 (pc' := 13) (ls' := [(0, .ref 497), (1, .long k)]) (st' := [.long k, .long (ct cur)]) rfl ?_
    refine T_lc_ne xr_47_13 xr_47_14 (t := 21) (pc' := 17) rfl rfl (fun c473 => ?_) (fun c473 => ?_)
    · skip
      have c473 : ¬ (ct cur) = k := c473
      refine T_p xr_47_21 xn_47 (pc' := 22) (ls' := [(0, .ref 497), (1, .long k)]) (st' := [.int (iI 0)]) rfl ?_
      refine T_iret xr_47_22 xf_47.2.2 (by decide) ?_
      refine hQ _ _ ?_
      exact ⟨by rw [bI_f (by rintro ⟨h1, h2⟩; first | omega | contradiction)], rfl⟩
    · skip
      have c473 : ¬ (¬ (ct cur) = k) := c473
      refine T_p xr_47_17 xn_47 (pc' := 18) (ls' := [(0, .ref 497), (1, .long k)]) (st' := [.int (iI 1)]) rfl ?_
      refine T_p xr_47_18 xn_47 (pc' := 22) (ls' := [(0, .ref 497), (1, .long k)]) (st' := [.int (iI 1)]) rfl ?_
      refine T_iret xr_47_22 xf_47.2.2 (by decide) ?_
      refine hQ _ _ ?_
      exact ⟨by rw [bI_t ⟨by omega, by first | assumption | exact Classical.not_not.mp (by assumption)⟩], rfl⟩
theorem c_advance (sc : X_Sc) (S : X_S) (at_ n cur : Int) (so pl : Int → Int) (ct : Int → Int64) (hx : C_lx S at_ n cur so pl ct) (hcu : 0 ≤ cur ∧ cur < n ∧ n ≤ 2001) : X_T sc 48 (0, [(0, .ref 497)], [], S) (fun v S' => v = none ∧ S'.1 497 = .inr (3, [.ref 2, .int (iI at_), .int (iI n), .ref 498, .ref 499, .ref 500, .int (iI (X_av n cur))]) ∧ X_Fr (fun r => r = 497) S S') := by
  refine X_QI (fun Q hQ => ?_)
  refine T_p xr_48_0 xn_48 (pc' := 1) (ls' := [(0, .ref 497)]) (st' := [.ref 497]) rfl ?_
  refine T_get xr_48_1 hx.1 rfl (v := .int (iI cur)) rfl (pc' := 4) rfl ?_
  refine T_p xr_48_4 xn_48 (pc' := 5) (ls' := [(0, .ref 497)]) (st' := [.int (iI 1), .int (iI cur)]) rfl ?_
  refine T_ziadd xr_48_5 (z := cur + 1) rfl (pc' := 6) rfl ?_
  refine T_p xr_48_6 xn_48 (pc' := 7) (ls' := [(0, .ref 497)]) (st' := [.ref 497, .int (iI (cur + 1))]) rfl ?_
  refine T_get xr_48_7 hx.1 rfl (v := .int (iI n)) rfl (pc' := 10) rfl ?_
  refine T_zicmp_ge xr_48_10 (t := 23) (pc' := 13) rfl rfl (fun c474 => ?_) (fun c474 => ?_)
  · skip
    have c474 : n ≤ (cur + 1) := c474
    refine T_vret xr_48_23 xf_48.2.2 ?_
    refine hQ _ _ ?_
    have e : X_av n cur = cur := by unfold X_av; first | rw [if_pos (by omega)] | rw [if_neg (by omega)]
    exact ⟨rfl, by rw [e]; exact hx.1, X_Fr.rf⟩
  · skip
    have c474 : ¬ (n ≤ (cur + 1)) := c474
    refine T_p xr_48_13 xn_48 (pc' := 14) (ls' := [(0, .ref 497)]) (st' := [.ref 497]) rfl ?_
    refine T_p xr_48_14 xn_48 (pc' := 15) (ls' := [(0, .ref 497)]) (st' := [.ref 497, .ref 497]) rfl ?_
    refine T_get xr_48_15 hx.1 rfl (v := .int (iI cur)) rfl (pc' := 18) rfl ?_
    refine T_p xr_48_18 xn_48 (pc' := 19) (ls' := [(0, .ref 497)]) (st' := [.int (iI 1), .int (iI cur), .ref 497]) rfl ?_
    refine T_ziadd xr_48_19 (z := cur + 1) rfl (pc' := 20) rfl ?_
    refine T_put xr_48_20 hx.1 rfl (Nat.le_of_ble_eq_true rfl) rfl (fs' := [.ref 2, .int (iI at_), .int (iI n), .ref 498, .ref 499, .ref 500, .int (iI (cur + 1))]) rfl (pc' := 23) rfl (fun S475 h476 n477 e478 => ?_)
    refine T_vret xr_48_23 xf_48.2.2 ?_
    refine hQ _ _ ?_
    have e : X_av n cur = cur + 1 := by unfold X_av; first | rw [if_pos (by omega)] | rw [if_neg (by omega)]
    exact ⟨rfl, by rw [e]; exact h476, (X_Fr.rf).tr (X_Fr.of n477 e478 (by omega))⟩
theorem c_parseRank (sc : X_Sc) (S : X_S) (B : Nat) (fp at_ n : Int) (so pl : Int → Int) (ct : Int → Int64) (cur rc kc wc : Int) (rn : Int → Int64) (lo : Int → Int) (kn : Int → Int64) (ab : Int → Int) (D : Int → Nat → Int → Int) (W : Int → Int → Int64)  (hB : 4 ≤ B ∧ B + 246 ≤ 496) (hn : n ≤ 2001) (hso : ∀ i, 0 ≤ i → i < n → 0 ≤ so i ∧ so i ≤ 255) (hK : C_K S B 0 fp at_ n so pl ct (cur, rc, kc, wc, rn, lo, kn, ab, D, W))  : X_T sc 65 (0, [(0, .ref 496)], [], S) (fun v S' => (∃ K, sp_rank n so ct (cur, rc, kc, wc, rn, lo, kn, ab, D, W) = some K ∧ ∃ fp', C_K S' B 0 fp' at_ n so pl ct K ∧ X_Fr (fun q => q = 496 ∨ q = 497 ∨ (B ≤ q ∧ q < B + 246)) S S') ∨ (sp_rank n so ct (cur, rc, kc, wc, rn, lo, kn, ab, D, W) = none ∧ ∃ fl' fp' K, (¬ fl' = 0 ∧ 0 ≤ fl' ∧ fl' ≤ 5) ∧ C_K S' B fl' fp' at_ n so pl ct K ∧ X_Fr (fun q => q = 496 ∨ q = 497 ∨ (B ≤ q ∧ q < B + 246)) S S')) := by
  obtain ⟨hp, hx, hb, hs, hcu⟩ := id hK
  simp only at hx hb hs hcu
  obtain ⟨hb0, hb1, hb2, hb3, hb4, ⟨f, hb5, hf⟩, ⟨hrc, hrcb⟩, ⟨hkc, hkcb⟩, ⟨hwc, hwcb⟩⟩ := id hb
  refine X_QI (fun Q hQ => ?_)
  refine T_p xr_65_0 xn_65 (pc' := 1) (ls' := [(0, .ref 496)]) (st' := [.ref 496]) rfl ?_
  refine T_get xr_65_1 hp rfl (v := .ref B) rfl (pc' := 4) rfl ?_
  refine T_get xr_65_4 hb0 rfl (v := .int (iI rc)) rfl (pc' := 7) rfl ?_
  refine T_p xr_65_7 xn_65 (pc' := 9) (ls' := [(0, .ref 496)]) (st' := [.int (iI 12), .int (iI rc)]) rfl ?_
  refine T_zicmp_ne xr_65_9 (t := 17) (pc' := 12) rfl rfl (fun c479 => ?_) (fun c479 => ?_)
  · skip
    have c479 : ¬ rc = 12 := c479
    refine T_p xr_65_17 xn_65 (pc' := 18) (ls' := [(0, .ref 496)]) (st' := [.ref 496]) rfl ?_
    refine T_get xr_65_18 hp rfl (v := .ref 497) rfl (pc' := 21) rfl ?_
    refine T_cv (S := S) (q := 497) xr_65_21 xf_48.1 xf_48.2.1 xn_48 (as := []) (r := []) rfl hx.1 (Nat.le_of_ble_eq_true rfl) (Nat.le_of_ble_eq_true rfl) (pc' := 24) rfl (ls' := [(0, .ref 497)]) rfl ?_
    refine T_mono (c_advance sc S at_ n cur so pl ct ⟨hx.1, hx.2.1, hx.2.2.1, hx.2.2.2⟩ (by omega)) (fun v481 S482 h480 => ?_)
    obtain ⟨h483, h485, h484⟩ := h480
    rw [h483]
    show X_T sc 65 (24, [(0, .ref 496)], [], S482) _
    have hv486 := X_av_r (n := n) (c := cur) (by omega)
    refine T_p xr_65_24 xn_65 (pc' := 25) (ls' := [(0, .ref 496)]) (st' := [.ref 496]) rfl ?_
    have h487 := (h484.1 496 (by omega)).trans (hp)
    refine T_get xr_65_25 h487 rfl (v := .ref 497) rfl (pc' := 28) rfl ?_
    refine T_cv (S := S482) (q := 497) xr_65_28 xf_44.1 xf_44.2.1 xn_44 (as := []) (r := []) rfl h485 (Nat.le_of_ble_eq_true rfl) (Nat.le_of_ble_eq_true rfl) (pc' := 31) rfl (ls' := [(0, .ref 497)]) rfl ?_
    have h488 := (h484.1 498 (by omega)).trans (hx.2.1)
    have h489 := (h484.1 499 (by omega)).trans (hx.2.2.1)
    have h490 := (h484.1 500 (by omega)).trans (hx.2.2.2)
    refine T_mono (c_sort sc S482 at_ n (X_av n cur) so pl ct ⟨h485, h488, h489, h490⟩ (by omega)) (fun v492 S493 h491 => ?_)
    obtain ⟨h494, h495⟩ := h491
    rw [h494, h495]
    show X_T sc 65 (31, [(0, .ref 496)], [.int (iI (so (X_av n cur)))], S482) _
    have hs496 := hso (X_av n cur) (by omega) (by omega)
    refine T_p xr_65_31 xn_65 (pc' := 32) (ls' := [(0, .ref 496)]) (st' := [.int (iI 2), .int (iI (so (X_av n cur)))]) rfl ?_
    refine T_zicmp_eq xr_65_32 (t := 42) (pc' := 35) rfl rfl (fun c497 => ?_) (fun c497 => ?_)
    · skip
      have c497 : (so (X_av n cur)) = 2 := c497
      refine T_p xr_65_42 xn_65 (pc' := 43) (ls' := [(0, .ref 496)]) (st' := [.ref 496]) rfl ?_
      refine T_get xr_65_43 h487 rfl (v := .ref B) rfl (pc' := 46) rfl ?_
      refine T_p xr_65_46 xn_65 (pc' := 47) (ls' := [(0, .ref 496)]) (st' := [.ref 496, .ref B]) rfl ?_
      refine T_get xr_65_47 h487 rfl (v := .ref 497) rfl (pc' := 50) rfl ?_
      refine T_cv (S := S482) (q := 497) xr_65_50 xf_46.1 xf_46.2.1 xn_46 (as := []) (r := [.ref B]) rfl h485 (Nat.le_of_ble_eq_true rfl) (Nat.le_of_ble_eq_true rfl) (pc' := 53) rfl (ls' := [(0, .ref 497)]) rfl ?_
      refine T_mono (c_content sc S482 at_ n (X_av n cur) so pl ct ⟨h485, h488, h489, h490⟩ (by omega)) (fun v499 S500 h498 => ?_)
      obtain ⟨h501, h502⟩ := h498
      rw [h501, h502]
      show X_T sc 65 (53, [(0, .ref 496)], [.long (ct (X_av n cur)), .ref B], S482) _
      have h503 := (h484.1 B (by omega)).trans (hb0)
      refine T_cv (S := S482) (q := B) xr_65_53 xf_4.1 xf_4.2.1 xn_4 (as := [.long (ct (X_av n cur))]) (r := []) rfl h503 (Nat.le_of_ble_eq_true rfl) (Nat.le_of_ble_eq_true rfl) (pc' := 56) rfl (ls' := [(0, .ref B), (1, .long (ct (X_av n cur)))]) rfl ?_
      have h511 := (h484.1 (B + 1) (by omega)).trans (hb1)
      have h512 := (h484.1 (B + 2) (by omega)).trans (hb2)
      have h513 := (h484.1 (B + 3) (by omega)).trans (hb3)
      have h514 := (h484.1 (B + 4) (by omega)).trans (hb4)
      have h515 := (h484.1 (B + 5) (by omega)).trans (hb5)
      refine T_mono (c_rankNamed sc S482 B rc kc wc rn lo kn ab (ct (X_av n cur)) ⟨h503, h511, h512, h513, h514, ⟨f, h515, hf⟩, ⟨by omega, by omega⟩, ⟨by omega, by omega⟩, ⟨by omega, by omega⟩⟩) (fun v504 S505 h506 => ?_)
      obtain ⟨r507, h508, hx509, h510⟩ := h506
      rw [h508, h510]
      have hr516 := X_Ix_r (by omega) hx509
      have hq517 := X_ix_e hx509
      show X_T sc 65 (56, [(0, .ref 496)], [.int (iI r507)], S482) _
      refine T_p xr_65_56 xn_65 (pc' := 57) (ls' := [(0, .ref 496)]) (st' := [.int (iI (-1)), .int (iI r507)]) rfl ?_
      refine T_zicmp_eq xr_65_57 (t := 75) (pc' := 60) rfl rfl (fun c518 => ?_) (fun c518 => ?_)
      · skip
        have c518 : r507 = (-1) := c518
        refine T_p xr_65_75 xn_65 (pc' := 76) (ls' := [(0, .ref 496)]) (st' := [.ref 496]) rfl ?_
        refine T_get xr_65_76 h487 rfl (v := .ref B) rfl (pc' := 79) rfl ?_
        refine T_p xr_65_79 xn_65 (pc' := 80) (ls' := [(0, .ref 496)]) (st' := [.ref 496, .ref B]) rfl ?_
        refine T_get xr_65_80 h487 rfl (v := .ref 497) rfl (pc' := 83) rfl ?_
        refine T_cv (S := S482) (q := 497) xr_65_83 xf_46.1 xf_46.2.1 xn_46 (as := []) (r := [.ref B]) rfl h485 (Nat.le_of_ble_eq_true rfl) (Nat.le_of_ble_eq_true rfl) (pc' := 86) rfl (ls' := [(0, .ref 497)]) rfl ?_
        refine T_mono (c_content sc S482 at_ n (X_av n cur) so pl ct ⟨h485, h488, h489, h490⟩ (by omega)) (fun v520 S521 h519 => ?_)
        obtain ⟨h522, h523⟩ := h519
        rw [h522, h523]
        show X_T sc 65 (86, [(0, .ref 496)], [.long (ct (X_av n cur)), .ref B], S482) _
        refine T_cv (S := S482) (q := B) xr_65_86 xf_7.1 xf_7.2.1 xn_7 (as := [.long (ct (X_av n cur))]) (r := []) rfl h503 (Nat.le_of_ble_eq_true rfl) (Nat.le_of_ble_eq_true rfl) (pc' := 89) rfl (ls' := [(0, .ref B), (1, .long (ct (X_av n cur)))]) rfl ?_
        refine T_mono (c_addRank sc S482 B rc kc wc rn lo kn ab (ct (X_av n cur)) ⟨h503, h511, h512, h513, h514, ⟨f, h515, hf⟩, ⟨by omega, by omega⟩, ⟨by omega, by omega⟩, ⟨by omega, by omega⟩⟩ (by omega)) (fun v524 S525 h526 => ?_)
        obtain ⟨h527, hb528, h529⟩ := h526
        rw [h527]
        show X_T sc 65 (89, [(0, .ref 496)], [], S525) _
        refine T_p xr_65_89 xn_65 (pc' := 90) (ls' := [(0, .ref 496)]) (st' := [.ref 496]) rfl ?_
        have h530 := (h529.1 496 (by omega)).trans (h487)
        refine T_get xr_65_90 h530 rfl (v := .ref 497) rfl (pc' := 93) rfl ?_
        have h531 := (h529.1 497 (by omega)).trans (h485)
        refine T_cv (S := S525) (q := 497) xr_65_93 xf_48.1 xf_48.2.1 xn_48 (as := []) (r := []) rfl h531 (Nat.le_of_ble_eq_true rfl) (Nat.le_of_ble_eq_true rfl) (pc' := 96) rfl (ls' := [(0, .ref 497)]) rfl ?_
        have h532 := (h529.1 498 (by omega)).trans (h488)
        have h533 := (h529.1 499 (by omega)).trans (h489)
        have h534 := (h529.1 500 (by omega)).trans (h490)
        refine T_mono (c_advance sc S525 at_ n (X_av n cur) so pl ct ⟨h531, h532, h533, h534⟩ (by omega)) (fun v536 S537 h535 => ?_)
        obtain ⟨h538, h540, h539⟩ := h535
        rw [h538]
        show X_T sc 65 (96, [(0, .ref 496)], [], S537) _
        have hv541 := X_av_r (n := n) (c := (X_av n cur)) (by omega)
        refine T_p xr_65_96 xn_65 (pc' := 97) (ls' := [(0, .ref 496)]) (st' := [.ref 496]) rfl ?_
        refine T_p xr_65_97 xn_65 (pc' := 99) (ls' := [(0, .ref 496)]) (st' := [.int (iI 59), .ref 496]) rfl ?_
        have h542 := (h539.1 496 (by omega)).trans (h530)
        refine T_cv (S := S537) (q := 496) xr_65_99 xf_64.1 xf_64.2.1 xn_64 (as := [.int (iI 59)]) (r := []) rfl h542 (Nat.le_of_ble_eq_true rfl) (Nat.le_of_ble_eq_true rfl) (pc' := 102) rfl (ls' := [(0, .ref 496), (1, .int (iI 59))]) rfl ?_
        refine T_p xr_64_0 xn_64 (pc' := 1) (ls' := [(0, .ref 496), (1, .int (iI 59))]) (st' := [.ref 496]) rfl ?_
        refine T_get xr_64_1 h542 rfl (v := .ref 497) rfl (pc' := 4) rfl ?_
        refine T_cv (S := S537) (q := 497) xr_64_4 xf_44.1 xf_44.2.1 xn_44 (as := []) (r := []) rfl h540 (Nat.le_of_ble_eq_true rfl) (Nat.le_of_ble_eq_true rfl) (pc' := 7) rfl (ls' := [(0, .ref 497)]) rfl ?_
        have h543 := (h539.1 498 (by omega)).trans (h532)
        have h544 := (h539.1 499 (by omega)).trans (h533)
        have h545 := (h539.1 500 (by omega)).trans (h534)
        refine T_mono (c_sort sc S537 at_ n (X_av n (X_av n cur)) so pl ct ⟨h540, h543, h544, h545⟩ (by omega)) (fun v547 S548 h546 => ?_)
        obtain ⟨h549, h550⟩ := h546
        rw [h549, h550]
        show X_T sc 64 (7, [(0, .ref 496), (1, .int (iI 59))], [.int (iI (so (X_av n (X_av n cur))))], S537) _
        have hs551 := hso (X_av n (X_av n cur)) (by omega) (by omega)
        refine T_p xr_64_7 xn_64 (pc' := 8) (ls' := [(0, .ref 496), (1, .int (iI 59))]) (st' := [.int (iI 59), .int (iI (so (X_av n (X_av n cur))))]) rfl ?_
        refine T_zicmp_eq xr_64_8 (t := 17) (pc' := 11) rfl rfl (fun c552 => ?_) (fun c552 => ?_)
        · skip
          have c552 : (so (X_av n (X_av n cur))) = 59 := c552
          refine T_p xr_64_17 xn_64 (pc' := 18) (ls' := [(0, .ref 496), (1, .int (iI 59))]) (st' := [.ref 496]) rfl ?_
          refine T_get xr_64_18 h542 rfl (v := .ref 497) rfl (pc' := 21) rfl ?_
          refine T_cv (S := S537) (q := 497) xr_64_21 xf_48.1 xf_48.2.1 xn_48 (as := []) (r := []) rfl h540 (Nat.le_of_ble_eq_true rfl) (Nat.le_of_ble_eq_true rfl) (pc' := 24) rfl (ls' := [(0, .ref 497)]) rfl ?_
          refine T_mono (c_advance sc S537 at_ n (X_av n (X_av n cur)) so pl ct ⟨h540, h543, h544, h545⟩ (by omega)) (fun v554 S555 h553 => ?_)
          obtain ⟨h556, h558, h557⟩ := h553
          rw [h556]
          show X_T sc 64 (24, [(0, .ref 496), (1, .int (iI 59))], [], S555) _
          have hv559 := X_av_r (n := n) (c := (X_av n (X_av n cur))) (by omega)
          refine T_p xr_64_24 xn_64 (pc' := 25) (ls' := [(0, .ref 496), (1, .int (iI 59))]) (st' := [.int (iI 1)]) rfl ?_
          refine T_iret xr_64_25 xf_64.2.2 (by decide) ?_
          show X_T sc 65 (102, [(0, .ref 496)], [.int (iI 1)], S555) _
          refine T_p xr_65_102 xn_65 (pc' := 103) (ls' := [(0, .ref 496)]) (st' := []) rfl ?_
          refine T_vret xr_65_103 xf_65.2.2 ?_
          refine hQ _ _ ?_
          have h560 := (h557.1 496 (by omega)).trans (h542)
          have h561 := (h557.1 B (by omega)).trans ((h539.1 B (by omega)).trans (hb528.1))
          have hs562 : C_ws S555 B D W := C_ws.fr (P := fun r => ¬ (B + 6 ≤ r ∧ r < B + 246)) hs (((((X_Fr.rf).tr (X_Fr.mono ⟨h484.1, h484.2⟩ (fun q hq => (by omega)))).tr (X_Fr.mono ⟨h529.1, h529.2⟩ (fun q hq => (by omega)))).tr (X_Fr.mono ⟨h539.1, h539.2⟩ (fun q hq => (by omega)))).tr (X_Fr.mono ⟨h557.1, h557.2⟩ (fun q hq => (by omega)))) (fun k h1 h2 => by omega)
          have h563 := (h557.1 (B + 1) (by omega)).trans ((h539.1 (B + 1) (by omega)).trans (hb528.2.1))
          have h564 := (h557.1 (B + 2) (by omega)).trans ((h539.1 (B + 2) (by omega)).trans (hb528.2.2.1))
          have h565 := (h557.1 (B + 3) (by omega)).trans ((h539.1 (B + 3) (by omega)).trans (hb528.2.2.2.1))
          have h566 := (h557.1 (B + 4) (by omega)).trans ((h539.1 (B + 4) (by omega)).trans (hb528.2.2.2.2.1))
          have h569 := (h557.1 (B + 5) (by omega)).trans ((h539.1 (B + 5) (by omega)).trans ((h529.1 (B + 5) (by omega)).trans (h515)))
          have h570 := (h557.1 498 (by omega)).trans (h543)
          have h571 := (h557.1 499 (by omega)).trans (h544)
          have h572 := (h557.1 500 (by omega)).trans (h545)
          have hb567 : C_bk S555 B (rc + 1) kc wc (X_ug rn rc (ct (X_av n cur))) (X_ug lo rc 0) kn ab := ⟨h561, h563, h564, h565, h566, ⟨f, h569, hf⟩, ⟨by omega, by omega⟩, ⟨by omega, by omega⟩, ⟨by omega, by omega⟩⟩
          have hc568 : 0 ≤ (X_av n (X_av n (X_av n cur))) ∧ (X_av n (X_av n (X_av n cur))) < n := by omega
          refine Or.inl ⟨(X_av n (X_av n (X_av n cur)), rc + 1, kc, wc, (X_ug rn rc (ct (X_av n cur))), (X_ug lo rc 0), kn, ab, D, W), ?_, fp, ⟨h560, ⟨h558, h570, h571, h572⟩, hb567, hs562, hc568⟩, ((((X_Fr.rf).tr (X_Fr.mono ⟨h484.1, h484.2⟩ (fun q hq => (by omega)))).tr (X_Fr.mono ⟨h529.1, h529.2⟩ (fun q hq => (by omega)))).tr (X_Fr.mono ⟨h539.1, h539.2⟩ (fun q hq => (by omega)))).tr (X_Fr.mono ⟨h557.1, h557.2⟩ (fun q hq => (by omega)))⟩
          simp only [sp_rank]
          (repeat' split) <;> first | rfl | (exfalso; omega) | contradiction
        · skip
          have c552 : ¬ ((so (X_av n (X_av n cur))) = 59) := c552
          refine T_p xr_64_11 xn_64 (pc' := 12) (ls' := [(0, .ref 496), (1, .int (iI 59))]) (st' := [.ref 496]) rfl ?_
          refine T_cv (S := S537) (q := 496) xr_64_12 xf_63.1 xf_63.2.1 xn_63 (as := []) (r := []) rfl h542 (Nat.le_of_ble_eq_true rfl) (Nat.le_of_ble_eq_true rfl) (pc' := 15) rfl (ls' := [(0, .ref 496)]) rfl ?_
          refine T_p xr_63_0 xn_63 (pc' := 1) (ls' := [(0, .ref 496)]) (st' := [.ref 496]) rfl ?_
          refine T_p xr_63_1 xn_63 (pc' := 2) (ls' := [(0, .ref 496)]) (st' := [.ref 496, .ref 496]) rfl ?_
          refine T_get xr_63_2 h542 rfl (v := .ref 497) rfl (pc' := 5) rfl ?_
          refine T_cv (S := S537) (q := 497) xr_63_5 xf_44.1 xf_44.2.1 xn_44 (as := []) (r := [.ref 496]) rfl h540 (Nat.le_of_ble_eq_true rfl) (Nat.le_of_ble_eq_true rfl) (pc' := 8) rfl (ls' := [(0, .ref 497)]) rfl ?_
          refine T_mono (c_sort sc S537 at_ n (X_av n (X_av n cur)) so pl ct ⟨h540, h543, h544, h545⟩ (by omega)) (fun v574 S575 h573 => ?_)
          obtain ⟨h576, h577⟩ := h573
          rw [h576, h577]
          show X_T sc 63 (8, [(0, .ref 496)], [.int (iI (so (X_av n (X_av n cur)))), .ref 496], S537) _
          have hs578 := hso (X_av n (X_av n cur)) (by omega) (by omega)
          refine T_p xr_63_8 xn_63 (pc' := 9) (ls' := [(0, .ref 496)]) (st' := [.int (iI 1), .int (iI (so (X_av n (X_av n cur)))), .ref 496]) rfl ?_
          refine T_zicmp_ne xr_63_9 (t := 16) (pc' := 12) rfl rfl (fun c579 => ?_) (fun c579 => ?_)
          · skip
            have c579 : ¬ (so (X_av n (X_av n cur))) = 1 := c579
            refine T_p xr_63_16 xn_63 (pc' := 17) (ls' := [(0, .ref 496)]) (st' := [.int (iI 2), .ref 496]) rfl ?_
            refine T_p xr_63_17 xn_63 (pc' := 18) (ls' := [(0, .ref 496)]) (st' := [.ref 496, .int (iI 2), .ref 496]) rfl ?_
            refine T_get xr_63_18 h542 rfl (v := .ref 497) rfl (pc' := 21) rfl ?_
            refine T_cv (S := S537) (q := 497) xr_63_21 xf_45.1 xf_45.2.1 xn_45 (as := []) (r := [.int (iI 2), .ref 496]) rfl h540 (Nat.le_of_ble_eq_true rfl) (Nat.le_of_ble_eq_true rfl) (pc' := 24) rfl (ls' := [(0, .ref 497)]) rfl ?_
            refine T_mono (c_place sc S537 at_ n (X_av n (X_av n cur)) so pl ct ⟨h540, h543, h544, h545⟩ (by omega)) (fun v581 S582 h580 => ?_)
            obtain ⟨h583, h584⟩ := h580
            rw [h583, h584]
            show X_T sc 63 (24, [(0, .ref 496)], [.int (iI (pl (X_av n (X_av n cur)))), .int (iI 2), .ref 496], S537) _
            refine T_cv (S := S537) (q := 496) xr_63_24 xf_62.1 xf_62.2.1 xn_62 (as := [.int (iI 2), .int (iI (pl (X_av n (X_av n cur))))]) (r := []) rfl h542 (Nat.le_of_ble_eq_true rfl) (Nat.le_of_ble_eq_true rfl) (pc' := 27) rfl (ls' := [(0, .ref 496), (1, .int (iI 2)), (2, .int (iI (pl (X_av n (X_av n cur)))))]) rfl ?_
            refine T_p xr_62_0 xn_62 (pc' := 1) (ls' := [(0, .ref 496), (1, .int (iI 2)), (2, .int (iI (pl (X_av n (X_av n cur)))))]) (st' := [.ref 496]) rfl ?_
            refine T_p xr_62_1 xn_62 (pc' := 2) (ls' := [(0, .ref 496), (1, .int (iI 2)), (2, .int (iI (pl (X_av n (X_av n cur)))))]) (st' := [.int (iI 2), .ref 496]) rfl ?_
            refine T_put xr_62_2 h542 rfl (Nat.le_of_ble_eq_true rfl) rfl (fs' := [.ref 497, .ref B, .int (iI 2), .int (iI fp)]) rfl (pc' := 5) rfl (fun S585 h586 n587 e588 => ?_)
            refine T_p xr_62_5 xn_62 (pc' := 6) (ls' := [(0, .ref 496), (1, .int (iI 2)), (2, .int (iI (pl (X_av n (X_av n cur)))))]) (st' := [.ref 496]) rfl ?_
            refine T_p xr_62_6 xn_62 (pc' := 7) (ls' := [(0, .ref 496), (1, .int (iI 2)), (2, .int (iI (pl (X_av n (X_av n cur)))))]) (st' := [.int (iI (pl (X_av n (X_av n cur)))), .ref 496]) rfl ?_
            refine T_put xr_62_7 h586 rfl (Nat.le_of_ble_eq_true rfl) rfl (fs' := [.ref 497, .ref B, .int (iI 2), .int (iI (pl (X_av n (X_av n cur))))]) rfl (pc' := 10) rfl (fun S589 h590 n591 e592 => ?_)
            refine T_vret xr_62_10 xf_62.2.2 ?_
            show X_T sc 63 (27, [(0, .ref 496)], [], S589) _
            refine T_vret xr_63_27 xf_63.2.2 ?_
            show X_T sc 64 (15, [(0, .ref 496), (1, .int (iI 59))], [], S589) _
            refine T_p xr_64_15 xn_64 (pc' := 16) (ls' := [(0, .ref 496), (1, .int (iI 59))]) (st' := [.int (iI 0)]) rfl ?_
            refine T_iret xr_64_16 xf_64.2.2 (by decide) ?_
            show X_T sc 65 (102, [(0, .ref 496)], [.int (iI 0)], S589) _
            refine T_p xr_65_102 xn_65 (pc' := 103) (ls' := [(0, .ref 496)]) (st' := []) rfl ?_
            refine T_vret xr_65_103 xf_65.2.2 ?_
            refine hQ _ _ ?_
            have h593 := (n591 B (by omega)).trans ((n587 B (by omega)).trans ((h539.1 B (by omega)).trans (hb528.1)))
            have hs594 : C_ws S589 B D W := C_ws.fr (P := fun r => ¬ (B + 6 ≤ r ∧ r < B + 246)) hs ((((((X_Fr.rf).tr (X_Fr.mono ⟨h484.1, h484.2⟩ (fun q hq => (by omega)))).tr (X_Fr.mono ⟨h529.1, h529.2⟩ (fun q hq => (by omega)))).tr (X_Fr.mono ⟨h539.1, h539.2⟩ (fun q hq => (by omega)))).tr (X_Fr.of n587 e588 (by omega))).tr (X_Fr.of n591 e592 (by omega))) (fun k h1 h2 => by omega)
            have h595 := (n591 497 (by decide)).trans ((n587 497 (by decide)).trans (h540))
            have h596 := (n591 (B + 1) (by omega)).trans ((n587 (B + 1) (by omega)).trans ((h539.1 (B + 1) (by omega)).trans (hb528.2.1)))
            have h597 := (n591 (B + 2) (by omega)).trans ((n587 (B + 2) (by omega)).trans ((h539.1 (B + 2) (by omega)).trans (hb528.2.2.1)))
            have h598 := (n591 (B + 3) (by omega)).trans ((n587 (B + 3) (by omega)).trans ((h539.1 (B + 3) (by omega)).trans (hb528.2.2.2.1)))
            have h599 := (n591 (B + 4) (by omega)).trans ((n587 (B + 4) (by omega)).trans ((h539.1 (B + 4) (by omega)).trans (hb528.2.2.2.2.1)))
            have h602 := (n591 (B + 5) (by omega)).trans ((n587 (B + 5) (by omega)).trans ((h539.1 (B + 5) (by omega)).trans ((h529.1 (B + 5) (by omega)).trans (h515))))
            have h603 := (n591 498 (by decide)).trans ((n587 498 (by decide)).trans (h543))
            have h604 := (n591 499 (by decide)).trans ((n587 499 (by decide)).trans (h544))
            have h605 := (n591 500 (by decide)).trans ((n587 500 (by decide)).trans (h545))
            have hb600 : C_bk S589 B (rc + 1) kc wc (X_ug rn rc (ct (X_av n cur))) (X_ug lo rc 0) kn ab := ⟨h593, h596, h597, h598, h599, ⟨f, h602, hf⟩, ⟨by omega, by omega⟩, ⟨by omega, by omega⟩, ⟨by omega, by omega⟩⟩
            have hc601 : 0 ≤ (X_av n (X_av n cur)) ∧ (X_av n (X_av n cur)) < n := by omega
            refine Or.inr ⟨?_, 2, pl (X_av n (X_av n cur)), (X_av n (X_av n cur), rc + 1, kc, wc, (X_ug rn rc (ct (X_av n cur))), (X_ug lo rc 0), kn, ab, D, W), by omega, ⟨h590, ⟨h595, h603, h604, h605⟩, hb600, hs594, hc601⟩, (((((X_Fr.rf).tr (X_Fr.mono ⟨h484.1, h484.2⟩ (fun q hq => (by omega)))).tr (X_Fr.mono ⟨h529.1, h529.2⟩ (fun q hq => (by omega)))).tr (X_Fr.mono ⟨h539.1, h539.2⟩ (fun q hq => (by omega)))).tr (X_Fr.of n587 e588 (by omega))).tr (X_Fr.of n591 e592 (by omega))⟩
            simp only [sp_rank]
            (repeat' split) <;> first | rfl | (exfalso; omega) | contradiction
          · skip
            have c579 : ¬ (¬ (so (X_av n (X_av n cur))) = 1) := c579
            refine T_p xr_63_12 xn_63 (pc' := 13) (ls' := [(0, .ref 496)]) (st' := [.int (iI 1), .ref 496]) rfl ?_
            refine T_p xr_63_13 xn_63 (pc' := 17) (ls' := [(0, .ref 496)]) (st' := [.int (iI 1), .ref 496]) rfl ?_
            refine T_p xr_63_17 xn_63 (pc' := 18) (ls' := [(0, .ref 496)]) (st' := [.ref 496, .int (iI 1), .ref 496]) rfl ?_
            refine T_get xr_63_18 h542 rfl (v := .ref 497) rfl (pc' := 21) rfl ?_
            refine T_cv (S := S537) (q := 497) xr_63_21 xf_45.1 xf_45.2.1 xn_45 (as := []) (r := [.int (iI 1), .ref 496]) rfl h540 (Nat.le_of_ble_eq_true rfl) (Nat.le_of_ble_eq_true rfl) (pc' := 24) rfl (ls' := [(0, .ref 497)]) rfl ?_
            refine T_mono (c_place sc S537 at_ n (X_av n (X_av n cur)) so pl ct ⟨h540, h543, h544, h545⟩ (by omega)) (fun v607 S608 h606 => ?_)
            obtain ⟨h609, h610⟩ := h606
            rw [h609, h610]
            show X_T sc 63 (24, [(0, .ref 496)], [.int (iI (pl (X_av n (X_av n cur)))), .int (iI 1), .ref 496], S537) _
            refine T_cv (S := S537) (q := 496) xr_63_24 xf_62.1 xf_62.2.1 xn_62 (as := [.int (iI 1), .int (iI (pl (X_av n (X_av n cur))))]) (r := []) rfl h542 (Nat.le_of_ble_eq_true rfl) (Nat.le_of_ble_eq_true rfl) (pc' := 27) rfl (ls' := [(0, .ref 496), (1, .int (iI 1)), (2, .int (iI (pl (X_av n (X_av n cur)))))]) rfl ?_
            refine T_p xr_62_0 xn_62 (pc' := 1) (ls' := [(0, .ref 496), (1, .int (iI 1)), (2, .int (iI (pl (X_av n (X_av n cur)))))]) (st' := [.ref 496]) rfl ?_
            refine T_p xr_62_1 xn_62 (pc' := 2) (ls' := [(0, .ref 496), (1, .int (iI 1)), (2, .int (iI (pl (X_av n (X_av n cur)))))]) (st' := [.int (iI 1), .ref 496]) rfl ?_
            refine T_put xr_62_2 h542 rfl (Nat.le_of_ble_eq_true rfl) rfl (fs' := [.ref 497, .ref B, .int (iI 1), .int (iI fp)]) rfl (pc' := 5) rfl (fun S611 h612 n613 e614 => ?_)
            refine T_p xr_62_5 xn_62 (pc' := 6) (ls' := [(0, .ref 496), (1, .int (iI 1)), (2, .int (iI (pl (X_av n (X_av n cur)))))]) (st' := [.ref 496]) rfl ?_
            refine T_p xr_62_6 xn_62 (pc' := 7) (ls' := [(0, .ref 496), (1, .int (iI 1)), (2, .int (iI (pl (X_av n (X_av n cur)))))]) (st' := [.int (iI (pl (X_av n (X_av n cur)))), .ref 496]) rfl ?_
            refine T_put xr_62_7 h612 rfl (Nat.le_of_ble_eq_true rfl) rfl (fs' := [.ref 497, .ref B, .int (iI 1), .int (iI (pl (X_av n (X_av n cur))))]) rfl (pc' := 10) rfl (fun S615 h616 n617 e618 => ?_)
            refine T_vret xr_62_10 xf_62.2.2 ?_
            show X_T sc 63 (27, [(0, .ref 496)], [], S615) _
            refine T_vret xr_63_27 xf_63.2.2 ?_
            show X_T sc 64 (15, [(0, .ref 496), (1, .int (iI 59))], [], S615) _
            refine T_p xr_64_15 xn_64 (pc' := 16) (ls' := [(0, .ref 496), (1, .int (iI 59))]) (st' := [.int (iI 0)]) rfl ?_
            refine T_iret xr_64_16 xf_64.2.2 (by decide) ?_
            show X_T sc 65 (102, [(0, .ref 496)], [.int (iI 0)], S615) _
            refine T_p xr_65_102 xn_65 (pc' := 103) (ls' := [(0, .ref 496)]) (st' := []) rfl ?_
            refine T_vret xr_65_103 xf_65.2.2 ?_
            refine hQ _ _ ?_
            have h619 := (n617 B (by omega)).trans ((n613 B (by omega)).trans ((h539.1 B (by omega)).trans (hb528.1)))
            have hs620 : C_ws S615 B D W := C_ws.fr (P := fun r => ¬ (B + 6 ≤ r ∧ r < B + 246)) hs ((((((X_Fr.rf).tr (X_Fr.mono ⟨h484.1, h484.2⟩ (fun q hq => (by omega)))).tr (X_Fr.mono ⟨h529.1, h529.2⟩ (fun q hq => (by omega)))).tr (X_Fr.mono ⟨h539.1, h539.2⟩ (fun q hq => (by omega)))).tr (X_Fr.of n613 e614 (by omega))).tr (X_Fr.of n617 e618 (by omega))) (fun k h1 h2 => by omega)
            have h621 := (n617 497 (by decide)).trans ((n613 497 (by decide)).trans (h540))
            have h622 := (n617 (B + 1) (by omega)).trans ((n613 (B + 1) (by omega)).trans ((h539.1 (B + 1) (by omega)).trans (hb528.2.1)))
            have h623 := (n617 (B + 2) (by omega)).trans ((n613 (B + 2) (by omega)).trans ((h539.1 (B + 2) (by omega)).trans (hb528.2.2.1)))
            have h624 := (n617 (B + 3) (by omega)).trans ((n613 (B + 3) (by omega)).trans ((h539.1 (B + 3) (by omega)).trans (hb528.2.2.2.1)))
            have h625 := (n617 (B + 4) (by omega)).trans ((n613 (B + 4) (by omega)).trans ((h539.1 (B + 4) (by omega)).trans (hb528.2.2.2.2.1)))
            have h628 := (n617 (B + 5) (by omega)).trans ((n613 (B + 5) (by omega)).trans ((h539.1 (B + 5) (by omega)).trans ((h529.1 (B + 5) (by omega)).trans (h515))))
            have h629 := (n617 498 (by decide)).trans ((n613 498 (by decide)).trans (h543))
            have h630 := (n617 499 (by decide)).trans ((n613 499 (by decide)).trans (h544))
            have h631 := (n617 500 (by decide)).trans ((n613 500 (by decide)).trans (h545))
            have hb626 : C_bk S615 B (rc + 1) kc wc (X_ug rn rc (ct (X_av n cur))) (X_ug lo rc 0) kn ab := ⟨h619, h622, h623, h624, h625, ⟨f, h628, hf⟩, ⟨by omega, by omega⟩, ⟨by omega, by omega⟩, ⟨by omega, by omega⟩⟩
            have hc627 : 0 ≤ (X_av n (X_av n cur)) ∧ (X_av n (X_av n cur)) < n := by omega
            refine Or.inr ⟨?_, 1, pl (X_av n (X_av n cur)), (X_av n (X_av n cur), rc + 1, kc, wc, (X_ug rn rc (ct (X_av n cur))), (X_ug lo rc 0), kn, ab, D, W), by omega, ⟨h616, ⟨h621, h629, h630, h631⟩, hb626, hs620, hc627⟩, (((((X_Fr.rf).tr (X_Fr.mono ⟨h484.1, h484.2⟩ (fun q hq => (by omega)))).tr (X_Fr.mono ⟨h529.1, h529.2⟩ (fun q hq => (by omega)))).tr (X_Fr.mono ⟨h539.1, h539.2⟩ (fun q hq => (by omega)))).tr (X_Fr.of n613 e614 (by omega))).tr (X_Fr.of n617 e618 (by omega))⟩
            simp only [sp_rank]
            (repeat' split) <;> first | rfl | (exfalso; omega) | contradiction
      · skip
        have c518 : ¬ (r507 = (-1)) := c518
        refine T_p xr_65_60 xn_65 (pc' := 61) (ls' := [(0, .ref 496)]) (st' := [.ref 496]) rfl ?_
        refine T_p xr_65_61 xn_65 (pc' := 62) (ls' := [(0, .ref 496)]) (st' := [.int (iI 3), .ref 496]) rfl ?_
        refine T_p xr_65_62 xn_65 (pc' := 63) (ls' := [(0, .ref 496)]) (st' := [.ref 496, .int (iI 3), .ref 496]) rfl ?_
        refine T_get xr_65_63 h487 rfl (v := .ref 497) rfl (pc' := 66) rfl ?_
        refine T_cv (S := S482) (q := 497) xr_65_66 xf_45.1 xf_45.2.1 xn_45 (as := []) (r := [.int (iI 3), .ref 496]) rfl h485 (Nat.le_of_ble_eq_true rfl) (Nat.le_of_ble_eq_true rfl) (pc' := 69) rfl (ls' := [(0, .ref 497)]) rfl ?_
        refine T_mono (c_place sc S482 at_ n (X_av n cur) so pl ct ⟨h485, h488, h489, h490⟩ (by omega)) (fun v633 S634 h632 => ?_)
        obtain ⟨h635, h636⟩ := h632
        rw [h635, h636]
        show X_T sc 65 (69, [(0, .ref 496)], [.int (iI (pl (X_av n cur))), .int (iI 3), .ref 496], S482) _
        refine T_cv (S := S482) (q := 496) xr_65_69 xf_62.1 xf_62.2.1 xn_62 (as := [.int (iI 3), .int (iI (pl (X_av n cur)))]) (r := []) rfl h487 (Nat.le_of_ble_eq_true rfl) (Nat.le_of_ble_eq_true rfl) (pc' := 72) rfl (ls' := [(0, .ref 496), (1, .int (iI 3)), (2, .int (iI (pl (X_av n cur))))]) rfl ?_
        refine T_p xr_62_0 xn_62 (pc' := 1) (ls' := [(0, .ref 496), (1, .int (iI 3)), (2, .int (iI (pl (X_av n cur))))]) (st' := [.ref 496]) rfl ?_
        refine T_p xr_62_1 xn_62 (pc' := 2) (ls' := [(0, .ref 496), (1, .int (iI 3)), (2, .int (iI (pl (X_av n cur))))]) (st' := [.int (iI 3), .ref 496]) rfl ?_
        refine T_put xr_62_2 h487 rfl (Nat.le_of_ble_eq_true rfl) rfl (fs' := [.ref 497, .ref B, .int (iI 3), .int (iI fp)]) rfl (pc' := 5) rfl (fun S637 h638 n639 e640 => ?_)
        refine T_p xr_62_5 xn_62 (pc' := 6) (ls' := [(0, .ref 496), (1, .int (iI 3)), (2, .int (iI (pl (X_av n cur))))]) (st' := [.ref 496]) rfl ?_
        refine T_p xr_62_6 xn_62 (pc' := 7) (ls' := [(0, .ref 496), (1, .int (iI 3)), (2, .int (iI (pl (X_av n cur))))]) (st' := [.int (iI (pl (X_av n cur))), .ref 496]) rfl ?_
        refine T_put xr_62_7 h638 rfl (Nat.le_of_ble_eq_true rfl) rfl (fs' := [.ref 497, .ref B, .int (iI 3), .int (iI (pl (X_av n cur)))]) rfl (pc' := 10) rfl (fun S641 h642 n643 e644 => ?_)
        refine T_vret xr_62_10 xf_62.2.2 ?_
        show X_T sc 65 (72, [(0, .ref 496)], [], S641) _
        refine T_p xr_65_72 xn_65 (pc' := 103) (ls' := [(0, .ref 496)]) (st' := []) rfl ?_
        refine T_vret xr_65_103 xf_65.2.2 ?_
        refine hQ _ _ ?_
        have h645 := (n643 B (by omega)).trans ((n639 B (by omega)).trans (h503))
        have hs646 : C_ws S641 B D W := C_ws.fr (P := fun r => ¬ (B + 6 ≤ r ∧ r < B + 246)) hs ((((X_Fr.rf).tr (X_Fr.mono ⟨h484.1, h484.2⟩ (fun q hq => (by omega)))).tr (X_Fr.of n639 e640 (by omega))).tr (X_Fr.of n643 e644 (by omega))) (fun k h1 h2 => by omega)
        have h647 := (n643 497 (by decide)).trans ((n639 497 (by decide)).trans (h485))
        have h648 := (n643 (B + 1) (by omega)).trans ((n639 (B + 1) (by omega)).trans (h511))
        have h649 := (n643 (B + 2) (by omega)).trans ((n639 (B + 2) (by omega)).trans (h512))
        have h650 := (n643 (B + 3) (by omega)).trans ((n639 (B + 3) (by omega)).trans (h513))
        have h651 := (n643 (B + 4) (by omega)).trans ((n639 (B + 4) (by omega)).trans (h514))
        have h654 := (n643 (B + 5) (by omega)).trans ((n639 (B + 5) (by omega)).trans (h515))
        have h655 := (n643 498 (by decide)).trans ((n639 498 (by decide)).trans (h488))
        have h656 := (n643 499 (by decide)).trans ((n639 499 (by decide)).trans (h489))
        have h657 := (n643 500 (by decide)).trans ((n639 500 (by decide)).trans (h490))
        have hb652 : C_bk S641 B rc kc wc rn lo kn ab := ⟨h645, h648, h649, h650, h651, ⟨f, h654, hf⟩, ⟨by omega, by omega⟩, ⟨by omega, by omega⟩, ⟨by omega, by omega⟩⟩
        have hc653 : 0 ≤ (X_av n cur) ∧ (X_av n cur) < n := by omega
        refine Or.inr ⟨?_, 3, pl (X_av n cur), (X_av n cur, rc, kc, wc, rn, lo, kn, ab, D, W), by omega, ⟨h642, ⟨h647, h655, h656, h657⟩, hb652, hs646, hc653⟩, (((X_Fr.rf).tr (X_Fr.mono ⟨h484.1, h484.2⟩ (fun q hq => (by omega)))).tr (X_Fr.of n639 e640 (by omega))).tr (X_Fr.of n643 e644 (by omega))⟩
        simp only [sp_rank]
        (repeat' split) <;> first | rfl | (exfalso; omega) | contradiction
    · skip
      have c497 : ¬ ((so (X_av n cur)) = 2) := c497
      refine T_p xr_65_35 xn_65 (pc' := 36) (ls' := [(0, .ref 496)]) (st' := [.ref 496]) rfl ?_
      refine T_cv (S := S482) (q := 496) xr_65_36 xf_63.1 xf_63.2.1 xn_63 (as := []) (r := []) rfl h487 (Nat.le_of_ble_eq_true rfl) (Nat.le_of_ble_eq_true rfl) (pc' := 39) rfl (ls' := [(0, .ref 496)]) rfl ?_
      refine T_p xr_63_0 xn_63 (pc' := 1) (ls' := [(0, .ref 496)]) (st' := [.ref 496]) rfl ?_
      refine T_p xr_63_1 xn_63 (pc' := 2) (ls' := [(0, .ref 496)]) (st' := [.ref 496, .ref 496]) rfl ?_
      refine T_get xr_63_2 h487 rfl (v := .ref 497) rfl (pc' := 5) rfl ?_
      refine T_cv (S := S482) (q := 497) xr_63_5 xf_44.1 xf_44.2.1 xn_44 (as := []) (r := [.ref 496]) rfl h485 (Nat.le_of_ble_eq_true rfl) (Nat.le_of_ble_eq_true rfl) (pc' := 8) rfl (ls' := [(0, .ref 497)]) rfl ?_
      refine T_mono (c_sort sc S482 at_ n (X_av n cur) so pl ct ⟨h485, h488, h489, h490⟩ (by omega)) (fun v659 S660 h658 => ?_)
      obtain ⟨h661, h662⟩ := h658
      rw [h661, h662]
      show X_T sc 63 (8, [(0, .ref 496)], [.int (iI (so (X_av n cur))), .ref 496], S482) _
      have hs663 := hso (X_av n cur) (by omega) (by omega)
      refine T_p xr_63_8 xn_63 (pc' := 9) (ls' := [(0, .ref 496)]) (st' := [.int (iI 1), .int (iI (so (X_av n cur))), .ref 496]) rfl ?_
      refine T_zicmp_ne xr_63_9 (t := 16) (pc' := 12) rfl rfl (fun c664 => ?_) (fun c664 => ?_)
      · skip
        have c664 : ¬ (so (X_av n cur)) = 1 := c664
        refine T_p xr_63_16 xn_63 (pc' := 17) (ls' := [(0, .ref 496)]) (st' := [.int (iI 2), .ref 496]) rfl ?_
        refine T_p xr_63_17 xn_63 (pc' := 18) (ls' := [(0, .ref 496)]) (st' := [.ref 496, .int (iI 2), .ref 496]) rfl ?_
        refine T_get xr_63_18 h487 rfl (v := .ref 497) rfl (pc' := 21) rfl ?_
        refine T_cv (S := S482) (q := 497) xr_63_21 xf_45.1 xf_45.2.1 xn_45 (as := []) (r := [.int (iI 2), .ref 496]) rfl h485 (Nat.le_of_ble_eq_true rfl) (Nat.le_of_ble_eq_true rfl) (pc' := 24) rfl (ls' := [(0, .ref 497)]) rfl ?_
        refine T_mono (c_place sc S482 at_ n (X_av n cur) so pl ct ⟨h485, h488, h489, h490⟩ (by omega)) (fun v666 S667 h665 => ?_)
        obtain ⟨h668, h669⟩ := h665
        rw [h668, h669]
        show X_T sc 63 (24, [(0, .ref 496)], [.int (iI (pl (X_av n cur))), .int (iI 2), .ref 496], S482) _
        refine T_cv (S := S482) (q := 496) xr_63_24 xf_62.1 xf_62.2.1 xn_62 (as := [.int (iI 2), .int (iI (pl (X_av n cur)))]) (r := []) rfl h487 (Nat.le_of_ble_eq_true rfl) (Nat.le_of_ble_eq_true rfl) (pc' := 27) rfl (ls' := [(0, .ref 496), (1, .int (iI 2)), (2, .int (iI (pl (X_av n cur))))]) rfl ?_
        refine T_p xr_62_0 xn_62 (pc' := 1) (ls' := [(0, .ref 496), (1, .int (iI 2)), (2, .int (iI (pl (X_av n cur))))]) (st' := [.ref 496]) rfl ?_
        refine T_p xr_62_1 xn_62 (pc' := 2) (ls' := [(0, .ref 496), (1, .int (iI 2)), (2, .int (iI (pl (X_av n cur))))]) (st' := [.int (iI 2), .ref 496]) rfl ?_
        refine T_put xr_62_2 h487 rfl (Nat.le_of_ble_eq_true rfl) rfl (fs' := [.ref 497, .ref B, .int (iI 2), .int (iI fp)]) rfl (pc' := 5) rfl (fun S670 h671 n672 e673 => ?_)
        refine T_p xr_62_5 xn_62 (pc' := 6) (ls' := [(0, .ref 496), (1, .int (iI 2)), (2, .int (iI (pl (X_av n cur))))]) (st' := [.ref 496]) rfl ?_
        refine T_p xr_62_6 xn_62 (pc' := 7) (ls' := [(0, .ref 496), (1, .int (iI 2)), (2, .int (iI (pl (X_av n cur))))]) (st' := [.int (iI (pl (X_av n cur))), .ref 496]) rfl ?_
        refine T_put xr_62_7 h671 rfl (Nat.le_of_ble_eq_true rfl) rfl (fs' := [.ref 497, .ref B, .int (iI 2), .int (iI (pl (X_av n cur)))]) rfl (pc' := 10) rfl (fun S674 h675 n676 e677 => ?_)
        refine T_vret xr_62_10 xf_62.2.2 ?_
        show X_T sc 63 (27, [(0, .ref 496)], [], S674) _
        refine T_vret xr_63_27 xf_63.2.2 ?_
        show X_T sc 65 (39, [(0, .ref 496)], [], S674) _
        refine T_p xr_65_39 xn_65 (pc' := 103) (ls' := [(0, .ref 496)]) (st' := []) rfl ?_
        refine T_vret xr_65_103 xf_65.2.2 ?_
        refine hQ _ _ ?_
        have h678 := (n676 B (by omega)).trans ((n672 B (by omega)).trans ((h484.1 B (by omega)).trans (hb0)))
        have hs679 : C_ws S674 B D W := C_ws.fr (P := fun r => ¬ (B + 6 ≤ r ∧ r < B + 246)) hs ((((X_Fr.rf).tr (X_Fr.mono ⟨h484.1, h484.2⟩ (fun q hq => (by omega)))).tr (X_Fr.of n672 e673 (by omega))).tr (X_Fr.of n676 e677 (by omega))) (fun k h1 h2 => by omega)
        have h680 := (n676 497 (by decide)).trans ((n672 497 (by decide)).trans (h485))
        have h681 := (n676 (B + 1) (by omega)).trans ((n672 (B + 1) (by omega)).trans ((h484.1 (B + 1) (by omega)).trans (hb1)))
        have h682 := (n676 (B + 2) (by omega)).trans ((n672 (B + 2) (by omega)).trans ((h484.1 (B + 2) (by omega)).trans (hb2)))
        have h683 := (n676 (B + 3) (by omega)).trans ((n672 (B + 3) (by omega)).trans ((h484.1 (B + 3) (by omega)).trans (hb3)))
        have h684 := (n676 (B + 4) (by omega)).trans ((n672 (B + 4) (by omega)).trans ((h484.1 (B + 4) (by omega)).trans (hb4)))
        have h687 := (n676 (B + 5) (by omega)).trans ((n672 (B + 5) (by omega)).trans ((h484.1 (B + 5) (by omega)).trans (hb5)))
        have h688 := (n676 498 (by decide)).trans ((n672 498 (by decide)).trans (h488))
        have h689 := (n676 499 (by decide)).trans ((n672 499 (by decide)).trans (h489))
        have h690 := (n676 500 (by decide)).trans ((n672 500 (by decide)).trans (h490))
        have hb685 : C_bk S674 B rc kc wc rn lo kn ab := ⟨h678, h681, h682, h683, h684, ⟨f, h687, hf⟩, ⟨by omega, by omega⟩, ⟨by omega, by omega⟩, ⟨by omega, by omega⟩⟩
        have hc686 : 0 ≤ (X_av n cur) ∧ (X_av n cur) < n := by omega
        refine Or.inr ⟨?_, 2, pl (X_av n cur), (X_av n cur, rc, kc, wc, rn, lo, kn, ab, D, W), by omega, ⟨h675, ⟨h680, h688, h689, h690⟩, hb685, hs679, hc686⟩, (((X_Fr.rf).tr (X_Fr.mono ⟨h484.1, h484.2⟩ (fun q hq => (by omega)))).tr (X_Fr.of n672 e673 (by omega))).tr (X_Fr.of n676 e677 (by omega))⟩
        simp only [sp_rank]
        (repeat' split) <;> first | rfl | (exfalso; omega) | contradiction
      · skip
        have c664 : ¬ (¬ (so (X_av n cur)) = 1) := c664
        refine T_p xr_63_12 xn_63 (pc' := 13) (ls' := [(0, .ref 496)]) (st' := [.int (iI 1), .ref 496]) rfl ?_
        refine T_p xr_63_13 xn_63 (pc' := 17) (ls' := [(0, .ref 496)]) (st' := [.int (iI 1), .ref 496]) rfl ?_
        refine T_p xr_63_17 xn_63 (pc' := 18) (ls' := [(0, .ref 496)]) (st' := [.ref 496, .int (iI 1), .ref 496]) rfl ?_
        refine T_get xr_63_18 h487 rfl (v := .ref 497) rfl (pc' := 21) rfl ?_
        refine T_cv (S := S482) (q := 497) xr_63_21 xf_45.1 xf_45.2.1 xn_45 (as := []) (r := [.int (iI 1), .ref 496]) rfl h485 (Nat.le_of_ble_eq_true rfl) (Nat.le_of_ble_eq_true rfl) (pc' := 24) rfl (ls' := [(0, .ref 497)]) rfl ?_
        refine T_mono (c_place sc S482 at_ n (X_av n cur) so pl ct ⟨h485, h488, h489, h490⟩ (by omega)) (fun v692 S693 h691 => ?_)
        obtain ⟨h694, h695⟩ := h691
        rw [h694, h695]
        show X_T sc 63 (24, [(0, .ref 496)], [.int (iI (pl (X_av n cur))), .int (iI 1), .ref 496], S482) _
        refine T_cv (S := S482) (q := 496) xr_63_24 xf_62.1 xf_62.2.1 xn_62 (as := [.int (iI 1), .int (iI (pl (X_av n cur)))]) (r := []) rfl h487 (Nat.le_of_ble_eq_true rfl) (Nat.le_of_ble_eq_true rfl) (pc' := 27) rfl (ls' := [(0, .ref 496), (1, .int (iI 1)), (2, .int (iI (pl (X_av n cur))))]) rfl ?_
        refine T_p xr_62_0 xn_62 (pc' := 1) (ls' := [(0, .ref 496), (1, .int (iI 1)), (2, .int (iI (pl (X_av n cur))))]) (st' := [.ref 496]) rfl ?_
        refine T_p xr_62_1 xn_62 (pc' := 2) (ls' := [(0, .ref 496), (1, .int (iI 1)), (2, .int (iI (pl (X_av n cur))))]) (st' := [.int (iI 1), .ref 496]) rfl ?_
        refine T_put xr_62_2 h487 rfl (Nat.le_of_ble_eq_true rfl) rfl (fs' := [.ref 497, .ref B, .int (iI 1), .int (iI fp)]) rfl (pc' := 5) rfl (fun S696 h697 n698 e699 => ?_)
        refine T_p xr_62_5 xn_62 (pc' := 6) (ls' := [(0, .ref 496), (1, .int (iI 1)), (2, .int (iI (pl (X_av n cur))))]) (st' := [.ref 496]) rfl ?_
        refine T_p xr_62_6 xn_62 (pc' := 7) (ls' := [(0, .ref 496), (1, .int (iI 1)), (2, .int (iI (pl (X_av n cur))))]) (st' := [.int (iI (pl (X_av n cur))), .ref 496]) rfl ?_
        refine T_put xr_62_7 h697 rfl (Nat.le_of_ble_eq_true rfl) rfl (fs' := [.ref 497, .ref B, .int (iI 1), .int (iI (pl (X_av n cur)))]) rfl (pc' := 10) rfl (fun S700 h701 n702 e703 => ?_)
        refine T_vret xr_62_10 xf_62.2.2 ?_
        show X_T sc 63 (27, [(0, .ref 496)], [], S700) _
        refine T_vret xr_63_27 xf_63.2.2 ?_
        show X_T sc 65 (39, [(0, .ref 496)], [], S700) _
        refine T_p xr_65_39 xn_65 (pc' := 103) (ls' := [(0, .ref 496)]) (st' := []) rfl ?_
        refine T_vret xr_65_103 xf_65.2.2 ?_
        refine hQ _ _ ?_
        have h704 := (n702 B (by omega)).trans ((n698 B (by omega)).trans ((h484.1 B (by omega)).trans (hb0)))
        have hs705 : C_ws S700 B D W := C_ws.fr (P := fun r => ¬ (B + 6 ≤ r ∧ r < B + 246)) hs ((((X_Fr.rf).tr (X_Fr.mono ⟨h484.1, h484.2⟩ (fun q hq => (by omega)))).tr (X_Fr.of n698 e699 (by omega))).tr (X_Fr.of n702 e703 (by omega))) (fun k h1 h2 => by omega)
        have h706 := (n702 497 (by decide)).trans ((n698 497 (by decide)).trans (h485))
        have h707 := (n702 (B + 1) (by omega)).trans ((n698 (B + 1) (by omega)).trans ((h484.1 (B + 1) (by omega)).trans (hb1)))
        have h708 := (n702 (B + 2) (by omega)).trans ((n698 (B + 2) (by omega)).trans ((h484.1 (B + 2) (by omega)).trans (hb2)))
        have h709 := (n702 (B + 3) (by omega)).trans ((n698 (B + 3) (by omega)).trans ((h484.1 (B + 3) (by omega)).trans (hb3)))
        have h710 := (n702 (B + 4) (by omega)).trans ((n698 (B + 4) (by omega)).trans ((h484.1 (B + 4) (by omega)).trans (hb4)))
        have h713 := (n702 (B + 5) (by omega)).trans ((n698 (B + 5) (by omega)).trans ((h484.1 (B + 5) (by omega)).trans (hb5)))
        have h714 := (n702 498 (by decide)).trans ((n698 498 (by decide)).trans (h488))
        have h715 := (n702 499 (by decide)).trans ((n698 499 (by decide)).trans (h489))
        have h716 := (n702 500 (by decide)).trans ((n698 500 (by decide)).trans (h490))
        have hb711 : C_bk S700 B rc kc wc rn lo kn ab := ⟨h704, h707, h708, h709, h710, ⟨f, h713, hf⟩, ⟨by omega, by omega⟩, ⟨by omega, by omega⟩, ⟨by omega, by omega⟩⟩
        have hc712 : 0 ≤ (X_av n cur) ∧ (X_av n cur) < n := by omega
        refine Or.inr ⟨?_, 1, pl (X_av n cur), (X_av n cur, rc, kc, wc, rn, lo, kn, ab, D, W), by omega, ⟨h701, ⟨h706, h714, h715, h716⟩, hb711, hs705, hc712⟩, (((X_Fr.rf).tr (X_Fr.mono ⟨h484.1, h484.2⟩ (fun q hq => (by omega)))).tr (X_Fr.of n698 e699 (by omega))).tr (X_Fr.of n702 e703 (by omega))⟩
        simp only [sp_rank]
        (repeat' split) <;> first | rfl | (exfalso; omega) | contradiction
  · skip
    have c479 : ¬ (¬ rc = 12) := c479
    refine T_p xr_65_12 xn_65 (pc' := 13) (ls' := [(0, .ref 496)]) (st' := [.ref 496]) rfl ?_
    refine T_cv (S := S) (q := 496) xr_65_13 xf_63.1 xf_63.2.1 xn_63 (as := []) (r := []) rfl hp (Nat.le_of_ble_eq_true rfl) (Nat.le_of_ble_eq_true rfl) (pc' := 16) rfl (ls' := [(0, .ref 496)]) rfl ?_
    refine T_p xr_63_0 xn_63 (pc' := 1) (ls' := [(0, .ref 496)]) (st' := [.ref 496]) rfl ?_
    refine T_p xr_63_1 xn_63 (pc' := 2) (ls' := [(0, .ref 496)]) (st' := [.ref 496, .ref 496]) rfl ?_
    refine T_get xr_63_2 hp rfl (v := .ref 497) rfl (pc' := 5) rfl ?_
    refine T_cv (S := S) (q := 497) xr_63_5 xf_44.1 xf_44.2.1 xn_44 (as := []) (r := [.ref 496]) rfl hx.1 (Nat.le_of_ble_eq_true rfl) (Nat.le_of_ble_eq_true rfl) (pc' := 8) rfl (ls' := [(0, .ref 497)]) rfl ?_
    refine T_mono (c_sort sc S at_ n cur so pl ct ⟨hx.1, hx.2.1, hx.2.2.1, hx.2.2.2⟩ (by omega)) (fun v718 S719 h717 => ?_)
    obtain ⟨h720, h721⟩ := h717
    rw [h720, h721]
    show X_T sc 63 (8, [(0, .ref 496)], [.int (iI (so cur)), .ref 496], S) _
    have hs722 := hso cur (by omega) (by omega)
    refine T_p xr_63_8 xn_63 (pc' := 9) (ls' := [(0, .ref 496)]) (st' := [.int (iI 1), .int (iI (so cur)), .ref 496]) rfl ?_
    refine T_zicmp_ne xr_63_9 (t := 16) (pc' := 12) rfl rfl (fun c723 => ?_) (fun c723 => ?_)
    · skip
      have c723 : ¬ (so cur) = 1 := c723
      refine T_p xr_63_16 xn_63 (pc' := 17) (ls' := [(0, .ref 496)]) (st' := [.int (iI 2), .ref 496]) rfl ?_
      refine T_p xr_63_17 xn_63 (pc' := 18) (ls' := [(0, .ref 496)]) (st' := [.ref 496, .int (iI 2), .ref 496]) rfl ?_
      refine T_get xr_63_18 hp rfl (v := .ref 497) rfl (pc' := 21) rfl ?_
      refine T_cv (S := S) (q := 497) xr_63_21 xf_45.1 xf_45.2.1 xn_45 (as := []) (r := [.int (iI 2), .ref 496]) rfl hx.1 (Nat.le_of_ble_eq_true rfl) (Nat.le_of_ble_eq_true rfl) (pc' := 24) rfl (ls' := [(0, .ref 497)]) rfl ?_
      refine T_mono (c_place sc S at_ n cur so pl ct ⟨hx.1, hx.2.1, hx.2.2.1, hx.2.2.2⟩ (by omega)) (fun v725 S726 h724 => ?_)
      obtain ⟨h727, h728⟩ := h724
      rw [h727, h728]
      show X_T sc 63 (24, [(0, .ref 496)], [.int (iI (pl cur)), .int (iI 2), .ref 496], S) _
      refine T_cv (S := S) (q := 496) xr_63_24 xf_62.1 xf_62.2.1 xn_62 (as := [.int (iI 2), .int (iI (pl cur))]) (r := []) rfl hp (Nat.le_of_ble_eq_true rfl) (Nat.le_of_ble_eq_true rfl) (pc' := 27) rfl (ls' := [(0, .ref 496), (1, .int (iI 2)), (2, .int (iI (pl cur)))]) rfl ?_
      refine T_p xr_62_0 xn_62 (pc' := 1) (ls' := [(0, .ref 496), (1, .int (iI 2)), (2, .int (iI (pl cur)))]) (st' := [.ref 496]) rfl ?_
      refine T_p xr_62_1 xn_62 (pc' := 2) (ls' := [(0, .ref 496), (1, .int (iI 2)), (2, .int (iI (pl cur)))]) (st' := [.int (iI 2), .ref 496]) rfl ?_
      refine T_put xr_62_2 hp rfl (Nat.le_of_ble_eq_true rfl) rfl (fs' := [.ref 497, .ref B, .int (iI 2), .int (iI fp)]) rfl (pc' := 5) rfl (fun S729 h730 n731 e732 => ?_)
      refine T_p xr_62_5 xn_62 (pc' := 6) (ls' := [(0, .ref 496), (1, .int (iI 2)), (2, .int (iI (pl cur)))]) (st' := [.ref 496]) rfl ?_
      refine T_p xr_62_6 xn_62 (pc' := 7) (ls' := [(0, .ref 496), (1, .int (iI 2)), (2, .int (iI (pl cur)))]) (st' := [.int (iI (pl cur)), .ref 496]) rfl ?_
      refine T_put xr_62_7 h730 rfl (Nat.le_of_ble_eq_true rfl) rfl (fs' := [.ref 497, .ref B, .int (iI 2), .int (iI (pl cur))]) rfl (pc' := 10) rfl (fun S733 h734 n735 e736 => ?_)
      refine T_vret xr_62_10 xf_62.2.2 ?_
      show X_T sc 63 (27, [(0, .ref 496)], [], S733) _
      refine T_vret xr_63_27 xf_63.2.2 ?_
      show X_T sc 65 (16, [(0, .ref 496)], [], S733) _
      refine T_vret xr_65_16 xf_65.2.2 ?_
      refine hQ _ _ ?_
      have h737 := (n735 B (by omega)).trans ((n731 B (by omega)).trans (hb0))
      have hs738 : C_ws S733 B D W := C_ws.fr (P := fun r => ¬ (B + 6 ≤ r ∧ r < B + 246)) hs (((X_Fr.rf).tr (X_Fr.of n731 e732 (by omega))).tr (X_Fr.of n735 e736 (by omega))) (fun k h1 h2 => by omega)
      have h739 := (n735 497 (by decide)).trans ((n731 497 (by decide)).trans (hx.1))
      have h740 := (n735 (B + 1) (by omega)).trans ((n731 (B + 1) (by omega)).trans (hb1))
      have h741 := (n735 (B + 2) (by omega)).trans ((n731 (B + 2) (by omega)).trans (hb2))
      have h742 := (n735 (B + 3) (by omega)).trans ((n731 (B + 3) (by omega)).trans (hb3))
      have h743 := (n735 (B + 4) (by omega)).trans ((n731 (B + 4) (by omega)).trans (hb4))
      have h746 := (n735 (B + 5) (by omega)).trans ((n731 (B + 5) (by omega)).trans (hb5))
      have h747 := (n735 498 (by decide)).trans ((n731 498 (by decide)).trans (hx.2.1))
      have h748 := (n735 499 (by decide)).trans ((n731 499 (by decide)).trans (hx.2.2.1))
      have h749 := (n735 500 (by decide)).trans ((n731 500 (by decide)).trans (hx.2.2.2))
      have hb744 : C_bk S733 B rc kc wc rn lo kn ab := ⟨h737, h740, h741, h742, h743, ⟨f, h746, hf⟩, ⟨by omega, by omega⟩, ⟨by omega, by omega⟩, ⟨by omega, by omega⟩⟩
      have hc745 : 0 ≤ cur ∧ cur < n := by omega
      refine Or.inr ⟨?_, 2, pl cur, (cur, rc, kc, wc, rn, lo, kn, ab, D, W), by omega, ⟨h734, ⟨h739, h747, h748, h749⟩, hb744, hs738, hc745⟩, ((X_Fr.rf).tr (X_Fr.of n731 e732 (by omega))).tr (X_Fr.of n735 e736 (by omega))⟩
      simp only [sp_rank]
      (repeat' split) <;> first | rfl | (exfalso; omega) | contradiction
    · skip
      have c723 : ¬ (¬ (so cur) = 1) := c723
      refine T_p xr_63_12 xn_63 (pc' := 13) (ls' := [(0, .ref 496)]) (st' := [.int (iI 1), .ref 496]) rfl ?_
      refine T_p xr_63_13 xn_63 (pc' := 17) (ls' := [(0, .ref 496)]) (st' := [.int (iI 1), .ref 496]) rfl ?_
      refine T_p xr_63_17 xn_63 (pc' := 18) (ls' := [(0, .ref 496)]) (st' := [.ref 496, .int (iI 1), .ref 496]) rfl ?_
      refine T_get xr_63_18 hp rfl (v := .ref 497) rfl (pc' := 21) rfl ?_
      refine T_cv (S := S) (q := 497) xr_63_21 xf_45.1 xf_45.2.1 xn_45 (as := []) (r := [.int (iI 1), .ref 496]) rfl hx.1 (Nat.le_of_ble_eq_true rfl) (Nat.le_of_ble_eq_true rfl) (pc' := 24) rfl (ls' := [(0, .ref 497)]) rfl ?_
      refine T_mono (c_place sc S at_ n cur so pl ct ⟨hx.1, hx.2.1, hx.2.2.1, hx.2.2.2⟩ (by omega)) (fun v751 S752 h750 => ?_)
      obtain ⟨h753, h754⟩ := h750
      rw [h753, h754]
      show X_T sc 63 (24, [(0, .ref 496)], [.int (iI (pl cur)), .int (iI 1), .ref 496], S) _
      refine T_cv (S := S) (q := 496) xr_63_24 xf_62.1 xf_62.2.1 xn_62 (as := [.int (iI 1), .int (iI (pl cur))]) (r := []) rfl hp (Nat.le_of_ble_eq_true rfl) (Nat.le_of_ble_eq_true rfl) (pc' := 27) rfl (ls' := [(0, .ref 496), (1, .int (iI 1)), (2, .int (iI (pl cur)))]) rfl ?_
      refine T_p xr_62_0 xn_62 (pc' := 1) (ls' := [(0, .ref 496), (1, .int (iI 1)), (2, .int (iI (pl cur)))]) (st' := [.ref 496]) rfl ?_
      refine T_p xr_62_1 xn_62 (pc' := 2) (ls' := [(0, .ref 496), (1, .int (iI 1)), (2, .int (iI (pl cur)))]) (st' := [.int (iI 1), .ref 496]) rfl ?_
      refine T_put xr_62_2 hp rfl (Nat.le_of_ble_eq_true rfl) rfl (fs' := [.ref 497, .ref B, .int (iI 1), .int (iI fp)]) rfl (pc' := 5) rfl (fun S755 h756 n757 e758 => ?_)
      refine T_p xr_62_5 xn_62 (pc' := 6) (ls' := [(0, .ref 496), (1, .int (iI 1)), (2, .int (iI (pl cur)))]) (st' := [.ref 496]) rfl ?_
      refine T_p xr_62_6 xn_62 (pc' := 7) (ls' := [(0, .ref 496), (1, .int (iI 1)), (2, .int (iI (pl cur)))]) (st' := [.int (iI (pl cur)), .ref 496]) rfl ?_
      refine T_put xr_62_7 h756 rfl (Nat.le_of_ble_eq_true rfl) rfl (fs' := [.ref 497, .ref B, .int (iI 1), .int (iI (pl cur))]) rfl (pc' := 10) rfl (fun S759 h760 n761 e762 => ?_)
      refine T_vret xr_62_10 xf_62.2.2 ?_
      show X_T sc 63 (27, [(0, .ref 496)], [], S759) _
      refine T_vret xr_63_27 xf_63.2.2 ?_
      show X_T sc 65 (16, [(0, .ref 496)], [], S759) _
      refine T_vret xr_65_16 xf_65.2.2 ?_
      refine hQ _ _ ?_
      have h763 := (n761 B (by omega)).trans ((n757 B (by omega)).trans (hb0))
      have hs764 : C_ws S759 B D W := C_ws.fr (P := fun r => ¬ (B + 6 ≤ r ∧ r < B + 246)) hs (((X_Fr.rf).tr (X_Fr.of n757 e758 (by omega))).tr (X_Fr.of n761 e762 (by omega))) (fun k h1 h2 => by omega)
      have h765 := (n761 497 (by decide)).trans ((n757 497 (by decide)).trans (hx.1))
      have h766 := (n761 (B + 1) (by omega)).trans ((n757 (B + 1) (by omega)).trans (hb1))
      have h767 := (n761 (B + 2) (by omega)).trans ((n757 (B + 2) (by omega)).trans (hb2))
      have h768 := (n761 (B + 3) (by omega)).trans ((n757 (B + 3) (by omega)).trans (hb3))
      have h769 := (n761 (B + 4) (by omega)).trans ((n757 (B + 4) (by omega)).trans (hb4))
      have h772 := (n761 (B + 5) (by omega)).trans ((n757 (B + 5) (by omega)).trans (hb5))
      have h773 := (n761 498 (by decide)).trans ((n757 498 (by decide)).trans (hx.2.1))
      have h774 := (n761 499 (by decide)).trans ((n757 499 (by decide)).trans (hx.2.2.1))
      have h775 := (n761 500 (by decide)).trans ((n757 500 (by decide)).trans (hx.2.2.2))
      have hb770 : C_bk S759 B rc kc wc rn lo kn ab := ⟨h763, h766, h767, h768, h769, ⟨f, h772, hf⟩, ⟨by omega, by omega⟩, ⟨by omega, by omega⟩, ⟨by omega, by omega⟩⟩
      have hc771 : 0 ≤ cur ∧ cur < n := by omega
      refine Or.inr ⟨?_, 1, pl cur, (cur, rc, kc, wc, rn, lo, kn, ab, D, W), by omega, ⟨h760, ⟨h765, h773, h774, h775⟩, hb770, hs764, hc771⟩, ((X_Fr.rf).tr (X_Fr.of n757 e758 (by omega))).tr (X_Fr.of n761 e762 (by omega))⟩
      simp only [sp_rank]
      (repeat' split) <;> first | rfl | (exfalso; omega) | contradiction
