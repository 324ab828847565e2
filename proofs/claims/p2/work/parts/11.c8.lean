theorem xr_48_0 : X_row 48 0 = some (0, (.aload_n 0, 1), (0, 0, 0)) := by decide +kernel
theorem xr_48_1 : X_row 48 1 = some (1, (.getfield 9, 3), (3, 3, 8)) := by decide +kernel
theorem xr_48_4 : X_row 48 4 = some (4, (.aload_n 0, 1), (0, 0, 0)) := by decide +kernel
theorem xr_48_5 : X_row 48 5 = some (5, (.getfield 26, 3), (3, 6, 14)) := by decide +kernel
theorem xr_48_8 : X_row 48 8 = some (8, (.iaload, 1), (0, 0, 0)) := by decide +kernel
theorem xr_48_9 : X_row 48 9 = some (9, (.ireturn, 1), (0, 0, 0)) := by decide +kernel
theorem xr_49_0 : X_row 49 0 = some (0, (.aload_n 0, 1), (0, 0, 0)) := by decide +kernel
theorem xr_49_1 : X_row 49 1 = some (1, (.getfield 15, 3), (3, 4, 10)) := by decide +kernel
theorem xr_49_4 : X_row 49 4 = some (4, (.aload_n 0, 1), (0, 0, 0)) := by decide +kernel
theorem xr_49_5 : X_row 49 5 = some (5, (.getfield 26, 3), (3, 6, 14)) := by decide +kernel
theorem xr_49_8 : X_row 49 8 = some (8, (.iaload, 1), (0, 0, 0)) := by decide +kernel
theorem xr_49_9 : X_row 49 9 = some (9, (.ireturn, 1), (0, 0, 0)) := by decide +kernel
theorem xr_50_0 : X_row 50 0 = some (0, (.aload_n 0, 1), (0, 0, 0)) := by decide +kernel
theorem xr_50_1 : X_row 50 1 = some (1, (.getfield 18, 3), (3, 5, 12)) := by decide +kernel
theorem xr_50_4 : X_row 50 4 = some (4, (.aload_n 0, 1), (0, 0, 0)) := by decide +kernel
theorem xr_50_5 : X_row 50 5 = some (5, (.getfield 26, 3), (3, 6, 14)) := by decide +kernel
theorem xr_50_8 : X_row 50 8 = some (8, (.laload, 1), (0, 0, 0)) := by decide +kernel
theorem xr_50_9 : X_row 50 9 = some (9, (.lreturn, 1), (0, 0, 0)) := by decide +kernel
theorem xr_51_0 : X_row 51 0 = some (0, (.aload_n 0, 1), (0, 0, 0)) := by decide +kernel
theorem xr_51_1 : X_row 51 1 = some (1, (.invokevirtual 30, 3), (48, 26, 0)) := by decide +kernel
theorem xr_51_4 : X_row 51 4 = some (4, (.iconst 3, 1), (0, 0, 0)) := by decide +kernel
theorem xr_51_5 : X_row 51 5 = some (5, (.if_icmp .ne 16, 3), (0, 0, 0)) := by decide +kernel
theorem xr_51_8 : X_row 51 8 = some (8, (.aload_n 0, 1), (0, 0, 0)) := by decide +kernel
theorem xr_51_9 : X_row 51 9 = some (9, (.invokevirtual 34, 3), (50, 28, 0)) := by decide +kernel
theorem xr_51_12 : X_row 51 12 = some (12, (.lload_n 1, 1), (0, 0, 0)) := by decide +kernel
theorem xr_51_13 : X_row 51 13 = some (13, (.lcmp, 1), (0, 0, 0)) := by decide +kernel
theorem xr_51_14 : X_row 51 14 = some (14, (.ifCond .ne 7, 3), (0, 0, 0)) := by decide +kernel
theorem xr_51_17 : X_row 51 17 = some (17, (.iconst 1, 1), (0, 0, 0)) := by decide +kernel
theorem xr_51_18 : X_row 51 18 = some (18, (.goto 4, 3), (0, 0, 0)) := by decide +kernel
theorem xr_51_21 : X_row 51 21 = some (21, (.iconst 0, 1), (0, 0, 0)) := by decide +kernel
theorem xr_51_22 : X_row 51 22 = some (22, (.ireturn, 1), (0, 0, 0)) := by decide +kernel
theorem xr_52_0 : X_row 52 0 = some (0, (.aload_n 0, 1), (0, 0, 0)) := by decide +kernel
theorem xr_52_1 : X_row 52 1 = some (1, (.getfield 26, 3), (3, 6, 14)) := by decide +kernel
theorem xr_52_4 : X_row 52 4 = some (4, (.iconst 1, 1), (0, 0, 0)) := by decide +kernel
theorem xr_52_5 : X_row 52 5 = some (5, (.iadd, 1), (0, 0, 0)) := by decide +kernel
theorem xr_52_6 : X_row 52 6 = some (6, (.aload_n 0, 1), (0, 0, 0)) := by decide +kernel
theorem xr_52_7 : X_row 52 7 = some (7, (.getfield 38, 3), (3, 2, 6)) := by decide +kernel
theorem xr_52_10 : X_row 52 10 = some (10, (.if_icmp .ge 13, 3), (0, 0, 0)) := by decide +kernel
theorem xr_52_13 : X_row 52 13 = some (13, (.aload_n 0, 1), (0, 0, 0)) := by decide +kernel
theorem xr_52_14 : X_row 52 14 = some (14, (.dup, 1), (0, 0, 0)) := by decide +kernel
theorem xr_52_15 : X_row 52 15 = some (15, (.getfield 26, 3), (3, 6, 14)) := by decide +kernel
theorem xr_52_18 : X_row 52 18 = some (18, (.iconst 1, 1), (0, 0, 0)) := by decide +kernel
theorem xr_52_19 : X_row 52 19 = some (19, (.iadd, 1), (0, 0, 0)) := by decide +kernel
theorem xr_52_20 : X_row 52 20 = some (20, (.putfield 26, 3), (3, 6, 14)) := by decide +kernel
theorem xr_52_23 : X_row 52 23 = some (23, (.return_, 1), (0, 0, 0)) := by decide +kernel
theorem xr_66_0 : X_row 66 0 = some (0, (.aload_n 0, 1), (0, 0, 0)) := by decide +kernel
theorem xr_66_1 : X_row 66 1 = some (1, (.iload_n 1, 1), (0, 0, 0)) := by decide +kernel
theorem xr_66_2 : X_row 66 2 = some (2, (.putfield 9, 3), (4, 2, 22)) := by decide +kernel
theorem xr_66_5 : X_row 66 5 = some (5, (.aload_n 0, 1), (0, 0, 0)) := by decide +kernel
theorem xr_66_6 : X_row 66 6 = some (6, (.iload_n 2, 1), (0, 0, 0)) := by decide +kernel
theorem xr_66_7 : X_row 66 7 = some (7, (.putfield 15, 3), (4, 3, 24)) := by decide +kernel
theorem xr_66_10 : X_row 66 10 = some (10, (.return_, 1), (0, 0, 0)) := by decide +kernel
theorem xr_67_0 : X_row 67 0 = some (0, (.aload_n 0, 1), (0, 0, 0)) := by decide +kernel
theorem xr_67_1 : X_row 67 1 = some (1, (.aload_n 0, 1), (0, 0, 0)) := by decide +kernel
theorem xr_67_2 : X_row 67 2 = some (2, (.getfield 23, 3), (4, 0, 18)) := by decide +kernel
theorem xr_67_5 : X_row 67 5 = some (5, (.invokevirtual 39, 3), (48, 6, 0)) := by decide +kernel
theorem xr_67_8 : X_row 67 8 = some (8, (.iconst 1, 1), (0, 0, 0)) := by decide +kernel
theorem xr_67_9 : X_row 67 9 = some (9, (.if_icmp .ne 7, 3), (0, 0, 0)) := by decide +kernel
theorem xr_67_12 : X_row 67 12 = some (12, (.iconst 1, 1), (0, 0, 0)) := by decide +kernel
theorem xr_67_13 : X_row 67 13 = some (13, (.goto 4, 3), (0, 0, 0)) := by decide +kernel
theorem xr_67_16 : X_row 67 16 = some (16, (.iconst 2, 1), (0, 0, 0)) := by decide +kernel
theorem xr_67_17 : X_row 67 17 = some (17, (.aload_n 0, 1), (0, 0, 0)) := by decide +kernel
theorem xr_67_18 : X_row 67 18 = some (18, (.getfield 23, 3), (4, 0, 18)) := by decide +kernel
theorem xr_67_21 : X_row 67 21 = some (21, (.invokevirtual 73, 3), (49, 14, 0)) := by decide +kernel
theorem xr_67_24 : X_row 67 24 = some (24, (.invokevirtual 76, 3), (66, 16, 0)) := by decide +kernel
theorem xr_67_27 : X_row 67 27 = some (27, (.return_, 1), (0, 0, 0)) := by decide +kernel
theorem xr_68_0 : X_row 68 0 = some (0, (.aload_n 0, 1), (0, 0, 0)) := by decide +kernel
theorem xr_68_1 : X_row 68 1 = some (1, (.getfield 23, 3), (4, 0, 18)) := by decide +kernel
theorem xr_68_4 : X_row 68 4 = some (4, (.invokevirtual 39, 3), (48, 6, 0)) := by decide +kernel
theorem xr_68_7 : X_row 68 7 = some (7, (.iload_n 1, 1), (0, 0, 0)) := by decide +kernel
theorem xr_68_8 : X_row 68 8 = some (8, (.if_icmp .eq 9, 3), (0, 0, 0)) := by decide +kernel
theorem xr_68_11 : X_row 68 11 = some (11, (.aload_n 0, 1), (0, 0, 0)) := by decide +kernel
theorem xr_68_12 : X_row 68 12 = some (12, (.invokevirtual 67, 3), (67, 12, 0)) := by decide +kernel
theorem xr_68_15 : X_row 68 15 = some (15, (.iconst 0, 1), (0, 0, 0)) := by decide +kernel
theorem xr_68_16 : X_row 68 16 = some (16, (.ireturn, 1), (0, 0, 0)) := by decide +kernel
theorem xr_68_17 : X_row 68 17 = some (17, (.aload_n 0, 1), (0, 0, 0)) := by decide +kernel
theorem xr_68_18 : X_row 68 18 = some (18, (.getfield 23, 3), (4, 0, 18)) := by decide +kernel
theorem xr_68_21 : X_row 68 21 = some (21, (.invokevirtual 80, 3), (52, 18, 0)) := by decide +kernel
theorem xr_68_24 : X_row 68 24 = some (24, (.iconst 1, 1), (0, 0, 0)) := by decide +kernel
theorem xr_68_25 : X_row 68 25 = some (25, (.ireturn, 1), (0, 0, 0)) := by decide +kernel
theorem xr_69_0 : X_row 69 0 = some (0, (.aload_n 0, 1), (0, 0, 0)) := by decide +kernel
theorem xr_69_1 : X_row 69 1 = some (1, (.getfield 27, 3), (4, 1, 20)) := by decide +kernel
theorem xr_69_4 : X_row 69 4 = some (4, (.getfield 83, 3), (0, 0, 11)) := by decide +kernel
theorem xr_69_7 : X_row 69 7 = some (7, (.bipush 12, 2), (0, 0, 0)) := by decide +kernel
theorem xr_69_9 : X_row 69 9 = some (9, (.if_icmp .ne 8, 3), (0, 0, 0)) := by decide +kernel
theorem xr_69_12 : X_row 69 12 = some (12, (.aload_n 0, 1), (0, 0, 0)) := by decide +kernel
theorem xr_69_13 : X_row 69 13 = some (13, (.invokevirtual 67, 3), (67, 12, 0)) := by decide +kernel
theorem xr_69_16 : X_row 69 16 = some (16, (.return_, 1), (0, 0, 0)) := by decide +kernel
theorem xr_69_17 : X_row 69 17 = some (17, (.aload_n 0, 1), (0, 0, 0)) := by decide +kernel
theorem xr_69_18 : X_row 69 18 = some (18, (.getfield 23, 3), (4, 0, 18)) := by decide +kernel
theorem xr_69_21 : X_row 69 21 = some (21, (.invokevirtual 80, 3), (52, 18, 0)) := by decide +kernel
theorem xr_69_24 : X_row 69 24 = some (24, (.aload_n 0, 1), (0, 0, 0)) := by decide +kernel
theorem xr_69_25 : X_row 69 25 = some (25, (.getfield 23, 3), (4, 0, 18)) := by decide +kernel
theorem xr_69_28 : X_row 69 28 = some (28, (.invokevirtual 39, 3), (48, 6, 0)) := by decide +kernel
theorem xr_69_31 : X_row 69 31 = some (31, (.iconst 2, 1), (0, 0, 0)) := by decide +kernel
theorem xr_69_32 : X_row 69 32 = some (32, (.if_icmp .eq 10, 3), (0, 0, 0)) := by decide +kernel
theorem xr_69_35 : X_row 69 35 = some (35, (.aload_n 0, 1), (0, 0, 0)) := by decide +kernel
theorem xr_69_36 : X_row 69 36 = some (36, (.invokevirtual 67, 3), (67, 12, 0)) := by decide +kernel
theorem xr_69_39 : X_row 69 39 = some (39, (.goto 64, 3), (0, 0, 0)) := by decide +kernel
theorem xr_69_42 : X_row 69 42 = some (42, (.aload_n 0, 1), (0, 0, 0)) := by decide +kernel
theorem xr_69_43 : X_row 69 43 = some (43, (.getfield 27, 3), (4, 1, 20)) := by decide +kernel
theorem xr_69_46 : X_row 69 46 = some (46, (.aload_n 0, 1), (0, 0, 0)) := by decide +kernel
theorem xr_69_47 : X_row 69 47 = some (47, (.getfield 23, 3), (4, 0, 18)) := by decide +kernel
theorem xr_69_50 : X_row 69 50 = some (50, (.invokevirtual 86, 3), (50, 20, 0)) := by decide +kernel
theorem xr_69_53 : X_row 69 53 = some (53, (.invokevirtual 90, 3), (5, 22, 0)) := by decide +kernel
theorem xr_69_56 : X_row 69 56 = some (56, (.iconst (-1), 1), (0, 0, 0)) := by decide +kernel
theorem xr_69_57 : X_row 69 57 = some (57, (.if_icmp .eq 18, 3), (0, 0, 0)) := by decide +kernel
theorem xr_69_60 : X_row 69 60 = some (60, (.aload_n 0, 1), (0, 0, 0)) := by decide +kernel
theorem xr_69_61 : X_row 69 61 = some (61, (.iconst 3, 1), (0, 0, 0)) := by decide +kernel
theorem xr_69_62 : X_row 69 62 = some (62, (.aload_n 0, 1), (0, 0, 0)) := by decide +kernel
theorem xr_69_63 : X_row 69 63 = some (63, (.getfield 23, 3), (4, 0, 18)) := by decide +kernel
theorem xr_69_66 : X_row 69 66 = some (66, (.invokevirtual 73, 3), (49, 14, 0)) := by decide +kernel
theorem xr_69_69 : X_row 69 69 = some (69, (.invokevirtual 76, 3), (66, 16, 0)) := by decide +kernel
theorem xr_69_72 : X_row 69 72 = some (72, (.goto 31, 3), (0, 0, 0)) := by decide +kernel
theorem xr_69_75 : X_row 69 75 = some (75, (.aload_n 0, 1), (0, 0, 0)) := by decide +kernel
theorem xr_69_76 : X_row 69 76 = some (76, (.getfield 27, 3), (4, 1, 20)) := by decide +kernel
theorem xr_69_79 : X_row 69 79 = some (79, (.aload_n 0, 1), (0, 0, 0)) := by decide +kernel
theorem xr_69_80 : X_row 69 80 = some (80, (.getfield 23, 3), (4, 0, 18)) := by decide +kernel
theorem xr_69_83 : X_row 69 83 = some (83, (.invokevirtual 86, 3), (50, 20, 0)) := by decide +kernel
theorem xr_69_86 : X_row 69 86 = some (86, (.invokevirtual 94, 3), (8, 24, 0)) := by decide +kernel
theorem xr_69_89 : X_row 69 89 = some (89, (.aload_n 0, 1), (0, 0, 0)) := by decide +kernel
theorem xr_69_90 : X_row 69 90 = some (90, (.getfield 23, 3), (4, 0, 18)) := by decide +kernel
theorem xr_69_93 : X_row 69 93 = some (93, (.invokevirtual 80, 3), (52, 18, 0)) := by decide +kernel
theorem xr_69_96 : X_row 69 96 = some (96, (.aload_n 0, 1), (0, 0, 0)) := by decide +kernel
theorem xr_69_97 : X_row 69 97 = some (97, (.bipush 59, 2), (0, 0, 0)) := by decide +kernel
theorem xr_69_99 : X_row 69 99 = some (99, (.invokevirtual 98, 3), (68, 26, 0)) := by decide +kernel
theorem xr_69_102 : X_row 69 102 = some (102, (.pop, 1), (0, 0, 0)) := by decide +kernel
theorem xr_69_103 : X_row 69 103 = some (103, (.return_, 1), (0, 0, 0)) := by decide +kernel
theorem xn_48 : X_nL 48 = 1 := by decide +kernel
theorem xf_48 : X_na 48 = 0 ∧ X_ci 48 = 3 ∧ X_rt 48 = (some .int) := by decide +kernel
theorem xn_49 : X_nL 49 = 1 := by decide +kernel
theorem xf_49 : X_na 49 = 0 ∧ X_ci 49 = 3 ∧ X_rt 49 = (some .int) := by decide +kernel
theorem xn_50 : X_nL 50 = 1 := by decide +kernel
theorem xf_50 : X_na 50 = 0 ∧ X_ci 50 = 3 ∧ X_rt 50 = (some .long) := by decide +kernel
theorem xn_51 : X_nL 51 = 3 := by decide +kernel
theorem xf_51 : X_na 51 = 1 ∧ X_ci 51 = 3 ∧ X_rt 51 = (some .boolean) := by decide +kernel
theorem xn_52 : X_nL 52 = 1 := by decide +kernel
theorem xf_52 : X_na 52 = 0 ∧ X_ci 52 = 3 ∧ X_rt 52 = none := by decide +kernel
theorem xn_66 : X_nL 66 = 3 := by decide +kernel
theorem xf_66 : X_na 66 = 2 ∧ X_ci 66 = 4 ∧ X_rt 66 = none := by decide +kernel
theorem xn_67 : X_nL 67 = 1 := by decide +kernel
theorem xf_67 : X_na 67 = 0 ∧ X_ci 67 = 4 ∧ X_rt 67 = none := by decide +kernel
theorem xn_68 : X_nL 68 = 2 := by decide +kernel
theorem xf_68 : X_na 68 = 1 ∧ X_ci 68 = 4 ∧ X_rt 68 = (some .boolean) := by decide +kernel
theorem xn_69 : X_nL 69 = 1 := by decide +kernel
theorem xf_69 : X_na 69 = 0 ∧ X_ci 69 = 4 ∧ X_rt 69 = none := by decide +kernel
theorem c_sort (sc : X_Sc) (S : X_S) (at_ n cur : Int) (so pl : Int → Int) (ct : Int → Int64)  (hx : C_lx S at_ n cur so pl ct) (hcu : 0 ≤ cur ∧ cur < n ∧ n ≤ 2001)  : X_T sc 48 (0, [(0, .ref 497)], [], S) (fun v S' => v = some (.int (iI (so cur))) ∧ S' = S) := by
  refine X_QI (fun Q hQ => ?_)
  refine T_p xr_48_0 xn_48 (pc' := 1) (ls' := [(0, .ref 497)]) (st' := [.ref 497]) rfl ?_
  refine T_get xr_48_1 hx.1 rfl (v := .ref 498) rfl (pc' := 4) rfl ?_
  refine T_p xr_48_4 xn_48 (pc' := 5) (ls' := [(0, .ref 497)]) (st' := [.ref 497, .ref 498]) rfl ?_
  refine T_get xr_48_5 hx.1 rfl (v := .int (iI cur)) rfl (pc' := 8) rfl ?_
  refine T_ziald xr_48_8 hx.2.1 (pc' := 9) rfl ?_
  refine T_iret xr_48_9 xf_48.2.2 rfl ?_
  refine hQ _ _ ?_
  exact ⟨rfl, rfl⟩
theorem c_place (sc : X_Sc) (S : X_S) (at_ n cur : Int) (so pl : Int → Int) (ct : Int → Int64)  (hx : C_lx S at_ n cur so pl ct) (hcu : 0 ≤ cur ∧ cur < n ∧ n ≤ 2001)  : X_T sc 49 (0, [(0, .ref 497)], [], S) (fun v S' => v = some (.int (iI (pl cur))) ∧ S' = S) := by
  refine X_QI (fun Q hQ => ?_)
  refine T_p xr_49_0 xn_49 (pc' := 1) (ls' := [(0, .ref 497)]) (st' := [.ref 497]) rfl ?_
  refine T_get xr_49_1 hx.1 rfl (v := .ref 499) rfl (pc' := 4) rfl ?_
  refine T_p xr_49_4 xn_49 (pc' := 5) (ls' := [(0, .ref 497)]) (st' := [.ref 497, .ref 499]) rfl ?_
  refine T_get xr_49_5 hx.1 rfl (v := .int (iI cur)) rfl (pc' := 8) rfl ?_
  refine T_ziald xr_49_8 hx.2.2.1 (pc' := 9) rfl ?_
  refine T_iret xr_49_9 xf_49.2.2 rfl ?_
  refine hQ _ _ ?_
  exact ⟨rfl, rfl⟩
theorem c_content (sc : X_Sc) (S : X_S) (at_ n cur : Int) (so pl : Int → Int) (ct : Int → Int64)  (hx : C_lx S at_ n cur so pl ct) (hcu : 0 ≤ cur ∧ cur < n ∧ n ≤ 2001)  : X_T sc 50 (0, [(0, .ref 497)], [], S) (fun v S' => v = some (.long (ct cur)) ∧ S' = S) := by
  refine X_QI (fun Q hQ => ?_)
  refine T_p xr_50_0 xn_50 (pc' := 1) (ls' := [(0, .ref 497)]) (st' := [.ref 497]) rfl ?_
  refine T_get xr_50_1 hx.1 rfl (v := .ref 500) rfl (pc' := 4) rfl ?_
  refine T_p xr_50_4 xn_50 (pc' := 5) (ls' := [(0, .ref 497)]) (st' := [.ref 497, .ref 500]) rfl ?_
  refine T_get xr_50_5 hx.1 rfl (v := .int (iI cur)) rfl (pc' := 8) rfl ?_
  refine T_zlald xr_50_8 hx.2.2.2 (pc' := 9) rfl ?_
  refine T_lret xr_50_9 xf_50.2.2 rfl ?_
  refine hQ _ _ ?_
  exact ⟨rfl, rfl⟩
theorem c_isKeyword (sc : X_Sc) (S : X_S) (at_ n cur : Int) (so pl : Int → Int) (ct : Int → Int64) (k : Int64) (hx : C_lx S at_ n cur so pl ct) (hcu : 0 ≤ cur ∧ cur < n ∧ n ≤ 2001) (hso : ∀ i, 0 ≤ i → i < n → 0 ≤ so i ∧ so i ≤ 255) : X_T sc 51 (0, [(0, .ref 497), (1, .long k)], [], S) (fun v S' => v = some (.int (iI (bI (so cur = 3 ∧ ct cur = k)))) ∧ S' = S) := by
  refine X_QI (fun Q hQ => ?_)
  refine T_p xr_51_0 xn_51 (pc' := 1) (ls' := [(0, .ref 497), (1, .long k)]) (st' := [.ref 497]) rfl ?_
  refine T_cv (S := S) (q := 497) xr_51_1 xf_48.1 xf_48.2.1 xn_48 (as := []) (r := []) rfl hx.1 (Nat.le_of_ble_eq_true rfl) (Nat.le_of_ble_eq_true rfl) (pc' := 4) rfl (ls' := [(0, .ref 497)]) rfl ?_
  refine T_mono (c_sort sc S at_ n cur so pl ct ⟨hx.1, hx.2.1, hx.2.2.1, hx.2.2.2⟩ (by omega)) (fun v563 S564 h562 => ?_)
  obtain ⟨h565, h566⟩ := h562
  rw [h565, h566]
  show X_T sc 51 (4, [(0, .ref 497), (1, .long k)], [.int (iI (so cur))], S) _
  have hs567 := hso cur (by omega) (by omega)
  refine T_p xr_51_4 xn_51 (pc' := 5) (ls' := [(0, .ref 497), (1, .long k)]) (st' := [.int (iI 3), .int (iI (so cur))]) rfl ?_
  refine T_zicmp_ne xr_51_5 (t := 21) (pc' := 8) rfl rfl (fun c568 => ?_) (fun c568 => ?_)
  · skip
    have c568 : ¬ (so cur) = 3 := c568
    refine T_p xr_51_21 xn_51 (pc' := 22) (ls' := [(0, .ref 497), (1, .long k)]) (st' := [.int (iI 0)]) rfl ?_
    refine T_iret xr_51_22 xf_51.2.2 (by decide) ?_
    refine hQ _ _ ?_
    exact ⟨by rw [bI_f (by rintro ⟨h1, h2⟩; first | omega | contradiction)], rfl⟩
  · skip
    have c568 : ¬ (¬ (so cur) = 3) := c568
    refine T_p xr_51_8 xn_51 (pc' := 9) (ls' := [(0, .ref 497), (1, .long k)]) (st' := [.ref 497]) rfl ?_
    refine T_cv (S := S) (q := 497) xr_51_9 xf_50.1 xf_50.2.1 xn_50 (as := []) (r := []) rfl hx.1 (Nat.le_of_ble_eq_true rfl) (Nat.le_of_ble_eq_true rfl) (pc' := 12) rfl (ls' := [(0, .ref 497)]) rfl ?_
    refine T_mono (c_content sc S at_ n cur so pl ct ⟨hx.1, hx.2.1, hx.2.2.1, hx.2.2.2⟩ (by omega)) (fun v570 S571 h569 => ?_)
    obtain ⟨h572, h573⟩ := h569
    rw [h572, h573]
    show X_T sc 51 (12, [(0, .ref 497), (1, .long k)], [.long (ct cur)], S) _
    refine T_p xr_51_12 xn_51 (pc' := 13) (ls' := [(0, .ref 497), (1, .long k)]) (st' := [.long k, .long (ct cur)]) rfl ?_
    refine T_lc_ne xr_51_13 xr_51_14 (t := 21) (pc' := 17) rfl rfl (fun c574 => ?_) (fun c574 => ?_)
    · skip
      have c574 : ¬ (ct cur) = k := c574
      refine T_p xr_51_21 xn_51 (pc' := 22) (ls' := [(0, .ref 497), (1, .long k)]) (st' := [.int (iI 0)]) rfl ?_
      refine T_iret xr_51_22 xf_51.2.2 (by decide) ?_
      refine hQ _ _ ?_
      exact ⟨by rw [bI_f (by rintro ⟨h1, h2⟩; first | omega | contradiction)], rfl⟩
    · skip
      have c574 : ¬ (¬ (ct cur) = k) := c574
      refine T_p xr_51_17 xn_51 (pc' := 18) (ls' := [(0, .ref 497), (1, .long k)]) (st' := [.int (iI 1)]) rfl ?_
      refine T_p xr_51_18 xn_51 (pc' := 22) (ls' := [(0, .ref 497), (1, .long k)]) (st' := [.int (iI 1)]) rfl ?_
      refine T_iret xr_51_22 xf_51.2.2 (by decide) ?_
      refine hQ _ _ ?_
      exact ⟨by rw [bI_t ⟨by omega, by first | assumption | exact Classical.not_not.mp (by assumption)⟩], rfl⟩
theorem c_advance (sc : X_Sc) (S : X_S) (at_ n cur : Int) (so pl : Int → Int) (ct : Int → Int64) (hx : C_lx S at_ n cur so pl ct) (hcu : 0 ≤ cur ∧ cur < n ∧ n ≤ 2001) : X_T sc 52 (0, [(0, .ref 497)], [], S) (fun v S' => v = none ∧ S'.1 497 = .inr (3, [.ref 2, .int (iI at_), .int (iI n), .ref 498, .ref 499, .ref 500, .int (iI (X_av n cur))]) ∧ X_Fr (fun r => r = 497) S S') := by
  refine X_QI (fun Q hQ => ?_)
  refine T_p xr_52_0 xn_52 (pc' := 1) (ls' := [(0, .ref 497)]) (st' := [.ref 497]) rfl ?_
  refine T_get xr_52_1 hx.1 rfl (v := .int (iI cur)) rfl (pc' := 4) rfl ?_
  refine T_p xr_52_4 xn_52 (pc' := 5) (ls' := [(0, .ref 497)]) (st' := [.int (iI 1), .int (iI cur)]) rfl ?_
  refine T_ziadd xr_52_5 (z := cur + 1) rfl (pc' := 6) rfl ?_
  refine T_p xr_52_6 xn_52 (pc' := 7) (ls' := [(0, .ref 497)]) (st' := [.ref 497, .int (iI (cur + 1))]) rfl ?_
  refine T_get xr_52_7 hx.1 rfl (v := .int (iI n)) rfl (pc' := 10) rfl ?_
  refine T_zicmp_ge xr_52_10 (t := 23) (pc' := 13) rfl rfl (fun c575 => ?_) (fun c575 => ?_)
  · skip
    have c575 : n ≤ (cur + 1) := c575
    refine T_vret xr_52_23 xf_52.2.2 ?_
    refine hQ _ _ ?_
    have e : X_av n cur = cur := by unfold X_av; first | rw [if_pos (by omega)] | rw [if_neg (by omega)]
    exact ⟨rfl, by rw [e]; exact hx.1, X_Fr.rf⟩
  · skip
    have c575 : ¬ (n ≤ (cur + 1)) := c575
    refine T_p xr_52_13 xn_52 (pc' := 14) (ls' := [(0, .ref 497)]) (st' := [.ref 497]) rfl ?_
    refine T_p xr_52_14 xn_52 (pc' := 15) (ls' := [(0, .ref 497)]) (st' := [.ref 497, .ref 497]) rfl ?_
    refine T_get xr_52_15 hx.1 rfl (v := .int (iI cur)) rfl (pc' := 18) rfl ?_
    refine T_p xr_52_18 xn_52 (pc' := 19) (ls' := [(0, .ref 497)]) (st' := [.int (iI 1), .int (iI cur), .ref 497]) rfl ?_
    refine T_ziadd xr_52_19 (z := cur + 1) rfl (pc' := 20) rfl ?_
    refine T_put xr_52_20 hx.1 rfl (Nat.le_of_ble_eq_true rfl) rfl (fs' := [.ref 2, .int (iI at_), .int (iI n), .ref 498, .ref 499, .ref 500, .int (iI (cur + 1))]) rfl (pc' := 23) rfl (fun S576 h577 n578 e579 => ?_)
    refine T_vret xr_52_23 xf_52.2.2 ?_
    refine hQ _ _ ?_
    have e : X_av n cur = cur + 1 := by unfold X_av; first | rw [if_pos (by omega)] | rw [if_neg (by omega)]
    exact ⟨rfl, by rw [e]; exact h577, (X_Fr.rf).tr (X_Fr.of n578 e579 (by omega))⟩
theorem c_parseRank (sc : X_Sc) (S : X_S) (B : Nat) (fp at_ n : Int) (so pl : Int → Int) (ct : Int → Int64) (cur rc kc wc : Int) (rn : Int → Int64) (lo : Int → Int) (kn : Int → Int64) (ab : Int → Int) (D : Int → Nat → Int → Int) (W : Int → Int → Int64)  (hB : 4 ≤ B ∧ B + 246 ≤ 496) (hn : n ≤ 2001) (hso : ∀ i, 0 ≤ i → i < n → 0 ≤ so i ∧ so i ≤ 255) (hK : C_K S B 0 fp at_ n so pl ct (cur, rc, kc, wc, rn, lo, kn, ab, D, W))  : X_T sc 69 (0, [(0, .ref 496)], [], S) (fun v S' => (∃ K, sp_rank n so ct (cur, rc, kc, wc, rn, lo, kn, ab, D, W) = some K ∧ ∃ fp', C_K S' B 0 fp' at_ n so pl ct K ∧ X_Fr (fun q => q = 496 ∨ q = 497 ∨ (B ≤ q ∧ q < B + 246)) S S') ∨ (sp_rank n so ct (cur, rc, kc, wc, rn, lo, kn, ab, D, W) = none ∧ ∃ fl' fp' K, (¬ fl' = 0 ∧ 0 ≤ fl' ∧ fl' ≤ 5) ∧ C_K S' B fl' fp' at_ n so pl ct K ∧ X_Fr (fun q => q = 496 ∨ q = 497 ∨ (B ≤ q ∧ q < B + 246)) S S')) := by
  obtain ⟨hp, hx, hb, hs, hcu⟩ := id hK
  simp only at hx hb hs hcu
  obtain ⟨hb0, hb1, hb2, hb3, hb4, ⟨f, hb5, hf⟩, ⟨hrc, hrcb⟩, ⟨hkc, hkcb⟩, ⟨hwc, hwcb⟩⟩ := id hb
  refine X_QI (fun Q hQ => ?_)
  refine T_p xr_69_0 xn_69 (pc' := 1) (ls' := [(0, .ref 496)]) (st' := [.ref 496]) rfl ?_
  refine T_get xr_69_1 hp rfl (v := .ref B) rfl (pc' := 4) rfl ?_
  refine T_get xr_69_4 hb0 rfl (v := .int (iI rc)) rfl (pc' := 7) rfl ?_
  refine T_p xr_69_7 xn_69 (pc' := 9) (ls' := [(0, .ref 496)]) (st' := [.int (iI 12), .int (iI rc)]) rfl ?_
  refine T_zicmp_ne xr_69_9 (t := 17) (pc' := 12) rfl rfl (fun c580 => ?_) (fun c580 => ?_)
  · skip
    have c580 : ¬ rc = 12 := c580
    refine T_p xr_69_17 xn_69 (pc' := 18) (ls' := [(0, .ref 496)]) (st' := [.ref 496]) rfl ?_
    refine T_get xr_69_18 hp rfl (v := .ref 497) rfl (pc' := 21) rfl ?_
    refine T_cv (S := S) (q := 497) xr_69_21 xf_52.1 xf_52.2.1 xn_52 (as := []) (r := []) rfl hx.1 (Nat.le_of_ble_eq_true rfl) (Nat.le_of_ble_eq_true rfl) (pc' := 24) rfl (ls' := [(0, .ref 497)]) rfl ?_
    refine T_mono (c_advance sc S at_ n cur so pl ct ⟨hx.1, hx.2.1, hx.2.2.1, hx.2.2.2⟩ (by omega)) (fun v582 S583 h581 => ?_)
    obtain ⟨h584, h586, h585⟩ := h581
    rw [h584]
    show X_T sc 69 (24, [(0, .ref 496)], [], S583) _
    have hv587 := X_av_r (n := n) (c := cur) (by omega)
    refine T_p xr_69_24 xn_69 (pc' := 25) (ls' := [(0, .ref 496)]) (st' := [.ref 496]) rfl ?_
    have h588 := (h585.1 496 (by omega)).trans (hp)
    refine T_get xr_69_25 h588 rfl (v := .ref 497) rfl (pc' := 28) rfl ?_
    refine T_cv (S := S583) (q := 497) xr_69_28 xf_48.1 xf_48.2.1 xn_48 (as := []) (r := []) rfl h586 (Nat.le_of_ble_eq_true rfl) (Nat.le_of_ble_eq_true rfl) (pc' := 31) rfl (ls' := [(0, .ref 497)]) rfl ?_
    have h589 := (h585.1 498 (by omega)).trans (hx.2.1)
    have h590 := (h585.1 499 (by omega)).trans (hx.2.2.1)
    have h591 := (h585.1 500 (by omega)).trans (hx.2.2.2)
    refine T_mono (c_sort sc S583 at_ n (X_av n cur) so pl ct ⟨h586, h589, h590, h591⟩ (by omega)) (fun v593 S594 h592 => ?_)
    obtain ⟨h595, h596⟩ := h592
    rw [h595, h596]
    show X_T sc 69 (31, [(0, .ref 496)], [.int (iI (so (X_av n cur)))], S583) _
    have hs597 := hso (X_av n cur) (by omega) (by omega)
    refine T_p xr_69_31 xn_69 (pc' := 32) (ls' := [(0, .ref 496)]) (st' := [.int (iI 2), .int (iI (so (X_av n cur)))]) rfl ?_
    refine T_zicmp_eq xr_69_32 (t := 42) (pc' := 35) rfl rfl (fun c598 => ?_) (fun c598 => ?_)
    · skip
      have c598 : (so (X_av n cur)) = 2 := c598
      refine T_p xr_69_42 xn_69 (pc' := 43) (ls' := [(0, .ref 496)]) (st' := [.ref 496]) rfl ?_
      refine T_get xr_69_43 h588 rfl (v := .ref B) rfl (pc' := 46) rfl ?_
      refine T_p xr_69_46 xn_69 (pc' := 47) (ls' := [(0, .ref 496)]) (st' := [.ref 496, .ref B]) rfl ?_
      refine T_get xr_69_47 h588 rfl (v := .ref 497) rfl (pc' := 50) rfl ?_
      refine T_cv (S := S583) (q := 497) xr_69_50 xf_50.1 xf_50.2.1 xn_50 (as := []) (r := [.ref B]) rfl h586 (Nat.le_of_ble_eq_true rfl) (Nat.le_of_ble_eq_true rfl) (pc' := 53) rfl (ls' := [(0, .ref 497)]) rfl ?_
      refine T_mono (c_content sc S583 at_ n (X_av n cur) so pl ct ⟨h586, h589, h590, h591⟩ (by omega)) (fun v600 S601 h599 => ?_)
      obtain ⟨h602, h603⟩ := h599
      rw [h602, h603]
      show X_T sc 69 (53, [(0, .ref 496)], [.long (ct (X_av n cur)), .ref B], S583) _
      have h604 := (h585.1 B (by omega)).trans (hb0)
      refine T_cv (S := S583) (q := B) xr_69_53 xf_5.1 xf_5.2.1 xn_5 (as := [.long (ct (X_av n cur))]) (r := []) rfl h604 (Nat.le_of_ble_eq_true rfl) (Nat.le_of_ble_eq_true rfl) (pc' := 56) rfl (ls' := [(0, .ref B), (1, .long (ct (X_av n cur)))]) rfl ?_
      have h612 := (h585.1 (B + 1) (by omega)).trans (hb1)
      have h613 := (h585.1 (B + 2) (by omega)).trans (hb2)
      have h614 := (h585.1 (B + 3) (by omega)).trans (hb3)
      have h615 := (h585.1 (B + 4) (by omega)).trans (hb4)
      have h616 := (h585.1 (B + 5) (by omega)).trans (hb5)
      refine T_mono (c_rankNamed sc S583 B rc kc wc rn lo kn ab (ct (X_av n cur)) ⟨h604, h612, h613, h614, h615, ⟨f, h616, hf⟩, ⟨by omega, by omega⟩, ⟨by omega, by omega⟩, ⟨by omega, by omega⟩⟩) (fun v605 S606 h607 => ?_)
      obtain ⟨r608, h609, hx610, h611⟩ := h607
      rw [h609, h611]
      have hr617 := X_Ix_r (by omega) hx610
      have hq618 := X_ix_e hx610
      show X_T sc 69 (56, [(0, .ref 496)], [.int (iI r608)], S583) _
      refine T_p xr_69_56 xn_69 (pc' := 57) (ls' := [(0, .ref 496)]) (st' := [.int (iI (-1)), .int (iI r608)]) rfl ?_
      refine T_zicmp_eq xr_69_57 (t := 75) (pc' := 60) rfl rfl (fun c619 => ?_) (fun c619 => ?_)
      · skip
        have c619 : r608 = (-1) := c619
        refine T_p xr_69_75 xn_69 (pc' := 76) (ls' := [(0, .ref 496)]) (st' := [.ref 496]) rfl ?_
        refine T_get xr_69_76 h588 rfl (v := .ref B) rfl (pc' := 79) rfl ?_
        refine T_p xr_69_79 xn_69 (pc' := 80) (ls' := [(0, .ref 496)]) (st' := [.ref 496, .ref B]) rfl ?_
        refine T_get xr_69_80 h588 rfl (v := .ref 497) rfl (pc' := 83) rfl ?_
        refine T_cv (S := S583) (q := 497) xr_69_83 xf_50.1 xf_50.2.1 xn_50 (as := []) (r := [.ref B]) rfl h586 (Nat.le_of_ble_eq_true rfl) (Nat.le_of_ble_eq_true rfl) (pc' := 86) rfl (ls' := [(0, .ref 497)]) rfl ?_
        refine T_mono (c_content sc S583 at_ n (X_av n cur) so pl ct ⟨h586, h589, h590, h591⟩ (by omega)) (fun v621 S622 h620 => ?_)
        obtain ⟨h623, h624⟩ := h620
        rw [h623, h624]
        show X_T sc 69 (86, [(0, .ref 496)], [.long (ct (X_av n cur)), .ref B], S583) _
        refine T_cv (S := S583) (q := B) xr_69_86 xf_8.1 xf_8.2.1 xn_8 (as := [.long (ct (X_av n cur))]) (r := []) rfl h604 (Nat.le_of_ble_eq_true rfl) (Nat.le_of_ble_eq_true rfl) (pc' := 89) rfl (ls' := [(0, .ref B), (1, .long (ct (X_av n cur)))]) rfl ?_
        refine T_mono (c_addRank sc S583 B rc kc wc rn lo kn ab (ct (X_av n cur)) ⟨h604, h612, h613, h614, h615, ⟨f, h616, hf⟩, ⟨by omega, by omega⟩, ⟨by omega, by omega⟩, ⟨by omega, by omega⟩⟩ (by omega)) (fun v625 S626 h627 => ?_)
        obtain ⟨h628, hb629, h630⟩ := h627
        rw [h628]
        show X_T sc 69 (89, [(0, .ref 496)], [], S626) _
        refine T_p xr_69_89 xn_69 (pc' := 90) (ls' := [(0, .ref 496)]) (st' := [.ref 496]) rfl ?_
        have h631 := (h630.1 496 (by omega)).trans (h588)
        refine T_get xr_69_90 h631 rfl (v := .ref 497) rfl (pc' := 93) rfl ?_
        have h632 := (h630.1 497 (by omega)).trans (h586)
        refine T_cv (S := S626) (q := 497) xr_69_93 xf_52.1 xf_52.2.1 xn_52 (as := []) (r := []) rfl h632 (Nat.le_of_ble_eq_true rfl) (Nat.le_of_ble_eq_true rfl) (pc' := 96) rfl (ls' := [(0, .ref 497)]) rfl ?_
        have h633 := (h630.1 498 (by omega)).trans (h589)
        have h634 := (h630.1 499 (by omega)).trans (h590)
        have h635 := (h630.1 500 (by omega)).trans (h591)
        refine T_mono (c_advance sc S626 at_ n (X_av n cur) so pl ct ⟨h632, h633, h634, h635⟩ (by omega)) (fun v637 S638 h636 => ?_)
        obtain ⟨h639, h641, h640⟩ := h636
        rw [h639]
        show X_T sc 69 (96, [(0, .ref 496)], [], S638) _
        have hv642 := X_av_r (n := n) (c := (X_av n cur)) (by omega)
        refine T_p xr_69_96 xn_69 (pc' := 97) (ls' := [(0, .ref 496)]) (st' := [.ref 496]) rfl ?_
        refine T_p xr_69_97 xn_69 (pc' := 99) (ls' := [(0, .ref 496)]) (st' := [.int (iI 59), .ref 496]) rfl ?_
        have h643 := (h640.1 496 (by omega)).trans (h631)
        refine T_cv (S := S638) (q := 496) xr_69_99 xf_68.1 xf_68.2.1 xn_68 (as := [.int (iI 59)]) (r := []) rfl h643 (Nat.le_of_ble_eq_true rfl) (Nat.le_of_ble_eq_true rfl) (pc' := 102) rfl (ls' := [(0, .ref 496), (1, .int (iI 59))]) rfl ?_
        refine T_p xr_68_0 xn_68 (pc' := 1) (ls' := [(0, .ref 496), (1, .int (iI 59))]) (st' := [.ref 496]) rfl ?_
        refine T_get xr_68_1 h643 rfl (v := .ref 497) rfl (pc' := 4) rfl ?_
        refine T_cv (S := S638) (q := 497) xr_68_4 xf_48.1 xf_48.2.1 xn_48 (as := []) (r := []) rfl h641 (Nat.le_of_ble_eq_true rfl) (Nat.le_of_ble_eq_true rfl) (pc' := 7) rfl (ls' := [(0, .ref 497)]) rfl ?_
        have h644 := (h640.1 498 (by omega)).trans (h633)
        have h645 := (h640.1 499 (by omega)).trans (h634)
        have h646 := (h640.1 500 (by omega)).trans (h635)
        refine T_mono (c_sort sc S638 at_ n (X_av n (X_av n cur)) so pl ct ⟨h641, h644, h645, h646⟩ (by omega)) (fun v648 S649 h647 => ?_)
        obtain ⟨h650, h651⟩ := h647
        rw [h650, h651]
        show X_T sc 68 (7, [(0, .ref 496), (1, .int (iI 59))], [.int (iI (so (X_av n (X_av n cur))))], S638) _
        have hs652 := hso (X_av n (X_av n cur)) (by omega) (by omega)
        refine T_p xr_68_7 xn_68 (pc' := 8) (ls' := [(0, .ref 496), (1, .int (iI 59))]) (st' := [.int (iI 59), .int (iI (so (X_av n (X_av n cur))))]) rfl ?_
        refine T_zicmp_eq xr_68_8 (t := 17) (pc' := 11) rfl rfl (fun c653 => ?_) (fun c653 => ?_)
        · skip
          have c653 : (so (X_av n (X_av n cur))) = 59 := c653
          refine T_p xr_68_17 xn_68 (pc' := 18) (ls' := [(0, .ref 496), (1, .int (iI 59))]) (st' := [.ref 496]) rfl ?_
          refine T_get xr_68_18 h643 rfl (v := .ref 497) rfl (pc' := 21) rfl ?_
          refine T_cv (S := S638) (q := 497) xr_68_21 xf_52.1 xf_52.2.1 xn_52 (as := []) (r := []) rfl h641 (Nat.le_of_ble_eq_true rfl) (Nat.le_of_ble_eq_true rfl) (pc' := 24) rfl (ls' := [(0, .ref 497)]) rfl ?_
          refine T_mono (c_advance sc S638 at_ n (X_av n (X_av n cur)) so pl ct ⟨h641, h644, h645, h646⟩ (by omega)) (fun v655 S656 h654 => ?_)
          obtain ⟨h657, h659, h658⟩ := h654
          rw [h657]
          show X_T sc 68 (24, [(0, .ref 496), (1, .int (iI 59))], [], S656) _
          have hv660 := X_av_r (n := n) (c := (X_av n (X_av n cur))) (by omega)
          refine T_p xr_68_24 xn_68 (pc' := 25) (ls' := [(0, .ref 496), (1, .int (iI 59))]) (st' := [.int (iI 1)]) rfl ?_
          refine T_iret xr_68_25 xf_68.2.2 (by decide) ?_
          show X_T sc 69 (102, [(0, .ref 496)], [.int (iI 1)], S656) _
          refine T_p xr_69_102 xn_69 (pc' := 103) (ls' := [(0, .ref 496)]) (st' := []) rfl ?_
          refine T_vret xr_69_103 xf_69.2.2 ?_
          refine hQ _ _ ?_
          have h661 := (h658.1 496 (by omega)).trans (h643)
          have h662 := (h658.1 B (by omega)).trans ((h640.1 B (by omega)).trans (hb629.1))
          have hs663 : C_ws S656 B D W := C_ws.fr (P := fun r => ¬ (B + 6 ≤ r ∧ r < B + 246)) hs (((((X_Fr.rf).tr (X_Fr.mono ⟨h585.1, h585.2⟩ (fun q hq => (by omega)))).tr (X_Fr.mono ⟨h630.1, h630.2⟩ (fun q hq => (by omega)))).tr (X_Fr.mono ⟨h640.1, h640.2⟩ (fun q hq => (by omega)))).tr (X_Fr.mono ⟨h658.1, h658.2⟩ (fun q hq => (by omega)))) (fun k h1 h2 => by omega)
          have h664 := (h658.1 (B + 1) (by omega)).trans ((h640.1 (B + 1) (by omega)).trans (hb629.2.1))
          have h665 := (h658.1 (B + 2) (by omega)).trans ((h640.1 (B + 2) (by omega)).trans (hb629.2.2.1))
          have h666 := (h658.1 (B + 3) (by omega)).trans ((h640.1 (B + 3) (by omega)).trans (hb629.2.2.2.1))
          have h667 := (h658.1 (B + 4) (by omega)).trans ((h640.1 (B + 4) (by omega)).trans (hb629.2.2.2.2.1))
          have h670 := (h658.1 (B + 5) (by omega)).trans ((h640.1 (B + 5) (by omega)).trans ((h630.1 (B + 5) (by omega)).trans (h616)))
          have h671 := (h658.1 498 (by omega)).trans (h644)
          have h672 := (h658.1 499 (by omega)).trans (h645)
          have h673 := (h658.1 500 (by omega)).trans (h646)
          have hb668 : C_bk S656 B (rc + 1) kc wc (X_ug rn rc (ct (X_av n cur))) (X_ug lo rc 0) kn ab := ⟨h662, h664, h665, h666, h667, ⟨f, h670, hf⟩, ⟨by omega, by omega⟩, ⟨by omega, by omega⟩, ⟨by omega, by omega⟩⟩
          have hc669 : 0 ≤ (X_av n (X_av n (X_av n cur))) ∧ (X_av n (X_av n (X_av n cur))) < n := by omega
          refine Or.inl ⟨(X_av n (X_av n (X_av n cur)), rc + 1, kc, wc, (X_ug rn rc (ct (X_av n cur))), (X_ug lo rc 0), kn, ab, D, W), ?_, fp, ⟨h661, ⟨h659, h671, h672, h673⟩, hb668, hs663, hc669⟩, ((((X_Fr.rf).tr (X_Fr.mono ⟨h585.1, h585.2⟩ (fun q hq => (by omega)))).tr (X_Fr.mono ⟨h630.1, h630.2⟩ (fun q hq => (by omega)))).tr (X_Fr.mono ⟨h640.1, h640.2⟩ (fun q hq => (by omega)))).tr (X_Fr.mono ⟨h658.1, h658.2⟩ (fun q hq => (by omega)))⟩
          simp only [sp_rank]
          (repeat' split) <;> first | rfl | (exfalso; omega) | contradiction
        · skip
          have c653 : ¬ ((so (X_av n (X_av n cur))) = 59) := c653
          refine T_p xr_68_11 xn_68 (pc' := 12) (ls' := [(0, .ref 496), (1, .int (iI 59))]) (st' := [.ref 496]) rfl ?_
          refine T_cv (S := S638) (q := 496) xr_68_12 xf_67.1 xf_67.2.1 xn_67 (as := []) (r := []) rfl h643 (Nat.le_of_ble_eq_true rfl) (Nat.le_of_ble_eq_true rfl) (pc' := 15) rfl (ls' := [(0, .ref 496)]) rfl ?_
          refine T_p xr_67_0 xn_67 (pc' := 1) (ls' := [(0, .ref 496)]) (st' := [.ref 496]) rfl ?_
          refine T_p xr_67_1 xn_67 (pc' := 2) (ls' := [(0, .ref 496)]) (st' := [.ref 496, .ref 496]) rfl ?_
          refine T_get xr_67_2 h643 rfl (v := .ref 497) rfl (pc' := 5) rfl ?_
          refine T_cv (S := S638) (q := 497) xr_67_5 xf_48.1 xf_48.2.1 xn_48 (as := []) (r := [.ref 496]) rfl h641 (Nat.le_of_ble_eq_true rfl) (Nat.le_of_ble_eq_true rfl) (pc' := 8) rfl (ls' := [(0, .ref 497)]) rfl ?_
          refine T_mono (c_sort sc S638 at_ n (X_av n (X_av n cur)) so pl ct ⟨h641, h644, h645, h646⟩ (by omega)) (fun v675 S676 h674 => ?_)
          obtain ⟨h677, h678⟩ := h674
          rw [h677, h678]
          show X_T sc 67 (8, [(0, .ref 496)], [.int (iI (so (X_av n (X_av n cur)))), .ref 496], S638) _
          have hs679 := hso (X_av n (X_av n cur)) (by omega) (by omega)
          refine T_p xr_67_8 xn_67 (pc' := 9) (ls' := [(0, .ref 496)]) (st' := [.int (iI 1), .int (iI (so (X_av n (X_av n cur)))), .ref 496]) rfl ?_
          refine T_zicmp_ne xr_67_9 (t := 16) (pc' := 12) rfl rfl (fun c680 => ?_) (fun c680 => ?_)
          · skip
            have c680 : ¬ (so (X_av n (X_av n cur))) = 1 := c680
            refine T_p xr_67_16 xn_67 (pc' := 17) (ls' := [(0, .ref 496)]) (st' := [.int (iI 2), .ref 496]) rfl ?_
            refine T_p xr_67_17 xn_67 (pc' := 18) (ls' := [(0, .ref 496)]) (st' := [.ref 496, .int (iI 2), .ref 496]) rfl ?_
            refine T_get xr_67_18 h643 rfl (v := .ref 497) rfl (pc' := 21) rfl ?_
            refine T_cv (S := S638) (q := 497) xr_67_21 xf_49.1 xf_49.2.1 xn_49 (as := []) (r := [.int (iI 2), .ref 496]) rfl h641 (Nat.le_of_ble_eq_true rfl) (Nat.le_of_ble_eq_true rfl) (pc' := 24) rfl (ls' := [(0, .ref 497)]) rfl ?_
            refine T_mono (c_place sc S638 at_ n (X_av n (X_av n cur)) so pl ct ⟨h641, h644, h645, h646⟩ (by omega)) (fun v682 S683 h681 => ?_)
            obtain ⟨h684, h685⟩ := h681
            rw [h684, h685]
            show X_T sc 67 (24, [(0, .ref 496)], [.int (iI (pl (X_av n (X_av n cur)))), .int (iI 2), .ref 496], S638) _
            refine T_cv (S := S638) (q := 496) xr_67_24 xf_66.1 xf_66.2.1 xn_66 (as := [.int (iI 2), .int (iI (pl (X_av n (X_av n cur))))]) (r := []) rfl h643 (Nat.le_of_ble_eq_true rfl) (Nat.le_of_ble_eq_true rfl) (pc' := 27) rfl (ls' := [(0, .ref 496), (1, .int (iI 2)), (2, .int (iI (pl (X_av n (X_av n cur)))))]) rfl ?_
            refine T_p xr_66_0 xn_66 (pc' := 1) (ls' := [(0, .ref 496), (1, .int (iI 2)), (2, .int (iI (pl (X_av n (X_av n cur)))))]) (st' := [.ref 496]) rfl ?_
            refine T_p xr_66_1 xn_66 (pc' := 2) (ls' := [(0, .ref 496), (1, .int (iI 2)), (2, .int (iI (pl (X_av n (X_av n cur)))))]) (st' := [.int (iI 2), .ref 496]) rfl ?_
            refine T_put xr_66_2 h643 rfl (Nat.le_of_ble_eq_true rfl) rfl (fs' := [.ref 497, .ref B, .int (iI 2), .int (iI fp)]) rfl (pc' := 5) rfl (fun S686 h687 n688 e689 => ?_)
            refine T_p xr_66_5 xn_66 (pc' := 6) (ls' := [(0, .ref 496), (1, .int (iI 2)), (2, .int (iI (pl (X_av n (X_av n cur)))))]) (st' := [.ref 496]) rfl ?_
            refine T_p xr_66_6 xn_66 (pc' := 7) (ls' := [(0, .ref 496), (1, .int (iI 2)), (2, .int (iI (pl (X_av n (X_av n cur)))))]) (st' := [.int (iI (pl (X_av n (X_av n cur)))), .ref 496]) rfl ?_
            refine T_put xr_66_7 h687 rfl (Nat.le_of_ble_eq_true rfl) rfl (fs' := [.ref 497, .ref B, .int (iI 2), .int (iI (pl (X_av n (X_av n cur))))]) rfl (pc' := 10) rfl (fun S690 h691 n692 e693 => ?_)
            refine T_vret xr_66_10 xf_66.2.2 ?_
            show X_T sc 67 (27, [(0, .ref 496)], [], S690) _
            refine T_vret xr_67_27 xf_67.2.2 ?_
            show X_T sc 68 (15, [(0, .ref 496), (1, .int (iI 59))], [], S690) _
            refine T_p xr_68_15 xn_68 (pc' := 16) (ls' := [(0, .ref 496), (1, .int (iI 59))]) (st' := [.int (iI 0)]) rfl ?_
            refine T_iret xr_68_16 xf_68.2.2 (by decide) ?_
            show X_T sc 69 (102, [(0, .ref 496)], [.int (iI 0)], S690) _
            refine T_p xr_69_102 xn_69 (pc' := 103) (ls' := [(0, .ref 496)]) (st' := []) rfl ?_
            refine T_vret xr_69_103 xf_69.2.2 ?_
            refine hQ _ _ ?_
            have h694 := (n692 B (by omega)).trans ((n688 B (by omega)).trans ((h640.1 B (by omega)).trans (hb629.1)))
            have hs695 : C_ws S690 B D W := C_ws.fr (P := fun r => ¬ (B + 6 ≤ r ∧ r < B + 246)) hs ((((((X_Fr.rf).tr (X_Fr.mono ⟨h585.1, h585.2⟩ (fun q hq => (by omega)))).tr (X_Fr.mono ⟨h630.1, h630.2⟩ (fun q hq => (by omega)))).tr (X_Fr.mono ⟨h640.1, h640.2⟩ (fun q hq => (by omega)))).tr (X_Fr.of n688 e689 (by omega))).tr (X_Fr.of n692 e693 (by omega))) (fun k h1 h2 => by omega)
            have h696 := (n692 497 (by decide)).trans ((n688 497 (by decide)).trans (h641))
            have h697 := (n692 (B + 1) (by omega)).trans ((n688 (B + 1) (by omega)).trans ((h640.1 (B + 1) (by omega)).trans (hb629.2.1)))
            have h698 := (n692 (B + 2) (by omega)).trans ((n688 (B + 2) (by omega)).trans ((h640.1 (B + 2) (by omega)).trans (hb629.2.2.1)))
            have h699 := (n692 (B + 3) (by omega)).trans ((n688 (B + 3) (by omega)).trans ((h640.1 (B + 3) (by omega)).trans (hb629.2.2.2.1)))
            have h700 := (n692 (B + 4) (by omega)).trans ((n688 (B + 4) (by omega)).trans ((h640.1 (B + 4) (by omega)).trans (hb629.2.2.2.2.1)))
            have h703 := (n692 (B + 5) (by omega)).trans ((n688 (B + 5) (by omega)).trans ((h640.1 (B + 5) (by omega)).trans ((h630.1 (B + 5) (by omega)).trans (h616))))
            have h704 := (n692 498 (by decide)).trans ((n688 498 (by decide)).trans (h644))
            have h705 := (n692 499 (by decide)).trans ((n688 499 (by decide)).trans (h645))
            have h706 := (n692 500 (by decide)).trans ((n688 500 (by decide)).trans (h646))
            have hb701 : C_bk S690 B (rc + 1) kc wc (X_ug rn rc (ct (X_av n cur))) (X_ug lo rc 0) kn ab := ⟨h694, h697, h698, h699, h700, ⟨f, h703, hf⟩, ⟨by omega, by omega⟩, ⟨by omega, by omega⟩, ⟨by omega, by omega⟩⟩
            have hc702 : 0 ≤ (X_av n (X_av n cur)) ∧ (X_av n (X_av n cur)) < n := by omega
            refine Or.inr ⟨?_, 2, pl (X_av n (X_av n cur)), (X_av n (X_av n cur), rc + 1, kc, wc, (X_ug rn rc (ct (X_av n cur))), (X_ug lo rc 0), kn, ab, D, W), by omega, ⟨h691, ⟨h696, h704, h705, h706⟩, hb701, hs695, hc702⟩, (((((X_Fr.rf).tr (X_Fr.mono ⟨h585.1, h585.2⟩ (fun q hq => (by omega)))).tr (X_Fr.mono ⟨h630.1, h630.2⟩ (fun q hq => (by omega)))).tr (X_Fr.mono ⟨h640.1, h640.2⟩ (fun q hq => (by omega)))).tr (X_Fr.of n688 e689 (by omega))).tr (X_Fr.of n692 e693 (by omega))⟩
            simp only [sp_rank]
            (repeat' split) <;> first | rfl | (exfalso; omega) | contradiction
          · skip
            have c680 : ¬ (¬ (so (X_av n (X_av n cur))) = 1) := c680
            refine T_p xr_67_12 xn_67 (pc' := 13) (ls' := [(0, .ref 496)]) (st' := [.int (iI 1), .ref 496]) rfl ?_
            refine T_p xr_67_13 xn_67 (pc' := 17) (ls' := [(0, .ref 496)]) (st' := [.int (iI 1), .ref 496]) rfl ?_
            refine T_p xr_67_17 xn_67 (pc' := 18) (ls' := [(0, .ref 496)]) (st' := [.ref 496, .int (iI 1), .ref 496]) rfl ?_
            refine T_get xr_67_18 h643 rfl (v := .ref 497) rfl (pc' := 21) rfl ?_
            refine T_cv (S := S638) (q := 497) xr_67_21 xf_49.1 xf_49.2.1 xn_49 (as := []) (r := [.int (iI 1), .ref 496]) rfl h641 (Nat.le_of_ble_eq_true rfl) (Nat.le_of_ble_eq_true rfl) (pc' := 24) rfl (ls' := [(0, .ref 497)]) rfl ?_
            refine T_mono (c_place sc S638 at_ n (X_av n (X_av n cur)) so pl ct ⟨h641, h644, h645, h646⟩ (by omega)) (fun v708 S709 h707 => ?_)
            obtain ⟨h710, h711⟩ := h707
            rw [h710, h711]
            show X_T sc 67 (24, [(0, .ref 496)], [.int (iI (pl (X_av n (X_av n cur)))), .int (iI 1), .ref 496], S638) _
            refine T_cv (S := S638) (q := 496) xr_67_24 xf_66.1 xf_66.2.1 xn_66 (as := [.int (iI 1), .int (iI (pl (X_av n (X_av n cur))))]) (r := []) rfl h643 (Nat.le_of_ble_eq_true rfl) (Nat.le_of_ble_eq_true rfl) (pc' := 27) rfl (ls' := [(0, .ref 496), (1, .int (iI 1)), (2, .int (iI (pl (X_av n (X_av n cur)))))]) rfl ?_
            refine T_p xr_66_0 xn_66 (pc' := 1) (ls' := [(0, .ref 496), (1, .int (iI 1)), (2, .int (iI (pl (X_av n (X_av n cur)))))]) (st' := [.ref 496]) rfl ?_
            refine T_p xr_66_1 xn_66 (pc' := 2) (ls' := [(0, .ref 496), (1, .int (iI 1)), (2, .int (iI (pl (X_av n (X_av n cur)))))]) (st' := [.int (iI 1), .ref 496]) rfl ?_
            refine T_put xr_66_2 h643 rfl (Nat.le_of_ble_eq_true rfl) rfl (fs' := [.ref 497, .ref B, .int (iI 1), .int (iI fp)]) rfl (pc' := 5) rfl (fun S712 h713 n714 e715 => ?_)
            refine T_p xr_66_5 xn_66 (pc' := 6) (ls' := [(0, .ref 496), (1, .int (iI 1)), (2, .int (iI (pl (X_av n (X_av n cur)))))]) (st' := [.ref 496]) rfl ?_
            refine T_p xr_66_6 xn_66 (pc' := 7) (ls' := [(0, .ref 496), (1, .int (iI 1)), (2, .int (iI (pl (X_av n (X_av n cur)))))]) (st' := [.int (iI (pl (X_av n (X_av n cur)))), .ref 496]) rfl ?_
            refine T_put xr_66_7 h713 rfl (Nat.le_of_ble_eq_true rfl) rfl (fs' := [.ref 497, .ref B, .int (iI 1), .int (iI (pl (X_av n (X_av n cur))))]) rfl (pc' := 10) rfl (fun S716 h717 n718 e719 => ?_)
            refine T_vret xr_66_10 xf_66.2.2 ?_
            show X_T sc 67 (27, [(0, .ref 496)], [], S716) _
            refine T_vret xr_67_27 xf_67.2.2 ?_
            show X_T sc 68 (15, [(0, .ref 496), (1, .int (iI 59))], [], S716) _
            refine T_p xr_68_15 xn_68 (pc' := 16) (ls' := [(0, .ref 496), (1, .int (iI 59))]) (st' := [.int (iI 0)]) rfl ?_
            refine T_iret xr_68_16 xf_68.2.2 (by decide) ?_
            show X_T sc 69 (102, [(0, .ref 496)], [.int (iI 0)], S716) _
            refine T_p xr_69_102 xn_69 (pc' := 103) (ls' := [(0, .ref 496)]) (st' := []) rfl ?_
            refine T_vret xr_69_103 xf_69.2.2 ?_
            refine hQ _ _ ?_
            have h720 := (n718 B (by omega)).trans ((n714 B (by omega)).trans ((h640.1 B (by omega)).trans (hb629.1)))
            have hs721 : C_ws S716 B D W := C_ws.fr (P := fun r => ¬ (B + 6 ≤ r ∧ r < B + 246)) hs ((((((X_Fr.rf).tr (X_Fr.mono ⟨h585.1, h585.2⟩ (fun q hq => (by omega)))).tr (X_Fr.mono ⟨h630.1, h630.2⟩ (fun q hq => (by omega)))).tr (X_Fr.mono ⟨h640.1, h640.2⟩ (fun q hq => (by omega)))).tr (X_Fr.of n714 e715 (by omega))).tr (X_Fr.of n718 e719 (by omega))) (fun k h1 h2 => by omega)
            have h722 := (n718 497 (by decide)).trans ((n714 497 (by decide)).trans (h641))
            have h723 := (n718 (B + 1) (by omega)).trans ((n714 (B + 1) (by omega)).trans ((h640.1 (B + 1) (by omega)).trans (hb629.2.1)))
            have h724 := (n718 (B + 2) (by omega)).trans ((n714 (B + 2) (by omega)).trans ((h640.1 (B + 2) (by omega)).trans (hb629.2.2.1)))
            have h725 := (n718 (B + 3) (by omega)).trans ((n714 (B + 3) (by omega)).trans ((h640.1 (B + 3) (by omega)).trans (hb629.2.2.2.1)))
            have h726 := (n718 (B + 4) (by omega)).trans ((n714 (B + 4) (by omega)).trans ((h640.1 (B + 4) (by omega)).trans (hb629.2.2.2.2.1)))
            have h729 := (n718 (B + 5) (by omega)).trans ((n714 (B + 5) (by omega)).trans ((h640.1 (B + 5) (by omega)).trans ((h630.1 (B + 5) (by omega)).trans (h616))))
            have h730 := (n718 498 (by decide)).trans ((n714 498 (by decide)).trans (h644))
            have h731 := (n718 499 (by decide)).trans ((n714 499 (by decide)).trans (h645))
            have h732 := (n718 500 (by decide)).trans ((n714 500 (by decide)).trans (h646))
            have hb727 : C_bk S716 B (rc + 1) kc wc (X_ug rn rc (ct (X_av n cur))) (X_ug lo rc 0) kn ab := ⟨h720, h723, h724, h725, h726, ⟨f, h729, hf⟩, ⟨by omega, by omega⟩, ⟨by omega, by omega⟩, ⟨by omega, by omega⟩⟩
            have hc728 : 0 ≤ (X_av n (X_av n cur)) ∧ (X_av n (X_av n cur)) < n := by omega
            refine Or.inr ⟨?_, 1, pl (X_av n (X_av n cur)), (X_av n (X_av n cur), rc + 1, kc, wc, (X_ug rn rc (ct (X_av n cur))), (X_ug lo rc 0), kn, ab, D, W), by omega, ⟨h717, ⟨h722, h730, h731, h732⟩, hb727, hs721, hc728⟩, (((((X_Fr.rf).tr (X_Fr.mono ⟨h585.1, h585.2⟩ (fun q hq => (by omega)))).tr (X_Fr.mono ⟨h630.1, h630.2⟩ (fun q hq => (by omega)))).tr (X_Fr.mono ⟨h640.1, h640.2⟩ (fun q hq => (by omega)))).tr (X_Fr.of n714 e715 (by omega))).tr (X_Fr.of n718 e719 (by omega))⟩
            simp only [sp_rank]
            (repeat' split) <;> first | rfl | (exfalso; omega) | contradiction
      · skip
        have c619 : ¬ (r608 = (-1)) := c619
        refine T_p xr_69_60 xn_69 (pc' := 61) (ls' := [(0, .ref 496)]) (st' := [.ref 496]) rfl ?_
        refine T_p xr_69_61 xn_69 (pc' := 62) (ls' := [(0, .ref 496)]) (st' := [.int (iI 3), .ref 496]) rfl ?_
        refine T_p xr_69_62 xn_69 (pc' := 63) (ls' := [(0, .ref 496)]) (st' := [.ref 496, .int (iI 3), .ref 496]) rfl ?_
        refine T_get xr_69_63 h588 rfl (v := .ref 497) rfl (pc' := 66) rfl ?_
        refine T_cv (S := S583) (q := 497) xr_69_66 xf_49.1 xf_49.2.1 xn_49 (as := []) (r := [.int (iI 3), .ref 496]) rfl h586 (Nat.le_of_ble_eq_true rfl) (Nat.le_of_ble_eq_true rfl) (pc' := 69) rfl (ls' := [(0, .ref 497)]) rfl ?_
        refine T_mono (c_place sc S583 at_ n (X_av n cur) so pl ct ⟨h586, h589, h590, h591⟩ (by omega)) (fun v734 S735 h733 => ?_)
        obtain ⟨h736, h737⟩ := h733
        rw [h736, h737]
        show X_T sc 69 (69, [(0, .ref 496)], [.int (iI (pl (X_av n cur))), .int (iI 3), .ref 496], S583) _
        refine T_cv (S := S583) (q := 496) xr_69_69 xf_66.1 xf_66.2.1 xn_66 (as := [.int (iI 3), .int (iI (pl (X_av n cur)))]) (r := []) rfl h588 (Nat.le_of_ble_eq_true rfl) (Nat.le_of_ble_eq_true rfl) (pc' := 72) rfl (ls' := [(0, .ref 496), (1, .int (iI 3)), (2, .int (iI (pl (X_av n cur))))]) rfl ?_
        refine T_p xr_66_0 xn_66 (pc' := 1) (ls' := [(0, .ref 496), (1, .int (iI 3)), (2, .int (iI (pl (X_av n cur))))]) (st' := [.ref 496]) rfl ?_
        refine T_p xr_66_1 xn_66 (pc' := 2) (ls' := [(0, .ref 496), (1, .int (iI 3)), (2, .int (iI (pl (X_av n cur))))]) (st' := [.int (iI 3), .ref 496]) rfl ?_
        refine T_put xr_66_2 h588 rfl (Nat.le_of_ble_eq_true rfl) rfl (fs' := [.ref 497, .ref B, .int (iI 3), .int (iI fp)]) rfl (pc' := 5) rfl (fun S738 h739 n740 e741 => ?_)
        refine T_p xr_66_5 xn_66 (pc' := 6) (ls' := [(0, .ref 496), (1, .int (iI 3)), (2, .int (iI (pl (X_av n cur))))]) (st' := [.ref 496]) rfl ?_
        refine T_p xr_66_6 xn_66 (pc' := 7) (ls' := [(0, .ref 496), (1, .int (iI 3)), (2, .int (iI (pl (X_av n cur))))]) (st' := [.int (iI (pl (X_av n cur))), .ref 496]) rfl ?_
        refine T_put xr_66_7 h739 rfl (Nat.le_of_ble_eq_true rfl) rfl (fs' := [.ref 497, .ref B, .int (iI 3), .int (iI (pl (X_av n cur)))]) rfl (pc' := 10) rfl (fun S742 h743 n744 e745 => ?_)
        refine T_vret xr_66_10 xf_66.2.2 ?_
        show X_T sc 69 (72, [(0, .ref 496)], [], S742) _
        refine T_p xr_69_72 xn_69 (pc' := 103) (ls' := [(0, .ref 496)]) (st' := []) rfl ?_
        refine T_vret xr_69_103 xf_69.2.2 ?_
        refine hQ _ _ ?_
        have h746 := (n744 B (by omega)).trans ((n740 B (by omega)).trans (h604))
        have hs747 : C_ws S742 B D W := C_ws.fr (P := fun r => ¬ (B + 6 ≤ r ∧ r < B + 246)) hs ((((X_Fr.rf).tr (X_Fr.mono ⟨h585.1, h585.2⟩ (fun q hq => (by omega)))).tr (X_Fr.of n740 e741 (by omega))).tr (X_Fr.of n744 e745 (by omega))) (fun k h1 h2 => by omega)
        have h748 := (n744 497 (by decide)).trans ((n740 497 (by decide)).trans (h586))
        have h749 := (n744 (B + 1) (by omega)).trans ((n740 (B + 1) (by omega)).trans (h612))
        have h750 := (n744 (B + 2) (by omega)).trans ((n740 (B + 2) (by omega)).trans (h613))
        have h751 := (n744 (B + 3) (by omega)).trans ((n740 (B + 3) (by omega)).trans (h614))
        have h752 := (n744 (B + 4) (by omega)).trans ((n740 (B + 4) (by omega)).trans (h615))
        have h755 := (n744 (B + 5) (by omega)).trans ((n740 (B + 5) (by omega)).trans (h616))
        have h756 := (n744 498 (by decide)).trans ((n740 498 (by decide)).trans (h589))
        have h757 := (n744 499 (by decide)).trans ((n740 499 (by decide)).trans (h590))
        have h758 := (n744 500 (by decide)).trans ((n740 500 (by decide)).trans (h591))
        have hb753 : C_bk S742 B rc kc wc rn lo kn ab := ⟨h746, h749, h750, h751, h752, ⟨f, h755, hf⟩, ⟨by omega, by omega⟩, ⟨by omega, by omega⟩, ⟨by omega, by omega⟩⟩
        have hc754 : 0 ≤ (X_av n cur) ∧ (X_av n cur) < n := by omega
        refine Or.inr ⟨?_, 3, pl (X_av n cur), (X_av n cur, rc, kc, wc, rn, lo, kn, ab, D, W), by omega, ⟨h743, ⟨h748, h756, h757, h758⟩, hb753, hs747, hc754⟩, (((X_Fr.rf).tr (X_Fr.mono ⟨h585.1, h585.2⟩ (fun q hq => (by omega)))).tr (X_Fr.of n740 e741 (by omega))).tr (X_Fr.of n744 e745 (by omega))⟩
        simp only [sp_rank]
        (repeat' split) <;> first | rfl | (exfalso; omega) | contradiction
    · skip
      have c598 : ¬ ((so (X_av n cur)) = 2) := c598
      refine T_p xr_69_35 xn_69 (pc' := 36) (ls' := [(0, .ref 496)]) (st' := [.ref 496]) rfl ?_
      refine T_cv (S := S583) (q := 496) xr_69_36 xf_67.1 xf_67.2.1 xn_67 (as := []) (r := []) rfl h588 (Nat.le_of_ble_eq_true rfl) (Nat.le_of_ble_eq_true rfl) (pc' := 39) rfl (ls' := [(0, .ref 496)]) rfl ?_
      refine T_p xr_67_0 xn_67 (pc' := 1) (ls' := [(0, .ref 496)]) (st' := [.ref 496]) rfl ?_
      refine T_p xr_67_1 xn_67 (pc' := 2) (ls' := [(0, .ref 496)]) (st' := [.ref 496, .ref 496]) rfl ?_
      refine T_get xr_67_2 h588 rfl (v := .ref 497) rfl (pc' := 5) rfl ?_
      refine T_cv (S := S583) (q := 497) xr_67_5 xf_48.1 xf_48.2.1 xn_48 (as := []) (r := [.ref 496]) rfl h586 (Nat.le_of_ble_eq_true rfl) (Nat.le_of_ble_eq_true rfl) (pc' := 8) rfl (ls' := [(0, .ref 497)]) rfl ?_
      refine T_mono (c_sort sc S583 at_ n (X_av n cur) so pl ct ⟨h586, h589, h590, h591⟩ (by omega)) (fun v760 S761 h759 => ?_)
      obtain ⟨h762, h763⟩ := h759
      rw [h762, h763]
      show X_T sc 67 (8, [(0, .ref 496)], [.int (iI (so (X_av n cur))), .ref 496], S583) _
      have hs764 := hso (X_av n cur) (by omega) (by omega)
      refine T_p xr_67_8 xn_67 (pc' := 9) (ls' := [(0, .ref 496)]) (st' := [.int (iI 1), .int (iI (so (X_av n cur))), .ref 496]) rfl ?_
      refine T_zicmp_ne xr_67_9 (t := 16) (pc' := 12) rfl rfl (fun c765 => ?_) (fun c765 => ?_)
      · skip
        have c765 : ¬ (so (X_av n cur)) = 1 := c765
        refine T_p xr_67_16 xn_67 (pc' := 17) (ls' := [(0, .ref 496)]) (st' := [.int (iI 2), .ref 496]) rfl ?_
        refine T_p xr_67_17 xn_67 (pc' := 18) (ls' := [(0, .ref 496)]) (st' := [.ref 496, .int (iI 2), .ref 496]) rfl ?_
        refine T_get xr_67_18 h588 rfl (v := .ref 497) rfl (pc' := 21) rfl ?_
        refine T_cv (S := S583) (q := 497) xr_67_21 xf_49.1 xf_49.2.1 xn_49 (as := []) (r := [.int (iI 2), .ref 496]) rfl h586 (Nat.le_of_ble_eq_true rfl) (Nat.le_of_ble_eq_true rfl) (pc' := 24) rfl (ls' := [(0, .ref 497)]) rfl ?_
        refine T_mono (c_place sc S583 at_ n (X_av n cur) so pl ct ⟨h586, h589, h590, h591⟩ (by omega)) (fun v767 S768 h766 => ?_)
        obtain ⟨h769, h770⟩ := h766
        rw [h769, h770]
        show X_T sc 67 (24, [(0, .ref 496)], [.int (iI (pl (X_av n cur))), .int (iI 2), .ref 496], S583) _
        refine T_cv (S := S583) (q := 496) xr_67_24 xf_66.1 xf_66.2.1 xn_66 (as := [.int (iI 2), .int (iI (pl (X_av n cur)))]) (r := []) rfl h588 (Nat.le_of_ble_eq_true rfl) (Nat.le_of_ble_eq_true rfl) (pc' := 27) rfl (ls' := [(0, .ref 496), (1, .int (iI 2)), (2, .int (iI (pl (X_av n cur))))]) rfl ?_
        refine T_p xr_66_0 xn_66 (pc' := 1) (ls' := [(0, .ref 496), (1, .int (iI 2)), (2, .int (iI (pl (X_av n cur))))]) (st' := [.ref 496]) rfl ?_
        refine T_p xr_66_1 xn_66 (pc' := 2) (ls' := [(0, .ref 496), (1, .int (iI 2)), (2, .int (iI (pl (X_av n cur))))]) (st' := [.int (iI 2), .ref 496]) rfl ?_
        refine T_put xr_66_2 h588 rfl (Nat.le_of_ble_eq_true rfl) rfl (fs' := [.ref 497, .ref B, .int (iI 2), .int (iI fp)]) rfl (pc' := 5) rfl (fun S771 h772 n773 e774 => ?_)
        refine T_p xr_66_5 xn_66 (pc' := 6) (ls' := [(0, .ref 496), (1, .int (iI 2)), (2, .int (iI (pl (X_av n cur))))]) (st' := [.ref 496]) rfl ?_
        refine T_p xr_66_6 xn_66 (pc' := 7) (ls' := [(0, .ref 496), (1, .int (iI 2)), (2, .int (iI (pl (X_av n cur))))]) (st' := [.int (iI (pl (X_av n cur))), .ref 496]) rfl ?_
        refine T_put xr_66_7 h772 rfl (Nat.le_of_ble_eq_true rfl) rfl (fs' := [.ref 497, .ref B, .int (iI 2), .int (iI (pl (X_av n cur)))]) rfl (pc' := 10) rfl (fun S775 h776 n777 e778 => ?_)
        refine T_vret xr_66_10 xf_66.2.2 ?_
        show X_T sc 67 (27, [(0, .ref 496)], [], S775) _
        refine T_vret xr_67_27 xf_67.2.2 ?_
        show X_T sc 69 (39, [(0, .ref 496)], [], S775) _
        refine T_p xr_69_39 xn_69 (pc' := 103) (ls' := [(0, .ref 496)]) (st' := []) rfl ?_
        refine T_vret xr_69_103 xf_69.2.2 ?_
        refine hQ _ _ ?_
        have h779 := (n777 B (by omega)).trans ((n773 B (by omega)).trans ((h585.1 B (by omega)).trans (hb0)))
        have hs780 : C_ws S775 B D W := C_ws.fr (P := fun r => ¬ (B + 6 ≤ r ∧ r < B + 246)) hs ((((X_Fr.rf).tr (X_Fr.mono ⟨h585.1, h585.2⟩ (fun q hq => (by omega)))).tr (X_Fr.of n773 e774 (by omega))).tr (X_Fr.of n777 e778 (by omega))) (fun k h1 h2 => by omega)
        have h781 := (n777 497 (by decide)).trans ((n773 497 (by decide)).trans (h586))
        have h782 := (n777 (B + 1) (by omega)).trans ((n773 (B + 1) (by omega)).trans ((h585.1 (B + 1) (by omega)).trans (hb1)))
        have h783 := (n777 (B + 2) (by omega)).trans ((n773 (B + 2) (by omega)).trans ((h585.1 (B + 2) (by omega)).trans (hb2)))
        have h784 := (n777 (B + 3) (by omega)).trans ((n773 (B + 3) (by omega)).trans ((h585.1 (B + 3) (by omega)).trans (hb3)))
        have h785 := (n777 (B + 4) (by omega)).trans ((n773 (B + 4) (by omega)).trans ((h585.1 (B + 4) (by omega)).trans (hb4)))
        have h788 := (n777 (B + 5) (by omega)).trans ((n773 (B + 5) (by omega)).trans ((h585.1 (B + 5) (by omega)).trans (hb5)))
        have h789 := (n777 498 (by decide)).trans ((n773 498 (by decide)).trans (h589))
        have h790 := (n777 499 (by decide)).trans ((n773 499 (by decide)).trans (h590))
        have h791 := (n777 500 (by decide)).trans ((n773 500 (by decide)).trans (h591))
        have hb786 : C_bk S775 B rc kc wc rn lo kn ab := ⟨h779, h782, h783, h784, h785, ⟨f, h788, hf⟩, ⟨by omega, by omega⟩, ⟨by omega, by omega⟩, ⟨by omega, by omega⟩⟩
        have hc787 : 0 ≤ (X_av n cur) ∧ (X_av n cur) < n := by omega
        refine Or.inr ⟨?_, 2, pl (X_av n cur), (X_av n cur, rc, kc, wc, rn, lo, kn, ab, D, W), by omega, ⟨h776, ⟨h781, h789, h790, h791⟩, hb786, hs780, hc787⟩, (((X_Fr.rf).tr (X_Fr.mono ⟨h585.1, h585.2⟩ (fun q hq => (by omega)))).tr (X_Fr.of n773 e774 (by omega))).tr (X_Fr.of n777 e778 (by omega))⟩
        simp only [sp_rank]
        (repeat' split) <;> first | rfl | (exfalso; omega) | contradiction
      · skip
        have c765 : ¬ (¬ (so (X_av n cur)) = 1) := c765
        refine T_p xr_67_12 xn_67 (pc' := 13) (ls' := [(0, .ref 496)]) (st' := [.int (iI 1), .ref 496]) rfl ?_
        refine T_p xr_67_13 xn_67 (pc' := 17) (ls' := [(0, .ref 496)]) (st' := [.int (iI 1), .ref 496]) rfl ?_
        refine T_p xr_67_17 xn_67 (pc' := 18) (ls' := [(0, .ref 496)]) (st' := [.ref 496, .int (iI 1), .ref 496]) rfl ?_
        refine T_get xr_67_18 h588 rfl (v := .ref 497) rfl (pc' := 21) rfl ?_
        refine T_cv (S := S583) (q := 497) xr_67_21 xf_49.1 xf_49.2.1 xn_49 (as := []) (r := [.int (iI 1), .ref 496]) rfl h586 (Nat.le_of_ble_eq_true rfl) (Nat.le_of_ble_eq_true rfl) (pc' := 24) rfl (ls' := [(0, .ref 497)]) rfl ?_
        refine T_mono (c_place sc S583 at_ n (X_av n cur) so pl ct ⟨h586, h589, h590, h591⟩ (by omega)) (fun v793 S794 h792 => ?_)
        obtain ⟨h795, h796⟩ := h792
        rw [h795, h796]
        show X_T sc 67 (24, [(0, .ref 496)], [.int (iI (pl (X_av n cur))), .int (iI 1), .ref 496], S583) _
        refine T_cv (S := S583) (q := 496) xr_67_24 xf_66.1 xf_66.2.1 xn_66 (as := [.int (iI 1), .int (iI (pl (X_av n cur)))]) (r := []) rfl h588 (Nat.le_of_ble_eq_true rfl) (Nat.le_of_ble_eq_true rfl) (pc' := 27) rfl (ls' := [(0, .ref 496), (1, .int (iI 1)), (2, .int (iI (pl (X_av n cur))))]) rfl ?_
        refine T_p xr_66_0 xn_66 (pc' := 1) (ls' := [(0, .ref 496), (1, .int (iI 1)), (2, .int (iI (pl (X_av n cur))))]) (st' := [.ref 496]) rfl ?_
        refine T_p xr_66_1 xn_66 (pc' := 2) (ls' := [(0, .ref 496), (1, .int (iI 1)), (2, .int (iI (pl (X_av n cur))))]) (st' := [.int (iI 1), .ref 496]) rfl ?_
        refine T_put xr_66_2 h588 rfl (Nat.le_of_ble_eq_true rfl) rfl (fs' := [.ref 497, .ref B, .int (iI 1), .int (iI fp)]) rfl (pc' := 5) rfl (fun S797 h798 n799 e800 => ?_)
        refine T_p xr_66_5 xn_66 (pc' := 6) (ls' := [(0, .ref 496), (1, .int (iI 1)), (2, .int (iI (pl (X_av n cur))))]) (st' := [.ref 496]) rfl ?_
        refine T_p xr_66_6 xn_66 (pc' := 7) (ls' := [(0, .ref 496), (1, .int (iI 1)), (2, .int (iI (pl (X_av n cur))))]) (st' := [.int (iI (pl (X_av n cur))), .ref 496]) rfl ?_
        refine T_put xr_66_7 h798 rfl (Nat.le_of_ble_eq_true rfl) rfl (fs' := [.ref 497, .ref B, .int (iI 1), .int (iI (pl (X_av n cur)))]) rfl (pc' := 10) rfl (fun S801 h802 n803 e804 => ?_)
        refine T_vret xr_66_10 xf_66.2.2 ?_
        show X_T sc 67 (27, [(0, .ref 496)], [], S801) _
        refine T_vret xr_67_27 xf_67.2.2 ?_
        show X_T sc 69 (39, [(0, .ref 496)], [], S801) _
        refine T_p xr_69_39 xn_69 (pc' := 103) (ls' := [(0, .ref 496)]) (st' := []) rfl ?_
        refine T_vret xr_69_103 xf_69.2.2 ?_
        refine hQ _ _ ?_
        have h805 := (n803 B (by omega)).trans ((n799 B (by omega)).trans ((h585.1 B (by omega)).trans (hb0)))
        have hs806 : C_ws S801 B D W := C_ws.fr (P := fun r => ¬ (B + 6 ≤ r ∧ r < B + 246)) hs ((((X_Fr.rf).tr (X_Fr.mono ⟨h585.1, h585.2⟩ (fun q hq => (by omega)))).tr (X_Fr.of n799 e800 (by omega))).tr (X_Fr.of n803 e804 (by omega))) (fun k h1 h2 => by omega)
        have h807 := (n803 497 (by decide)).trans ((n799 497 (by decide)).trans (h586))
        have h808 := (n803 (B + 1) (by omega)).trans ((n799 (B + 1) (by omega)).trans ((h585.1 (B + 1) (by omega)).trans (hb1)))
        have h809 := (n803 (B + 2) (by omega)).trans ((n799 (B + 2) (by omega)).trans ((h585.1 (B + 2) (by omega)).trans (hb2)))
        have h810 := (n803 (B + 3) (by omega)).trans ((n799 (B + 3) (by omega)).trans ((h585.1 (B + 3) (by omega)).trans (hb3)))
        have h811 := (n803 (B + 4) (by omega)).trans ((n799 (B + 4) (by omega)).trans ((h585.1 (B + 4) (by omega)).trans (hb4)))
        have h814 := (n803 (B + 5) (by omega)).trans ((n799 (B + 5) (by omega)).trans ((h585.1 (B + 5) (by omega)).trans (hb5)))
        have h815 := (n803 498 (by decide)).trans ((n799 498 (by decide)).trans (h589))
        have h816 := (n803 499 (by decide)).trans ((n799 499 (by decide)).trans (h590))
        have h817 := (n803 500 (by decide)).trans ((n799 500 (by decide)).trans (h591))
        have hb812 : C_bk S801 B rc kc wc rn lo kn ab := ⟨h805, h808, h809, h810, h811, ⟨f, h814, hf⟩, ⟨by omega, by omega⟩, ⟨by omega, by omega⟩, ⟨by omega, by omega⟩⟩
        have hc813 : 0 ≤ (X_av n cur) ∧ (X_av n cur) < n := by omega
        refine Or.inr ⟨?_, 1, pl (X_av n cur), (X_av n cur, rc, kc, wc, rn, lo, kn, ab, D, W), by omega, ⟨h802, ⟨h807, h815, h816, h817⟩, hb812, hs806, hc813⟩, (((X_Fr.rf).tr (X_Fr.mono ⟨h585.1, h585.2⟩ (fun q hq => (by omega)))).tr (X_Fr.of n799 e800 (by omega))).tr (X_Fr.of n803 e804 (by omega))⟩
        simp only [sp_rank]
        (repeat' split) <;> first | rfl | (exfalso; omega) | contradiction
  · skip
    have c580 : ¬ (¬ rc = 12) := c580
    refine T_p xr_69_12 xn_69 (pc' := 13) (ls' := [(0, .ref 496)]) (st' := [.ref 496]) rfl ?_
    refine T_cv (S := S) (q := 496) xr_69_13 xf_67.1 xf_67.2.1 xn_67 (as := []) (r := []) rfl hp (Nat.le_of_ble_eq_true rfl) (Nat.le_of_ble_eq_true rfl) (pc' := 16) rfl (ls' := [(0, .ref 496)]) rfl ?_
    refine T_p xr_67_0 xn_67 (pc' := 1) (ls' := [(0, .ref 496)]) (st' := [.ref 496]) rfl ?_
    refine T_p xr_67_1 xn_67 (pc' := 2) (ls' := [(0, .ref 496)]) (st' := [.ref 496, .ref 496]) rfl ?_
    refine T_get xr_67_2 hp rfl (v := .ref 497) rfl (pc' := 5) rfl ?_
    refine T_cv (S := S) (q := 497) xr_67_5 xf_48.1 xf_48.2.1 xn_48 (as := []) (r := [.ref 496]) rfl hx.1 (Nat.le_of_ble_eq_true rfl) (Nat.le_of_ble_eq_true rfl) (pc' := 8) rfl (ls' := [(0, .ref 497)]) rfl ?_
    refine T_mono (c_sort sc S at_ n cur so pl ct ⟨hx.1, hx.2.1, hx.2.2.1, hx.2.2.2⟩ (by omega)) (fun v819 S820 h818 => ?_)
    obtain ⟨h821, h822⟩ := h818
    rw [h821, h822]
    show X_T sc 67 (8, [(0, .ref 496)], [.int (iI (so cur)), .ref 496], S) _
    have hs823 := hso cur (by omega) (by omega)
    refine T_p xr_67_8 xn_67 (pc' := 9) (ls' := [(0, .ref 496)]) (st' := [.int (iI 1), .int (iI (so cur)), .ref 496]) rfl ?_
    refine T_zicmp_ne xr_67_9 (t := 16) (pc' := 12) rfl rfl (fun c824 => ?_) (fun c824 => ?_)
    · skip
      have c824 : ¬ (so cur) = 1 := c824
      refine T_p xr_67_16 xn_67 (pc' := 17) (ls' := [(0, .ref 496)]) (st' := [.int (iI 2), .ref 496]) rfl ?_
      refine T_p xr_67_17 xn_67 (pc' := 18) (ls' := [(0, .ref 496)]) (st' := [.ref 496, .int (iI 2), .ref 496]) rfl ?_
      refine T_get xr_67_18 hp rfl (v := .ref 497) rfl (pc' := 21) rfl ?_
      refine T_cv (S := S) (q := 497) xr_67_21 xf_49.1 xf_49.2.1 xn_49 (as := []) (r := [.int (iI 2), .ref 496]) rfl hx.1 (Nat.le_of_ble_eq_true rfl) (Nat.le_of_ble_eq_true rfl) (pc' := 24) rfl (ls' := [(0, .ref 497)]) rfl ?_
      refine T_mono (c_place sc S at_ n cur so pl ct ⟨hx.1, hx.2.1, hx.2.2.1, hx.2.2.2⟩ (by omega)) (fun v826 S827 h825 => ?_)
      obtain ⟨h828, h829⟩ := h825
      rw [h828, h829]
      show X_T sc 67 (24, [(0, .ref 496)], [.int (iI (pl cur)), .int (iI 2), .ref 496], S) _
      refine T_cv (S := S) (q := 496) xr_67_24 xf_66.1 xf_66.2.1 xn_66 (as := [.int (iI 2), .int (iI (pl cur))]) (r := []) rfl hp (Nat.le_of_ble_eq_true rfl) (Nat.le_of_ble_eq_true rfl) (pc' := 27) rfl (ls' := [(0, .ref 496), (1, .int (iI 2)), (2, .int (iI (pl cur)))]) rfl ?_
      refine T_p xr_66_0 xn_66 (pc' := 1) (ls' := [(0, .ref 496), (1, .int (iI 2)), (2, .int (iI (pl cur)))]) (st' := [.ref 496]) rfl ?_
      refine T_p xr_66_1 xn_66 (pc' := 2) (ls' := [(0, .ref 496), (1, .int (iI 2)), (2, .int (iI (pl cur)))]) (st' := [.int (iI 2), .ref 496]) rfl ?_
      refine T_put xr_66_2 hp rfl (Nat.le_of_ble_eq_true rfl) rfl (fs' := [.ref 497, .ref B, .int (iI 2), .int (iI fp)]) rfl (pc' := 5) rfl (fun S830 h831 n832 e833 => ?_)
      refine T_p xr_66_5 xn_66 (pc' := 6) (ls' := [(0, .ref 496), (1, .int (iI 2)), (2, .int (iI (pl cur)))]) (st' := [.ref 496]) rfl ?_
      refine T_p xr_66_6 xn_66 (pc' := 7) (ls' := [(0, .ref 496), (1, .int (iI 2)), (2, .int (iI (pl cur)))]) (st' := [.int (iI (pl cur)), .ref 496]) rfl ?_
      refine T_put xr_66_7 h831 rfl (Nat.le_of_ble_eq_true rfl) rfl (fs' := [.ref 497, .ref B, .int (iI 2), .int (iI (pl cur))]) rfl (pc' := 10) rfl (fun S834 h835 n836 e837 => ?_)
      refine T_vret xr_66_10 xf_66.2.2 ?_
      show X_T sc 67 (27, [(0, .ref 496)], [], S834) _
      refine T_vret xr_67_27 xf_67.2.2 ?_
      show X_T sc 69 (16, [(0, .ref 496)], [], S834) _
      refine T_vret xr_69_16 xf_69.2.2 ?_
      refine hQ _ _ ?_
      have h838 := (n836 B (by omega)).trans ((n832 B (by omega)).trans (hb0))
      have hs839 : C_ws S834 B D W := C_ws.fr (P := fun r => ¬ (B + 6 ≤ r ∧ r < B + 246)) hs (((X_Fr.rf).tr (X_Fr.of n832 e833 (by omega))).tr (X_Fr.of n836 e837 (by omega))) (fun k h1 h2 => by omega)
      have h840 := (n836 497 (by decide)).trans ((n832 497 (by decide)).trans (hx.1))
      have h841 := (n836 (B + 1) (by omega)).trans ((n832 (B + 1) (by omega)).trans (hb1))
      have h842 := (n836 (B + 2) (by omega)).trans ((n832 (B + 2) (by omega)).trans (hb2))
      have h843 := (n836 (B + 3) (by omega)).trans ((n832 (B + 3) (by omega)).trans (hb3))
      have h844 := (n836 (B + 4) (by omega)).trans ((n832 (B + 4) (by omega)).trans (hb4))
      have h847 := (n836 (B + 5) (by omega)).trans ((n832 (B + 5) (by omega)).trans (hb5))
      have h848 := (n836 498 (by decide)).trans ((n832 498 (by decide)).trans (hx.2.1))
      have h849 := (n836 499 (by decide)).trans ((n832 499 (by decide)).trans (hx.2.2.1))
      have h850 := (n836 500 (by decide)).trans ((n832 500 (by decide)).trans (hx.2.2.2))
      have hb845 : C_bk S834 B rc kc wc rn lo kn ab := ⟨h838, h841, h842, h843, h844, ⟨f, h847, hf⟩, ⟨by omega, by omega⟩, ⟨by omega, by omega⟩, ⟨by omega, by omega⟩⟩
      have hc846 : 0 ≤ cur ∧ cur < n := by omega
      refine Or.inr ⟨?_, 2, pl cur, (cur, rc, kc, wc, rn, lo, kn, ab, D, W), by omega, ⟨h835, ⟨h840, h848, h849, h850⟩, hb845, hs839, hc846⟩, ((X_Fr.rf).tr (X_Fr.of n832 e833 (by omega))).tr (X_Fr.of n836 e837 (by omega))⟩
      simp only [sp_rank]
      (repeat' split) <;> first | rfl | (exfalso; omega) | contradiction
    · skip
      have c824 : ¬ (¬ (so cur) = 1) := c824
      refine T_p xr_67_12 xn_67 (pc' := 13) (ls' := [(0, .ref 496)]) (st' := [.int (iI 1), .ref 496]) rfl ?_
      refine T_p xr_67_13 xn_67 (pc' := 17) (ls' := [(0, .ref 496)]) (st' := [.int (iI 1), .ref 496]) rfl ?_
      refine T_p xr_67_17 xn_67 (pc' := 18) (ls' := [(0, .ref 496)]) (st' := [.ref 496, .int (iI 1), .ref 496]) rfl ?_
      refine T_get xr_67_18 hp rfl (v := .ref 497) rfl (pc' := 21) rfl ?_
      refine T_cv (S := S) (q := 497) xr_67_21 xf_49.1 xf_49.2.1 xn_49 (as := []) (r := [.int (iI 1), .ref 496]) rfl hx.1 (Nat.le_of_ble_eq_true rfl) (Nat.le_of_ble_eq_true rfl) (pc' := 24) rfl (ls' := [(0, .ref 497)]) rfl ?_
      refine T_mono (c_place sc S at_ n cur so pl ct ⟨hx.1, hx.2.1, hx.2.2.1, hx.2.2.2⟩ (by omega)) (fun v852 S853 h851 => ?_)
      obtain ⟨h854, h855⟩ := h851
      rw [h854, h855]
      show X_T sc 67 (24, [(0, .ref 496)], [.int (iI (pl cur)), .int (iI 1), .ref 496], S) _
      refine T_cv (S := S) (q := 496) xr_67_24 xf_66.1 xf_66.2.1 xn_66 (as := [.int (iI 1), .int (iI (pl cur))]) (r := []) rfl hp (Nat.le_of_ble_eq_true rfl) (Nat.le_of_ble_eq_true rfl) (pc' := 27) rfl (ls' := [(0, .ref 496), (1, .int (iI 1)), (2, .int (iI (pl cur)))]) rfl ?_
      refine T_p xr_66_0 xn_66 (pc' := 1) (ls' := [(0, .ref 496), (1, .int (iI 1)), (2, .int (iI (pl cur)))]) (st' := [.ref 496]) rfl ?_
      refine T_p xr_66_1 xn_66 (pc' := 2) (ls' := [(0, .ref 496), (1, .int (iI 1)), (2, .int (iI (pl cur)))]) (st' := [.int (iI 1), .ref 496]) rfl ?_
      refine T_put xr_66_2 hp rfl (Nat.le_of_ble_eq_true rfl) rfl (fs' := [.ref 497, .ref B, .int (iI 1), .int (iI fp)]) rfl (pc' := 5) rfl (fun S856 h857 n858 e859 => ?_)
      refine T_p xr_66_5 xn_66 (pc' := 6) (ls' := [(0, .ref 496), (1, .int (iI 1)), (2, .int (iI (pl cur)))]) (st' := [.ref 496]) rfl ?_
      refine T_p xr_66_6 xn_66 (pc' := 7) (ls' := [(0, .ref 496), (1, .int (iI 1)), (2, .int (iI (pl cur)))]) (st' := [.int (iI (pl cur)), .ref 496]) rfl ?_
      refine T_put xr_66_7 h857 rfl (Nat.le_of_ble_eq_true rfl) rfl (fs' := [.ref 497, .ref B, .int (iI 1), .int (iI (pl cur))]) rfl (pc' := 10) rfl (fun S860 h861 n862 e863 => ?_)
      refine T_vret xr_66_10 xf_66.2.2 ?_
      show X_T sc 67 (27, [(0, .ref 496)], [], S860) _
      refine T_vret xr_67_27 xf_67.2.2 ?_
      show X_T sc 69 (16, [(0, .ref 496)], [], S860) _
      refine T_vret xr_69_16 xf_69.2.2 ?_
      refine hQ _ _ ?_
      have h864 := (n862 B (by omega)).trans ((n858 B (by omega)).trans (hb0))
      have hs865 : C_ws S860 B D W := C_ws.fr (P := fun r => ¬ (B + 6 ≤ r ∧ r < B + 246)) hs (((X_Fr.rf).tr (X_Fr.of n858 e859 (by omega))).tr (X_Fr.of n862 e863 (by omega))) (fun k h1 h2 => by omega)
      have h866 := (n862 497 (by decide)).trans ((n858 497 (by decide)).trans (hx.1))
      have h867 := (n862 (B + 1) (by omega)).trans ((n858 (B + 1) (by omega)).trans (hb1))
      have h868 := (n862 (B + 2) (by omega)).trans ((n858 (B + 2) (by omega)).trans (hb2))
      have h869 := (n862 (B + 3) (by omega)).trans ((n858 (B + 3) (by omega)).trans (hb3))
      have h870 := (n862 (B + 4) (by omega)).trans ((n858 (B + 4) (by omega)).trans (hb4))
      have h873 := (n862 (B + 5) (by omega)).trans ((n858 (B + 5) (by omega)).trans (hb5))
      have h874 := (n862 498 (by decide)).trans ((n858 498 (by decide)).trans (hx.2.1))
      have h875 := (n862 499 (by decide)).trans ((n858 499 (by decide)).trans (hx.2.2.1))
      have h876 := (n862 500 (by decide)).trans ((n858 500 (by decide)).trans (hx.2.2.2))
      have hb871 : C_bk S860 B rc kc wc rn lo kn ab := ⟨h864, h867, h868, h869, h870, ⟨f, h873, hf⟩, ⟨by omega, by omega⟩, ⟨by omega, by omega⟩, ⟨by omega, by omega⟩⟩
      have hc872 : 0 ≤ cur ∧ cur < n := by omega
      refine Or.inr ⟨?_, 1, pl cur, (cur, rc, kc, wc, rn, lo, kn, ab, D, W), by omega, ⟨h861, ⟨h866, h874, h875, h876⟩, hb871, hs865, hc872⟩, ((X_Fr.rf).tr (X_Fr.of n858 e859 (by omega))).tr (X_Fr.of n862 e863 (by omega))⟩
      simp only [sp_rank]
      (repeat' split) <;> first | rfl | (exfalso; omega) | contradiction
