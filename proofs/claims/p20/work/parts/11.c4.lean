theorem xr_1_0 : X_row 1 0 = some (0, (.aload_n 0, 1), (0, 0, 0)) := by decide +kernel
theorem xr_1_1 : X_row 1 1 = some (1, (.iconst 0, 1), (0, 0, 0)) := by decide +kernel
theorem xr_1_2 : X_row 1 2 = some (2, (.putfield 35, 3), (0, 0, 16)) := by decide +kernel
theorem xr_1_5 : X_row 1 5 = some (5, (.aload_n 0, 1), (0, 0, 0)) := by decide +kernel
theorem xr_1_6 : X_row 1 6 = some (6, (.iconst 1, 1), (0, 0, 0)) := by decide +kernel
theorem xr_1_7 : X_row 1 7 = some (7, (.putfield 39, 3), (0, 1, 18)) := by decide +kernel
theorem xr_1_10 : X_row 1 10 = some (10, (.aload_n 0, 1), (0, 0, 0)) := by decide +kernel
theorem xr_1_11 : X_row 1 11 = some (11, (.iconst 0, 1), (0, 0, 0)) := by decide +kernel
theorem xr_1_12 : X_row 1 12 = some (12, (.putfield 42, 3), (0, 2, 20)) := by decide +kernel
theorem xr_1_15 : X_row 1 15 = some (15, (.aload_n 0, 1), (0, 0, 0)) := by decide +kernel
theorem xr_1_16 : X_row 1 16 = some (16, (.getfield 19, 3), (0, 5, 26)) := by decide +kernel
theorem xr_1_19 : X_row 1 19 = some (19, (.iconst 0, 1), (0, 0, 0)) := by decide +kernel
theorem xr_1_20 : X_row 1 20 = some (20, (.ldc2_w 45, 3), (6384748, 168, 0)) := by decide +kernel
theorem xr_1_23 : X_row 1 23 = some (23, (.lastore, 1), (0, 0, 0)) := by decide +kernel
theorem xr_1_24 : X_row 1 24 = some (24, (.aload_n 0, 1), (0, 0, 0)) := by decide +kernel
theorem xr_1_25 : X_row 1 25 = some (25, (.getfield 22, 3), (0, 6, 28)) := by decide +kernel
theorem xr_1_28 : X_row 1 28 = some (28, (.iconst 0, 1), (0, 0, 0)) := by decide +kernel
theorem xr_1_29 : X_row 1 29 = some (29, (.iconst 1, 1), (0, 0, 0)) := by decide +kernel
theorem xr_1_30 : X_row 1 30 = some (30, (.iastore, 1), (0, 0, 0)) := by decide +kernel
theorem xr_1_31 : X_row 1 31 = some (31, (.return_, 1), (0, 0, 0)) := by decide +kernel
theorem xr_2_0 : X_row 2 0 = some (0, (.iload_n 1, 1), (0, 0, 0)) := by decide +kernel
theorem xr_2_1 : X_row 2 1 = some (1, (.ifCond .lt 15, 3), (0, 0, 0)) := by decide +kernel
theorem xr_2_4 : X_row 2 4 = some (4, (.iload_n 1, 1), (0, 0, 0)) := by decide +kernel
theorem xr_2_5 : X_row 2 5 = some (5, (.aload_n 0, 1), (0, 0, 0)) := by decide +kernel
theorem xr_2_6 : X_row 2 6 = some (6, (.getfield 39, 3), (0, 1, 18)) := by decide +kernel
theorem xr_2_9 : X_row 2 9 = some (9, (.if_icmp .ge 7, 3), (0, 0, 0)) := by decide +kernel
theorem xr_2_12 : X_row 2 12 = some (12, (.iconst 1, 1), (0, 0, 0)) := by decide +kernel
theorem xr_2_13 : X_row 2 13 = some (13, (.goto 4, 3), (0, 0, 0)) := by decide +kernel
theorem xr_2_16 : X_row 2 16 = some (16, (.iconst 0, 1), (0, 0, 0)) := by decide +kernel
theorem xr_2_17 : X_row 2 17 = some (17, (.ireturn, 1), (0, 0, 0)) := by decide +kernel
theorem xr_3_0 : X_row 3 0 = some (0, (.iload_n 1, 1), (0, 0, 0)) := by decide +kernel
theorem xr_3_1 : X_row 3 1 = some (1, (.ifCond .lt 15, 3), (0, 0, 0)) := by decide +kernel
theorem xr_3_4 : X_row 3 4 = some (4, (.iload_n 1, 1), (0, 0, 0)) := by decide +kernel
theorem xr_3_5 : X_row 3 5 = some (5, (.aload_n 0, 1), (0, 0, 0)) := by decide +kernel
theorem xr_3_6 : X_row 3 6 = some (6, (.getfield 42, 3), (0, 2, 20)) := by decide +kernel
theorem xr_3_9 : X_row 3 9 = some (9, (.if_icmp .ge 7, 3), (0, 0, 0)) := by decide +kernel
theorem xr_3_12 : X_row 3 12 = some (12, (.iconst 1, 1), (0, 0, 0)) := by decide +kernel
theorem xr_3_13 : X_row 3 13 = some (13, (.goto 4, 3), (0, 0, 0)) := by decide +kernel
theorem xr_3_16 : X_row 3 16 = some (16, (.iconst 0, 1), (0, 0, 0)) := by decide +kernel
theorem xr_3_17 : X_row 3 17 = some (17, (.ireturn, 1), (0, 0, 0)) := by decide +kernel
theorem xr_4_0 : X_row 4 0 = some (0, (.aload_n 0, 1), (0, 0, 0)) := by decide +kernel
theorem xr_4_1 : X_row 4 1 = some (1, (.getfield 9, 3), (0, 3, 22)) := by decide +kernel
theorem xr_4_4 : X_row 4 4 = some (4, (.aload_n 0, 1), (0, 0, 0)) := by decide +kernel
theorem xr_4_5 : X_row 4 5 = some (5, (.getfield 35, 3), (0, 0, 16)) := by decide +kernel
theorem xr_4_8 : X_row 4 8 = some (8, (.lload_n 1, 1), (0, 0, 0)) := by decide +kernel
theorem xr_4_9 : X_row 4 9 = some (9, (.invokestatic 47, 3), (6, 4, 0)) := by decide +kernel
theorem xr_4_12 : X_row 4 12 = some (12, (.ireturn, 1), (0, 0, 0)) := by decide +kernel
theorem xr_5_0 : X_row 5 0 = some (0, (.aload_n 0, 1), (0, 0, 0)) := by decide +kernel
theorem xr_5_1 : X_row 5 1 = some (1, (.getfield 19, 3), (0, 5, 26)) := by decide +kernel
theorem xr_5_4 : X_row 5 4 = some (4, (.aload_n 0, 1), (0, 0, 0)) := by decide +kernel
theorem xr_5_5 : X_row 5 5 = some (5, (.getfield 39, 3), (0, 1, 18)) := by decide +kernel
theorem xr_5_8 : X_row 5 8 = some (8, (.lload_n 1, 1), (0, 0, 0)) := by decide +kernel
theorem xr_5_9 : X_row 5 9 = some (9, (.invokestatic 47, 3), (6, 4, 0)) := by decide +kernel
theorem xr_5_12 : X_row 5 12 = some (12, (.ireturn, 1), (0, 0, 0)) := by decide +kernel
theorem xr_6_0 : X_row 6 0 = some (0, (.iconst 0, 1), (0, 0, 0)) := by decide +kernel
theorem xr_6_1 : X_row 6 1 = some (1, (.istore 4, 2), (0, 0, 0)) := by decide +kernel
theorem xr_6_3 : X_row 6 3 = some (3, (.iload 4, 2), (0, 0, 0)) := by decide +kernel
theorem xr_6_5 : X_row 6 5 = some (5, (.iload_n 1, 1), (0, 0, 0)) := by decide +kernel
theorem xr_6_6 : X_row 6 6 = some (6, (.if_icmp .ge 21, 3), (0, 0, 0)) := by decide +kernel
theorem xr_6_9 : X_row 6 9 = some (9, (.aload_n 0, 1), (0, 0, 0)) := by decide +kernel
theorem xr_6_10 : X_row 6 10 = some (10, (.iload 4, 2), (0, 0, 0)) := by decide +kernel
theorem xr_6_12 : X_row 6 12 = some (12, (.laload, 1), (0, 0, 0)) := by decide +kernel
theorem xr_6_13 : X_row 6 13 = some (13, (.lload_n 2, 1), (0, 0, 0)) := by decide +kernel
theorem xr_6_14 : X_row 6 14 = some (14, (.lcmp, 1), (0, 0, 0)) := by decide +kernel
theorem xr_6_15 : X_row 6 15 = some (15, (.ifCond .ne 6, 3), (0, 0, 0)) := by decide +kernel
theorem xr_6_18 : X_row 6 18 = some (18, (.iload 4, 2), (0, 0, 0)) := by decide +kernel
theorem xr_6_20 : X_row 6 20 = some (20, (.ireturn, 1), (0, 0, 0)) := by decide +kernel
theorem xr_6_21 : X_row 6 21 = some (21, (.iinc 4 1, 3), (0, 0, 0)) := by decide +kernel
theorem xr_6_24 : X_row 6 24 = some (24, (.goto (-21), 3), (0, 0, 0)) := by decide +kernel
theorem xr_6_27 : X_row 6 27 = some (27, (.iconst (-1), 1), (0, 0, 0)) := by decide +kernel
theorem xr_6_28 : X_row 6 28 = some (28, (.ireturn, 1), (0, 0, 0)) := by decide +kernel
theorem xr_7_0 : X_row 7 0 = some (0, (.aload_n 0, 1), (0, 0, 0)) := by decide +kernel
theorem xr_7_1 : X_row 7 1 = some (1, (.getfield 35, 3), (0, 0, 16)) := by decide +kernel
theorem xr_7_4 : X_row 7 4 = some (4, (.bipush 12, 2), (0, 0, 0)) := by decide +kernel
theorem xr_7_6 : X_row 7 6 = some (6, (.if_icmp .ge 33, 3), (0, 0, 0)) := by decide +kernel
theorem xr_7_9 : X_row 7 9 = some (9, (.aload_n 0, 1), (0, 0, 0)) := by decide +kernel
theorem xr_7_10 : X_row 7 10 = some (10, (.getfield 9, 3), (0, 3, 22)) := by decide +kernel
theorem xr_7_13 : X_row 7 13 = some (13, (.aload_n 0, 1), (0, 0, 0)) := by decide +kernel
theorem xr_7_14 : X_row 7 14 = some (14, (.getfield 35, 3), (0, 0, 16)) := by decide +kernel
theorem xr_7_17 : X_row 7 17 = some (17, (.lload_n 1, 1), (0, 0, 0)) := by decide +kernel
theorem xr_7_18 : X_row 7 18 = some (18, (.lastore, 1), (0, 0, 0)) := by decide +kernel
theorem xr_7_19 : X_row 7 19 = some (19, (.aload_n 0, 1), (0, 0, 0)) := by decide +kernel
theorem xr_7_20 : X_row 7 20 = some (20, (.getfield 15, 3), (0, 4, 24)) := by decide +kernel
theorem xr_7_23 : X_row 7 23 = some (23, (.aload_n 0, 1), (0, 0, 0)) := by decide +kernel
theorem xr_7_24 : X_row 7 24 = some (24, (.getfield 35, 3), (0, 0, 16)) := by decide +kernel
theorem xr_7_27 : X_row 7 27 = some (27, (.iconst 0, 1), (0, 0, 0)) := by decide +kernel
theorem xr_7_28 : X_row 7 28 = some (28, (.iastore, 1), (0, 0, 0)) := by decide +kernel
theorem xr_7_29 : X_row 7 29 = some (29, (.aload_n 0, 1), (0, 0, 0)) := by decide +kernel
theorem xr_7_30 : X_row 7 30 = some (30, (.dup, 1), (0, 0, 0)) := by decide +kernel
theorem xr_7_31 : X_row 7 31 = some (31, (.getfield 35, 3), (0, 0, 16)) := by decide +kernel
theorem xr_7_34 : X_row 7 34 = some (34, (.iconst 1, 1), (0, 0, 0)) := by decide +kernel
theorem xr_7_35 : X_row 7 35 = some (35, (.iadd, 1), (0, 0, 0)) := by decide +kernel
theorem xr_7_36 : X_row 7 36 = some (36, (.putfield 35, 3), (0, 0, 16)) := by decide +kernel
theorem xr_7_39 : X_row 7 39 = some (39, (.return_, 1), (0, 0, 0)) := by decide +kernel
theorem xr_8_0 : X_row 8 0 = some (0, (.aload_n 0, 1), (0, 0, 0)) := by decide +kernel
theorem xr_8_1 : X_row 8 1 = some (1, (.getfield 39, 3), (0, 1, 18)) := by decide +kernel
theorem xr_8_4 : X_row 8 4 = some (4, (.bipush 11, 2), (0, 0, 0)) := by decide +kernel
theorem xr_8_6 : X_row 8 6 = some (6, (.if_icmp .ge 53, 3), (0, 0, 0)) := by decide +kernel
theorem xr_8_9 : X_row 8 9 = some (9, (.aload_n 0, 1), (0, 0, 0)) := by decide +kernel
theorem xr_8_10 : X_row 8 10 = some (10, (.iload_n 3, 1), (0, 0, 0)) := by decide +kernel
theorem xr_8_11 : X_row 8 11 = some (11, (.invokevirtual 51, 3), (2, 10, 0)) := by decide +kernel
theorem xr_8_14 : X_row 8 14 = some (14, (.ifCond .eq 45, 3), (0, 0, 0)) := by decide +kernel
theorem xr_8_17 : X_row 8 17 = some (17, (.aload_n 0, 1), (0, 0, 0)) := by decide +kernel
theorem xr_8_18 : X_row 8 18 = some (18, (.getfield 19, 3), (0, 5, 26)) := by decide +kernel
theorem xr_8_21 : X_row 8 21 = some (21, (.aload_n 0, 1), (0, 0, 0)) := by decide +kernel
theorem xr_8_22 : X_row 8 22 = some (22, (.getfield 39, 3), (0, 1, 18)) := by decide +kernel
theorem xr_8_25 : X_row 8 25 = some (25, (.lload_n 1, 1), (0, 0, 0)) := by decide +kernel
theorem xr_8_26 : X_row 8 26 = some (26, (.lastore, 1), (0, 0, 0)) := by decide +kernel
theorem xr_8_27 : X_row 8 27 = some (27, (.aload_n 0, 1), (0, 0, 0)) := by decide +kernel
theorem xr_8_28 : X_row 8 28 = some (28, (.getfield 22, 3), (0, 6, 28)) := by decide +kernel
theorem xr_8_31 : X_row 8 31 = some (31, (.aload_n 0, 1), (0, 0, 0)) := by decide +kernel
theorem xr_8_32 : X_row 8 32 = some (32, (.getfield 39, 3), (0, 1, 18)) := by decide +kernel
theorem xr_8_35 : X_row 8 35 = some (35, (.aload_n 0, 1), (0, 0, 0)) := by decide +kernel
theorem xr_8_36 : X_row 8 36 = some (36, (.getfield 22, 3), (0, 6, 28)) := by decide +kernel
theorem xr_8_39 : X_row 8 39 = some (39, (.iload_n 3, 1), (0, 0, 0)) := by decide +kernel
theorem xr_8_40 : X_row 8 40 = some (40, (.iaload, 1), (0, 0, 0)) := by decide +kernel
theorem xr_8_41 : X_row 8 41 = some (41, (.iconst 1, 1), (0, 0, 0)) := by decide +kernel
theorem xr_8_42 : X_row 8 42 = some (42, (.aload_n 0, 1), (0, 0, 0)) := by decide +kernel
theorem xr_8_43 : X_row 8 43 = some (43, (.getfield 39, 3), (0, 1, 18)) := by decide +kernel
theorem xr_8_46 : X_row 8 46 = some (46, (.ishl, 1), (0, 0, 0)) := by decide +kernel
theorem xr_8_47 : X_row 8 47 = some (47, (.ior, 1), (0, 0, 0)) := by decide +kernel
theorem xr_8_48 : X_row 8 48 = some (48, (.iastore, 1), (0, 0, 0)) := by decide +kernel
theorem xr_8_49 : X_row 8 49 = some (49, (.aload_n 0, 1), (0, 0, 0)) := by decide +kernel
theorem xr_8_50 : X_row 8 50 = some (50, (.dup, 1), (0, 0, 0)) := by decide +kernel
theorem xr_8_51 : X_row 8 51 = some (51, (.getfield 39, 3), (0, 1, 18)) := by decide +kernel
theorem xr_8_54 : X_row 8 54 = some (54, (.iconst 1, 1), (0, 0, 0)) := by decide +kernel
theorem xr_8_55 : X_row 8 55 = some (55, (.iadd, 1), (0, 0, 0)) := by decide +kernel
theorem xr_8_56 : X_row 8 56 = some (56, (.putfield 39, 3), (0, 1, 18)) := by decide +kernel
theorem xr_8_59 : X_row 8 59 = some (59, (.return_, 1), (0, 0, 0)) := by decide +kernel
theorem xr_10_0 : X_row 10 0 = some (0, (.aload_n 0, 1), (0, 0, 0)) := by decide +kernel
theorem xr_10_1 : X_row 10 1 = some (1, (.getfield 15, 3), (0, 4, 24)) := by decide +kernel
theorem xr_10_4 : X_row 10 4 = some (4, (.iload_n 1, 1), (0, 0, 0)) := by decide +kernel
theorem xr_10_5 : X_row 10 5 = some (5, (.iaload, 1), (0, 0, 0)) := by decide +kernel
theorem xr_10_6 : X_row 10 6 = some (6, (.iload_n 2, 1), (0, 0, 0)) := by decide +kernel
theorem xr_10_7 : X_row 10 7 = some (7, (.invokestatic 59, 3), (112, 7, 0)) := by decide +kernel
theorem xr_10_10 : X_row 10 10 = some (10, (.ireturn, 1), (0, 0, 0)) := by decide +kernel
theorem xr_11_0 : X_row 11 0 = some (0, (.aload_n 0, 1), (0, 0, 0)) := by decide +kernel
theorem xr_11_1 : X_row 11 1 = some (1, (.getfield 22, 3), (0, 6, 28)) := by decide +kernel
theorem xr_11_4 : X_row 11 4 = some (4, (.iload_n 1, 1), (0, 0, 0)) := by decide +kernel
theorem xr_11_5 : X_row 11 5 = some (5, (.iaload, 1), (0, 0, 0)) := by decide +kernel
theorem xr_11_6 : X_row 11 6 = some (6, (.iload_n 2, 1), (0, 0, 0)) := by decide +kernel
theorem xr_11_7 : X_row 11 7 = some (7, (.invokestatic 59, 3), (112, 7, 0)) := by decide +kernel
theorem xr_11_10 : X_row 11 10 = some (10, (.ireturn, 1), (0, 0, 0)) := by decide +kernel
theorem xr_12_0 : X_row 12 0 = some (0, (.aload_n 0, 1), (0, 0, 0)) := by decide +kernel
theorem xr_12_1 : X_row 12 1 = some (1, (.getfield 39, 3), (0, 1, 18)) := by decide +kernel
theorem xr_12_4 : X_row 12 4 = some (4, (.iconst 1, 1), (0, 0, 0)) := by decide +kernel
theorem xr_12_5 : X_row 12 5 = some (5, (.if_icmp .le 7, 3), (0, 0, 0)) := by decide +kernel
theorem xr_12_8 : X_row 12 8 = some (8, (.iconst 1, 1), (0, 0, 0)) := by decide +kernel
theorem xr_12_9 : X_row 12 9 = some (9, (.goto 4, 3), (0, 0, 0)) := by decide +kernel
theorem xr_12_12 : X_row 12 12 = some (12, (.iconst 0, 1), (0, 0, 0)) := by decide +kernel
theorem xr_12_13 : X_row 12 13 = some (13, (.ireturn, 1), (0, 0, 0)) := by decide +kernel
theorem xn_1 : X_nL 1 = 1 := by decide +kernel
theorem xf_1 : X_na 1 = 0 ∧ X_ci 1 = 0 ∧ X_rt 1 = none := by decide +kernel
theorem xn_2 : X_nL 2 = 2 := by decide +kernel
theorem xf_2 : X_na 2 = 1 ∧ X_ci 2 = 0 ∧ X_rt 2 = (some .boolean) := by decide +kernel
theorem xn_3 : X_nL 3 = 2 := by decide +kernel
theorem xf_3 : X_na 3 = 1 ∧ X_ci 3 = 0 ∧ X_rt 3 = (some .boolean) := by decide +kernel
theorem xn_4 : X_nL 4 = 3 := by decide +kernel
theorem xf_4 : X_na 4 = 1 ∧ X_ci 4 = 0 ∧ X_rt 4 = (some .int) := by decide +kernel
theorem xn_5 : X_nL 5 = 3 := by decide +kernel
theorem xf_5 : X_na 5 = 1 ∧ X_ci 5 = 0 ∧ X_rt 5 = (some .int) := by decide +kernel
theorem xn_6 : X_nL 6 = 5 := by decide +kernel
theorem xf_6 : X_na 6 = 3 ∧ X_ci 6 = 0 ∧ X_rt 6 = (some .int) := by decide +kernel
theorem xn_7 : X_nL 7 = 3 := by decide +kernel
theorem xf_7 : X_na 7 = 1 ∧ X_ci 7 = 0 ∧ X_rt 7 = none := by decide +kernel
theorem xn_8 : X_nL 8 = 4 := by decide +kernel
theorem xf_8 : X_na 8 = 2 ∧ X_ci 8 = 0 ∧ X_rt 8 = none := by decide +kernel
theorem xn_10 : X_nL 10 = 3 := by decide +kernel
theorem xf_10 : X_na 10 = 2 ∧ X_ci 10 = 0 ∧ X_rt 10 = (some .boolean) := by decide +kernel
theorem xn_11 : X_nL 11 = 3 := by decide +kernel
theorem xf_11 : X_na 11 = 2 ∧ X_ci 11 = 0 ∧ X_rt 11 = (some .boolean) := by decide +kernel
theorem xn_12 : X_nL 12 = 1 := by decide +kernel
theorem xf_12 : X_na 12 = 0 ∧ X_ci 12 = 0 ∧ X_rt 12 = (some .int) := by decide +kernel
theorem X_Ix_r {g : Int → Int64} {n : Int} {x : Int64} {r : Int} (hn : 0 ≤ n) (h : X_Ix g n x r) : -1 ≤ r ∧ r < n := by
  rcases h with ⟨h1, h2, -⟩ | ⟨h1, -⟩ <;> omega
theorem c_hasKind (sc : X_Sc) (S : X_S) (B : Nat) (rc kc wc : Int) (rn : Int → Int64) (lo : Int → Int) (kn : Int → Int64) (ab : Int → Int) (n : Int) (hb : C_bk S B rc kc wc rn lo kn ab) (hn : -2147483648 ≤ n ∧ n ≤ 2147483647) : X_T sc 2 (0, [(0, .ref B), (1, .int (iI n))], [], S) (fun v S' => v = some (.int (iI (bI (0 ≤ n ∧ n < kc)))) ∧ S' = S) := by
  obtain ⟨hb0, hb1, hb2, hb3, hb4, ⟨f, hb5, hf⟩, ⟨hrc, hrcb⟩, ⟨hkc, hkcb⟩, ⟨hwc, hwcb⟩⟩ := id hb
  refine X_QI (fun Q hQ => ?_)
  refine T_p xr_2_0 xn_2 (pc' := 1) (ls' := [(0, .ref B), (1, .int (iI n))]) (st' := [.int (iI n)]) rfl ?_
  refine T_zif_lt xr_2_1 (t := 16) (pc' := 4) rfl rfl (fun c151 => ?_) (fun c151 => ?_)
  · skip
    have c151 : n < 0 := c151
    refine T_p xr_2_16 xn_2 (pc' := 17) (ls' := [(0, .ref B), (1, .int (iI n))]) (st' := [.int (iI 0)]) rfl ?_
    refine T_iret xr_2_17 xf_2.2.2 (by decide) ?_
    refine hQ _ _ ?_
    exact ⟨by rw [bI_f (by omega)], rfl⟩
  · skip
    have c151 : ¬ (n < 0) := c151
    refine T_p xr_2_4 xn_2 (pc' := 5) (ls' := [(0, .ref B), (1, .int (iI n))]) (st' := [.int (iI n)]) rfl ?_
    refine T_p xr_2_5 xn_2 (pc' := 6) (ls' := [(0, .ref B), (1, .int (iI n))]) (st' := [.ref B, .int (iI n)]) rfl ?_
    refine T_get xr_2_6 hb0 rfl (v := .int (iI kc)) rfl (pc' := 9) rfl ?_
    refine T_zicmp_ge xr_2_9 (t := 16) (pc' := 12) rfl rfl (fun c152 => ?_) (fun c152 => ?_)
    · skip
      have c152 : kc ≤ n := c152
      refine T_p xr_2_16 xn_2 (pc' := 17) (ls' := [(0, .ref B), (1, .int (iI n))]) (st' := [.int (iI 0)]) rfl ?_
      refine T_iret xr_2_17 xf_2.2.2 (by decide) ?_
      refine hQ _ _ ?_
      exact ⟨by rw [bI_f (by omega)], rfl⟩
    · skip
      have c152 : ¬ (kc ≤ n) := c152
      refine T_p xr_2_12 xn_2 (pc' := 13) (ls' := [(0, .ref B), (1, .int (iI n))]) (st' := [.int (iI 1)]) rfl ?_
      refine T_p xr_2_13 xn_2 (pc' := 17) (ls' := [(0, .ref B), (1, .int (iI n))]) (st' := [.int (iI 1)]) rfl ?_
      refine T_iret xr_2_17 xf_2.2.2 (by decide) ?_
      refine hQ _ _ ?_
      exact ⟨by rw [bI_t (by omega)], rfl⟩
theorem c_hasWord (sc : X_Sc) (S : X_S) (B : Nat) (rc kc wc : Int) (rn : Int → Int64) (lo : Int → Int) (kn : Int → Int64) (ab : Int → Int) (n : Int) (hb : C_bk S B rc kc wc rn lo kn ab) (hn : -2147483648 ≤ n ∧ n ≤ 2147483647) : X_T sc 3 (0, [(0, .ref B), (1, .int (iI n))], [], S) (fun v S' => v = some (.int (iI (bI (0 ≤ n ∧ n < wc)))) ∧ S' = S) := by
  obtain ⟨hb0, hb1, hb2, hb3, hb4, ⟨f, hb5, hf⟩, ⟨hrc, hrcb⟩, ⟨hkc, hkcb⟩, ⟨hwc, hwcb⟩⟩ := id hb
  refine X_QI (fun Q hQ => ?_)
  refine T_p xr_3_0 xn_3 (pc' := 1) (ls' := [(0, .ref B), (1, .int (iI n))]) (st' := [.int (iI n)]) rfl ?_
  refine T_zif_lt xr_3_1 (t := 16) (pc' := 4) rfl rfl (fun c153 => ?_) (fun c153 => ?_)
  · skip
    have c153 : n < 0 := c153
    refine T_p xr_3_16 xn_3 (pc' := 17) (ls' := [(0, .ref B), (1, .int (iI n))]) (st' := [.int (iI 0)]) rfl ?_
    refine T_iret xr_3_17 xf_3.2.2 (by decide) ?_
    refine hQ _ _ ?_
    exact ⟨by rw [bI_f (by omega)], rfl⟩
  · skip
    have c153 : ¬ (n < 0) := c153
    refine T_p xr_3_4 xn_3 (pc' := 5) (ls' := [(0, .ref B), (1, .int (iI n))]) (st' := [.int (iI n)]) rfl ?_
    refine T_p xr_3_5 xn_3 (pc' := 6) (ls' := [(0, .ref B), (1, .int (iI n))]) (st' := [.ref B, .int (iI n)]) rfl ?_
    refine T_get xr_3_6 hb0 rfl (v := .int (iI wc)) rfl (pc' := 9) rfl ?_
    refine T_zicmp_ge xr_3_9 (t := 16) (pc' := 12) rfl rfl (fun c154 => ?_) (fun c154 => ?_)
    · skip
      have c154 : wc ≤ n := c154
      refine T_p xr_3_16 xn_3 (pc' := 17) (ls' := [(0, .ref B), (1, .int (iI n))]) (st' := [.int (iI 0)]) rfl ?_
      refine T_iret xr_3_17 xf_3.2.2 (by decide) ?_
      refine hQ _ _ ?_
      exact ⟨by rw [bI_f (by omega)], rfl⟩
    · skip
      have c154 : ¬ (wc ≤ n) := c154
      refine T_p xr_3_12 xn_3 (pc' := 13) (ls' := [(0, .ref B), (1, .int (iI n))]) (st' := [.int (iI 1)]) rfl ?_
      refine T_p xr_3_13 xn_3 (pc' := 17) (ls' := [(0, .ref B), (1, .int (iI n))]) (st' := [.int (iI 1)]) rfl ?_
      refine T_iret xr_3_17 xf_3.2.2 (by decide) ?_
      refine hQ _ _ ?_
      exact ⟨by rw [bI_t (by omega)], rfl⟩
theorem c_indexOf (sc : X_Sc) (S : X_S) (a : Nat) (n : Int) (n0 : Nat) (g : Int → Int64) (t : Int64) (ha : S.1 a = .inl (.long, n0, .inr (.inl fun k : Nat => g (k : Int)))) (hn : 0 ≤ n ∧ n ≤ n0) (hn0 : n0 ≤ 12) : X_T sc 6 (0, [(0, .ref a), (1, .int (iI n)), (2, .long t)], [], S) (fun v S' => ∃ r, v = some (.int (iI r)) ∧ X_Ix g n t r ∧ S' = S) := by
  refine X_QI (fun Q hQ => ?_)
  refine T_p xr_6_0 xn_6 (pc' := 1) (ls' := [(0, .ref a), (1, .int (iI n)), (2, .long t)]) (st' := [.int (iI 0)]) rfl ?_
  refine T_p xr_6_1 xn_6 (pc' := 3) (ls' := [(4, .int (iI 0)), (0, .ref a), (1, .int (iI n)), (2, .long t)]) (st' := []) rfl ?_
  have L155 : ∀ (m157 : Nat) (i : Int) (hi : 0 ≤ i ∧ i ≤ n) (hno : ∀ k, 0 ≤ k → k < i → ¬ g k = t) (hm158 : n - i < m157), X_T sc 6 (3, [(4, .int (iI i)), (0, .ref a), (1, .int (iI n)), (2, .long t)], [], S) Q := by
    intro m157
    induction m157 with
    | zero =>
      intro i hi hno hm158
      exact (show False by omega).elim
    | succ m157 ih156 =>
      intro i hi hno hm158
      refine T_p xr_6_3 xn_6 (pc' := 5) (ls' := [(4, .int (iI i)), (0, .ref a), (1, .int (iI n)), (2, .long t)]) (st' := [.int (iI i)]) rfl ?_
      refine T_p xr_6_5 xn_6 (pc' := 6) (ls' := [(4, .int (iI i)), (0, .ref a), (1, .int (iI n)), (2, .long t)]) (st' := [.int (iI n), .int (iI i)]) rfl ?_
      refine T_zicmp_ge xr_6_6 (t := 27) (pc' := 9) rfl rfl (fun c160 => ?_) (fun c160 => ?_)
      · skip
        have c160 : n ≤ i := c160
        refine T_p xr_6_27 xn_6 (pc' := 28) (ls' := [(4, .int (iI i)), (0, .ref a), (1, .int (iI n)), (2, .long t)]) (st' := [.int (iI (-1))]) rfl ?_
        refine T_iret xr_6_28 xf_6.2.2 rfl ?_
        refine hQ _ _ ?_
        exact ⟨-1, rfl, Or.inr ⟨rfl, fun k h1 h2 => hno k h1 (by omega)⟩, rfl⟩
      · skip
        have c160 : ¬ (n ≤ i) := c160
        refine T_p xr_6_9 xn_6 (pc' := 10) (ls' := [(4, .int (iI i)), (0, .ref a), (1, .int (iI n)), (2, .long t)]) (st' := [.ref a]) rfl ?_
        refine T_p xr_6_10 xn_6 (pc' := 12) (ls' := [(4, .int (iI i)), (0, .ref a), (1, .int (iI n)), (2, .long t)]) (st' := [.int (iI i), .ref a]) rfl ?_
        refine T_zlald xr_6_12 ha (pc' := 13) rfl ?_
        refine T_p xr_6_13 xn_6 (pc' := 14) (ls' := [(4, .int (iI i)), (0, .ref a), (1, .int (iI n)), (2, .long t)]) (st' := [.long t, .long (g i)]) rfl ?_
        refine T_lc_ne xr_6_14 xr_6_15 (t := 21) (pc' := 18) rfl rfl (fun c161 => ?_) (fun c161 => ?_)
        · skip
          have c161 : ¬ (g i) = t := c161
          refine T_ziinc xr_6_21 xn_6 (a := i) (z := i + 1) rfl (Nat.le_of_ble_eq_true rfl) (by omega) (ls' := [(4, .int (iI (i + 1))), (0, .ref a), (1, .int (iI n)), (2, .long t)]) rfl (pc' := 24) rfl ?_
          refine T_p xr_6_24 xn_6 (pc' := 3) (ls' := [(4, .int (iI (i + 1))), (0, .ref a), (1, .int (iI n)), (2, .long t)]) (st' := []) rfl ?_
          exact ih156 (i + 1)  (by omega) (fun k h1 h2 => by
                by_cases hk : k = i
                · subst hk; assumption
                · exact hno k h1 (by omega)) (by omega)
        · skip
          have c161 : ¬ (¬ (g i) = t) := c161
          refine T_p xr_6_18 xn_6 (pc' := 20) (ls' := [(4, .int (iI i)), (0, .ref a), (1, .int (iI n)), (2, .long t)]) (st' := [.int (iI i)]) rfl ?_
          refine T_iret xr_6_20 xf_6.2.2 rfl ?_
          refine hQ _ _ ?_
          exact ⟨i, rfl, Or.inl ⟨by omega, by omega, by first | assumption | exact Classical.not_not.mp (by assumption), hno⟩, rfl⟩
  exact L155 (n + 1).toNat 0  (by omega) (fun k h1 h2 => (show False by omega).elim) (by omega)
theorem c_rankNamed (sc : X_Sc) (S : X_S) (B : Nat) (rc kc wc : Int) (rn : Int → Int64) (lo : Int → Int) (kn : Int → Int64) (ab : Int → Int) (t : Int64) (hb : C_bk S B rc kc wc rn lo kn ab)  : X_T sc 4 (0, [(0, .ref B), (1, .long t)], [], S) (fun v S' => ∃ r, v = some (.int (iI r)) ∧ X_Ix rn rc t r ∧ S' = S) := by
  obtain ⟨hb0, hb1, hb2, hb3, hb4, ⟨f, hb5, hf⟩, ⟨hrc, hrcb⟩, ⟨hkc, hkcb⟩, ⟨hwc, hwcb⟩⟩ := id hb
  refine X_QI (fun Q hQ => ?_)
  refine T_p xr_4_0 xn_4 (pc' := 1) (ls' := [(0, .ref B), (1, .long t)]) (st' := [.ref B]) rfl ?_
  refine T_get xr_4_1 hb0 rfl (v := .ref (B + 1)) rfl (pc' := 4) rfl ?_
  refine T_p xr_4_4 xn_4 (pc' := 5) (ls' := [(0, .ref B), (1, .long t)]) (st' := [.ref B, .ref (B + 1)]) rfl ?_
  refine T_get xr_4_5 hb0 rfl (v := .int (iI rc)) rfl (pc' := 8) rfl ?_
  refine T_p xr_4_8 xn_4 (pc' := 9) (ls' := [(0, .ref B), (1, .long t)]) (st' := [.long t, .int (iI rc), .ref (B + 1)]) rfl ?_
  refine T_cs xr_4_9 (by decide) xf_6.1 xn_6 (as := [.ref (B + 1), .int (iI rc), .long t]) (r := []) rfl (Nat.le_of_ble_eq_true rfl) (Nat.le_of_ble_eq_true rfl) (pc' := 12) rfl (ls' := [(0, .ref (B + 1)), (1, .int (iI rc)), (2, .long t)]) rfl ?_
  refine T_mono (c_indexOf sc S (B + 1) rc 12 rn t hb1 (by omega) (by omega)) (fun v162 S163 h164 => ?_)
  obtain ⟨r165, h166, hx167, h168⟩ := h164
  rw [h166, h168]
  have hr169 := X_Ix_r (by omega) hx167
  show X_T sc 4 (12, [(0, .ref B), (1, .long t)], [.int (iI r165)], S) _
  refine T_iret xr_4_12 xf_4.2.2 rfl ?_
  refine hQ _ _ ?_
  exact ⟨_, rfl, hx167, rfl⟩
theorem c_kindNamed (sc : X_Sc) (S : X_S) (B : Nat) (rc kc wc : Int) (rn : Int → Int64) (lo : Int → Int) (kn : Int → Int64) (ab : Int → Int) (t : Int64) (hb : C_bk S B rc kc wc rn lo kn ab)  : X_T sc 5 (0, [(0, .ref B), (1, .long t)], [], S) (fun v S' => ∃ r, v = some (.int (iI r)) ∧ X_Ix kn kc t r ∧ S' = S) := by
  obtain ⟨hb0, hb1, hb2, hb3, hb4, ⟨f, hb5, hf⟩, ⟨hrc, hrcb⟩, ⟨hkc, hkcb⟩, ⟨hwc, hwcb⟩⟩ := id hb
  refine X_QI (fun Q hQ => ?_)
  refine T_p xr_5_0 xn_5 (pc' := 1) (ls' := [(0, .ref B), (1, .long t)]) (st' := [.ref B]) rfl ?_
  refine T_get xr_5_1 hb0 rfl (v := .ref (B + 3)) rfl (pc' := 4) rfl ?_
  refine T_p xr_5_4 xn_5 (pc' := 5) (ls' := [(0, .ref B), (1, .long t)]) (st' := [.ref B, .ref (B + 3)]) rfl ?_
  refine T_get xr_5_5 hb0 rfl (v := .int (iI kc)) rfl (pc' := 8) rfl ?_
  refine T_p xr_5_8 xn_5 (pc' := 9) (ls' := [(0, .ref B), (1, .long t)]) (st' := [.long t, .int (iI kc), .ref (B + 3)]) rfl ?_
  refine T_cs xr_5_9 (by decide) xf_6.1 xn_6 (as := [.ref (B + 3), .int (iI kc), .long t]) (r := []) rfl (Nat.le_of_ble_eq_true rfl) (Nat.le_of_ble_eq_true rfl) (pc' := 12) rfl (ls' := [(0, .ref (B + 3)), (1, .int (iI kc)), (2, .long t)]) rfl ?_
  refine T_mono (c_indexOf sc S (B + 3) kc 11 kn t hb3 (by omega) (by omega)) (fun v170 S171 h172 => ?_)
  obtain ⟨r173, h174, hx175, h176⟩ := h172
  rw [h174, h176]
  have hr177 := X_Ix_r (by omega) hx175
  show X_T sc 5 (12, [(0, .ref B), (1, .long t)], [.int (iI r173)], S) _
  refine T_iret xr_5_12 xf_5.2.2 rfl ?_
  refine hQ _ _ ?_
  exact ⟨_, rfl, hx175, rfl⟩
theorem c_clearb (sc : X_Sc) (S : X_S) (B : Nat) (rc kc wc : Int) (rn : Int → Int64) (lo : Int → Int) (kn : Int → Int64) (ab : Int → Int)  (hb : C_bk S B rc kc wc rn lo kn ab)  : X_T sc 1 (0, [(0, .ref B)], [], S) (fun v S' => v = none ∧ C_bk S' B 0 1 0 rn lo (X_ug kn 0 (Int64.ofNat 6384748)) (X_ug ab 0 1) ∧ X_Fr (fun r => B ≤ r ∧ r ≤ B + 4) S S') := by
  obtain ⟨hb0, hb1, hb2, hb3, hb4, ⟨f, hb5, hf⟩, ⟨hrc, hrcb⟩, ⟨hkc, hkcb⟩, ⟨hwc, hwcb⟩⟩ := id hb
  refine X_QI (fun Q hQ => ?_)
  refine T_p xr_1_0 xn_1 (pc' := 1) (ls' := [(0, .ref B)]) (st' := [.ref B]) rfl ?_
  refine T_p xr_1_1 xn_1 (pc' := 2) (ls' := [(0, .ref B)]) (st' := [.int (iI 0), .ref B]) rfl ?_
  refine T_put xr_1_2 hb0 rfl (Nat.le_of_ble_eq_true rfl) rfl (fs' := [.int (iI 0), .int (iI kc), .int (iI wc), .ref (B + 1), .ref (B + 2), .ref (B + 3), .ref (B + 4), .ref (B + 5)]) rfl (pc' := 5) rfl (fun S178 h179 n180 e181 => ?_)
  refine T_p xr_1_5 xn_1 (pc' := 6) (ls' := [(0, .ref B)]) (st' := [.ref B]) rfl ?_
  refine T_p xr_1_6 xn_1 (pc' := 7) (ls' := [(0, .ref B)]) (st' := [.int (iI 1), .ref B]) rfl ?_
  refine T_put xr_1_7 h179 rfl (Nat.le_of_ble_eq_true rfl) rfl (fs' := [.int (iI 0), .int (iI 1), .int (iI wc), .ref (B + 1), .ref (B + 2), .ref (B + 3), .ref (B + 4), .ref (B + 5)]) rfl (pc' := 10) rfl (fun S182 h183 n184 e185 => ?_)
  refine T_p xr_1_10 xn_1 (pc' := 11) (ls' := [(0, .ref B)]) (st' := [.ref B]) rfl ?_
  refine T_p xr_1_11 xn_1 (pc' := 12) (ls' := [(0, .ref B)]) (st' := [.int (iI 0), .ref B]) rfl ?_
  refine T_put xr_1_12 h183 rfl (Nat.le_of_ble_eq_true rfl) rfl (fs' := [.int (iI 0), .int (iI 1), .int (iI 0), .ref (B + 1), .ref (B + 2), .ref (B + 3), .ref (B + 4), .ref (B + 5)]) rfl (pc' := 15) rfl (fun S186 h187 n188 e189 => ?_)
  refine T_p xr_1_15 xn_1 (pc' := 16) (ls' := [(0, .ref B)]) (st' := [.ref B]) rfl ?_
  refine T_get xr_1_16 h187 rfl (v := .ref (B + 3)) rfl (pc' := 19) rfl ?_
  refine T_p xr_1_19 xn_1 (pc' := 20) (ls' := [(0, .ref B)]) (st' := [.int (iI 0), .ref (B + 3)]) rfl ?_
  refine T_p xr_1_20 xn_1 (pc' := 23) (ls' := [(0, .ref B)]) (st' := [.long (Int64.ofNat 6384748), .int (iI 0), .ref (B + 3)]) rfl ?_
  have h190 := (n188 (B + 3) (by omega)).trans ((n184 (B + 3) (by omega)).trans ((n180 (B + 3) (by omega)).trans (hb3)))
  refine T_zlast xr_1_23 h190 (pc' := 24) rfl (fun S191 h192 n193 e194 => ?_)
  refine T_p xr_1_24 xn_1 (pc' := 25) (ls' := [(0, .ref B)]) (st' := [.ref B]) rfl ?_
  have h195 := (n193 B (by omega)).trans (h187)
  refine T_get xr_1_25 h195 rfl (v := .ref (B + 4)) rfl (pc' := 28) rfl ?_
  refine T_p xr_1_28 xn_1 (pc' := 29) (ls' := [(0, .ref B)]) (st' := [.int (iI 0), .ref (B + 4)]) rfl ?_
  refine T_p xr_1_29 xn_1 (pc' := 30) (ls' := [(0, .ref B)]) (st' := [.int (iI 1), .int (iI 0), .ref (B + 4)]) rfl ?_
  have h196 := (n193 (B + 4) (by omega)).trans ((n188 (B + 4) (by omega)).trans ((n184 (B + 4) (by omega)).trans ((n180 (B + 4) (by omega)).trans (hb4))))
  refine T_ziast xr_1_30 h196 (pc' := 31) rfl (fun S197 h198 n199 e200 => ?_)
  refine T_vret xr_1_31 xf_1.2.2 ?_
  refine hQ _ _ ?_
  have h201 := (n199 B (by omega)).trans (h195)
  have h202 := (n199 (B + 1) (by omega)).trans ((n193 (B + 1) (by omega)).trans ((n188 (B + 1) (by omega)).trans ((n184 (B + 1) (by omega)).trans ((n180 (B + 1) (by omega)).trans (hb1)))))
  have h203 := (n199 (B + 2) (by omega)).trans ((n193 (B + 2) (by omega)).trans ((n188 (B + 2) (by omega)).trans ((n184 (B + 2) (by omega)).trans ((n180 (B + 2) (by omega)).trans (hb2)))))
  have h204 := (n199 (B + 3) (by omega)).trans (h192)
  have h205 := (n199 (B + 5) (by omega)).trans ((n193 (B + 5) (by omega)).trans ((n188 (B + 5) (by omega)).trans ((n184 (B + 5) (by omega)).trans ((n180 (B + 5) (by omega)).trans (hb5)))))
  exact ⟨rfl, ⟨h201, h202, h203, h204, h198, ⟨f, h205, hf⟩, ⟨by omega, by omega⟩, ⟨by omega, by omega⟩, ⟨by omega, by omega⟩⟩, (((((X_Fr.rf).tr (X_Fr.of n180 e181 (by omega))).tr (X_Fr.of n184 e185 (by omega))).tr (X_Fr.of n188 e189 (by omega))).tr (X_Fr.of n193 e194 (by omega))).tr (X_Fr.of n199 e200 (by omega))⟩
theorem c_addRank (sc : X_Sc) (S : X_S) (B : Nat) (rc kc wc : Int) (rn : Int → Int64) (lo : Int → Int) (kn : Int → Int64) (ab : Int → Int) (t : Int64) (hb : C_bk S B rc kc wc rn lo kn ab) (hr : rc < 12) : X_T sc 7 (0, [(0, .ref B), (1, .long t)], [], S) (fun v S' => v = none ∧ C_bk S' B (rc + 1) kc wc (X_ug rn rc t) (X_ug lo rc 0) kn ab ∧ X_Fr (fun r => B ≤ r ∧ r ≤ B + 4) S S') := by
  obtain ⟨hb0, hb1, hb2, hb3, hb4, ⟨f, hb5, hf⟩, ⟨hrc, hrcb⟩, ⟨hkc, hkcb⟩, ⟨hwc, hwcb⟩⟩ := id hb
  refine X_QI (fun Q hQ => ?_)
  refine T_p xr_7_0 xn_7 (pc' := 1) (ls' := [(0, .ref B), (1, .long t)]) (st' := [.ref B]) rfl ?_
  refine T_get xr_7_1 hb0 rfl (v := .int (iI rc)) rfl (pc' := 4) rfl ?_
  refine T_p xr_7_4 xn_7 (pc' := 6) (ls' := [(0, .ref B), (1, .long t)]) (st' := [.int (iI 12), .int (iI rc)]) rfl ?_
  refine T_zicmp_ge xr_7_6 (t := 39) (pc' := 9) rfl rfl (fun c206 => ?_) (fun c206 => ?_)
  · skip
    have c206 : 12 ≤ rc := c206
    exact (show False by omega).elim
  · skip
    have c206 : ¬ (12 ≤ rc) := c206
    refine T_p xr_7_9 xn_7 (pc' := 10) (ls' := [(0, .ref B), (1, .long t)]) (st' := [.ref B]) rfl ?_
    refine T_get xr_7_10 hb0 rfl (v := .ref (B + 1)) rfl (pc' := 13) rfl ?_
    refine T_p xr_7_13 xn_7 (pc' := 14) (ls' := [(0, .ref B), (1, .long t)]) (st' := [.ref B, .ref (B + 1)]) rfl ?_
    refine T_get xr_7_14 hb0 rfl (v := .int (iI rc)) rfl (pc' := 17) rfl ?_
    refine T_p xr_7_17 xn_7 (pc' := 18) (ls' := [(0, .ref B), (1, .long t)]) (st' := [.long t, .int (iI rc), .ref (B + 1)]) rfl ?_
    refine T_zlast xr_7_18 hb1 (pc' := 19) rfl (fun S207 h208 n209 e210 => ?_)
    refine T_p xr_7_19 xn_7 (pc' := 20) (ls' := [(0, .ref B), (1, .long t)]) (st' := [.ref B]) rfl ?_
    have h211 := (n209 B (by omega)).trans (hb0)
    refine T_get xr_7_20 h211 rfl (v := .ref (B + 2)) rfl (pc' := 23) rfl ?_
    refine T_p xr_7_23 xn_7 (pc' := 24) (ls' := [(0, .ref B), (1, .long t)]) (st' := [.ref B, .ref (B + 2)]) rfl ?_
    refine T_get xr_7_24 h211 rfl (v := .int (iI rc)) rfl (pc' := 27) rfl ?_
    refine T_p xr_7_27 xn_7 (pc' := 28) (ls' := [(0, .ref B), (1, .long t)]) (st' := [.int (iI 0), .int (iI rc), .ref (B + 2)]) rfl ?_
    have h212 := (n209 (B + 2) (by omega)).trans (hb2)
    refine T_ziast xr_7_28 h212 (pc' := 29) rfl (fun S213 h214 n215 e216 => ?_)
    refine T_p xr_7_29 xn_7 (pc' := 30) (ls' := [(0, .ref B), (1, .long t)]) (st' := [.ref B]) rfl ?_
    refine T_p xr_7_30 xn_7 (pc' := 31) (ls' := [(0, .ref B), (1, .long t)]) (st' := [.ref B, .ref B]) rfl ?_
    have h217 := (n215 B (by omega)).trans (h211)
    refine T_get xr_7_31 h217 rfl (v := .int (iI rc)) rfl (pc' := 34) rfl ?_
    refine T_p xr_7_34 xn_7 (pc' := 35) (ls' := [(0, .ref B), (1, .long t)]) (st' := [.int (iI 1), .int (iI rc), .ref B]) rfl ?_
    refine T_ziadd xr_7_35 (z := rc + 1) rfl (pc' := 36) rfl ?_
    refine T_put xr_7_36 h217 rfl (Nat.le_of_ble_eq_true rfl) rfl (fs' := [.int (iI (rc + 1)), .int (iI kc), .int (iI wc), .ref (B + 1), .ref (B + 2), .ref (B + 3), .ref (B + 4), .ref (B + 5)]) rfl (pc' := 39) rfl (fun S218 h219 n220 e221 => ?_)
    refine T_vret xr_7_39 xf_7.2.2 ?_
    refine hQ _ _ ?_
    have h222 := (n220 (B + 1) (by omega)).trans ((n215 (B + 1) (by omega)).trans (h208))
    have h223 := (n220 (B + 2) (by omega)).trans (h214)
    have h224 := (n220 (B + 3) (by omega)).trans ((n215 (B + 3) (by omega)).trans ((n209 (B + 3) (by omega)).trans (hb3)))
    have h225 := (n220 (B + 4) (by omega)).trans ((n215 (B + 4) (by omega)).trans ((n209 (B + 4) (by omega)).trans (hb4)))
    have h226 := (n220 (B + 5) (by omega)).trans ((n215 (B + 5) (by omega)).trans ((n209 (B + 5) (by omega)).trans (hb5)))
    exact ⟨rfl, ⟨h219, h222, h223, h224, h225, ⟨f, h226, hf⟩, ⟨by omega, by omega⟩, ⟨by omega, by omega⟩, ⟨by omega, by omega⟩⟩, (((X_Fr.rf).tr (X_Fr.of n209 e210 (by omega))).tr (X_Fr.of n215 e216 (by omega))).tr (X_Fr.of n220 e221 (by omega))⟩
theorem c_addKind (sc : X_Sc) (S : X_S) (B : Nat) (rc kc wc : Int) (rn : Int → Int64) (lo : Int → Int) (kn : Int → Int64) (ab : Int → Int) (t : Int64) (u : Int) (hb : C_bk S B rc kc wc rn lo kn ab) (hr : kc < 11) (hu : 0 ≤ u ∧ u < kc) : X_T sc 8 (0, [(0, .ref B), (1, .long t), (3, .int (iI u))], [], S) (fun v S' => v = none ∧ C_bk S' B rc (kc + 1) wc rn lo (X_ug kn kc t) (X_ug ab kc (X_bO (ab u) (X_bS kc))) ∧ X_Fr (fun r => B ≤ r ∧ r ≤ B + 4) S S') := by
  obtain ⟨hb0, hb1, hb2, hb3, hb4, ⟨f, hb5, hf⟩, ⟨hrc, hrcb⟩, ⟨hkc, hkcb⟩, ⟨hwc, hwcb⟩⟩ := id hb
  refine X_QI (fun Q hQ => ?_)
  refine T_p xr_8_0 xn_8 (pc' := 1) (ls' := [(0, .ref B), (1, .long t), (3, .int (iI u))]) (st' := [.ref B]) rfl ?_
  refine T_get xr_8_1 hb0 rfl (v := .int (iI kc)) rfl (pc' := 4) rfl ?_
  refine T_p xr_8_4 xn_8 (pc' := 6) (ls' := [(0, .ref B), (1, .long t), (3, .int (iI u))]) (st' := [.int (iI 11), .int (iI kc)]) rfl ?_
  refine T_zicmp_ge xr_8_6 (t := 59) (pc' := 9) rfl rfl (fun c227 => ?_) (fun c227 => ?_)
  · skip
    have c227 : 11 ≤ kc := c227
    exact (show False by omega).elim
  · skip
    have c227 : ¬ (11 ≤ kc) := c227
    refine T_p xr_8_9 xn_8 (pc' := 10) (ls' := [(0, .ref B), (1, .long t), (3, .int (iI u))]) (st' := [.ref B]) rfl ?_
    refine T_p xr_8_10 xn_8 (pc' := 11) (ls' := [(0, .ref B), (1, .long t), (3, .int (iI u))]) (st' := [.int (iI u), .ref B]) rfl ?_
    refine T_cv (S := S) (q := B) xr_8_11 xf_2.1 xf_2.2.1 xn_2 (as := [.int (iI u)]) (r := []) rfl hb0 (Nat.le_of_ble_eq_true rfl) (Nat.le_of_ble_eq_true rfl) (pc' := 14) rfl (ls' := [(0, .ref B), (1, .int (iI u))]) rfl ?_
    refine T_mono (c_hasKind sc S B rc kc wc rn lo kn ab u ⟨hb0, hb1, hb2, hb3, hb4, ⟨f, hb5, hf⟩, ⟨by omega, by omega⟩, ⟨by omega, by omega⟩, ⟨by omega, by omega⟩⟩ (by omega)) (fun v229 S230 h228 => ?_)
    obtain ⟨h231, h232⟩ := h228
    rw [h231, h232]
    show X_T sc 8 (14, [(0, .ref B), (1, .long t), (3, .int (iI u))], [.int (iI (bI (0 ≤ u ∧ u < kc)))], S) _
    refine T_bif_eq xr_8_14 (t := 59) (pc' := 17) rfl rfl (fun c233 => ?_) (fun c233 => ?_)
    · skip
      have c233 : ¬ (0 ≤ u ∧ u < kc) := c233
      exact (show False by omega).elim
    · skip
      have c233 : (0 ≤ u ∧ u < kc) := c233
      refine T_p xr_8_17 xn_8 (pc' := 18) (ls' := [(0, .ref B), (1, .long t), (3, .int (iI u))]) (st' := [.ref B]) rfl ?_
      refine T_get xr_8_18 hb0 rfl (v := .ref (B + 3)) rfl (pc' := 21) rfl ?_
      refine T_p xr_8_21 xn_8 (pc' := 22) (ls' := [(0, .ref B), (1, .long t), (3, .int (iI u))]) (st' := [.ref B, .ref (B + 3)]) rfl ?_
      refine T_get xr_8_22 hb0 rfl (v := .int (iI kc)) rfl (pc' := 25) rfl ?_
      refine T_p xr_8_25 xn_8 (pc' := 26) (ls' := [(0, .ref B), (1, .long t), (3, .int (iI u))]) (st' := [.long t, .int (iI kc), .ref (B + 3)]) rfl ?_
      refine T_zlast xr_8_26 hb3 (pc' := 27) rfl (fun S234 h235 n236 e237 => ?_)
      refine T_p xr_8_27 xn_8 (pc' := 28) (ls' := [(0, .ref B), (1, .long t), (3, .int (iI u))]) (st' := [.ref B]) rfl ?_
      have h238 := (n236 B (by omega)).trans (hb0)
      refine T_get xr_8_28 h238 rfl (v := .ref (B + 4)) rfl (pc' := 31) rfl ?_
      refine T_p xr_8_31 xn_8 (pc' := 32) (ls' := [(0, .ref B), (1, .long t), (3, .int (iI u))]) (st' := [.ref B, .ref (B + 4)]) rfl ?_
      refine T_get xr_8_32 h238 rfl (v := .int (iI kc)) rfl (pc' := 35) rfl ?_
      refine T_p xr_8_35 xn_8 (pc' := 36) (ls' := [(0, .ref B), (1, .long t), (3, .int (iI u))]) (st' := [.ref B, .int (iI kc), .ref (B + 4)]) rfl ?_
      refine T_get xr_8_36 h238 rfl (v := .ref (B + 4)) rfl (pc' := 39) rfl ?_
      refine T_p xr_8_39 xn_8 (pc' := 40) (ls' := [(0, .ref B), (1, .long t), (3, .int (iI u))]) (st' := [.int (iI u), .ref (B + 4), .int (iI kc), .ref (B + 4)]) rfl ?_
      have h239 := (n236 (B + 4) (by omega)).trans (hb4)
      refine T_ziald xr_8_40 h239 (pc' := 41) rfl ?_
      refine T_p xr_8_41 xn_8 (pc' := 42) (ls' := [(0, .ref B), (1, .long t), (3, .int (iI u))]) (st' := [.int (iI 1), .int (iI (ab u)), .int (iI kc), .ref (B + 4)]) rfl ?_
      refine T_p xr_8_42 xn_8 (pc' := 43) (ls' := [(0, .ref B), (1, .long t), (3, .int (iI u))]) (st' := [.ref B, .int (iI 1), .int (iI (ab u)), .int (iI kc), .ref (B + 4)]) rfl ?_
      refine T_get xr_8_43 h238 rfl (v := .int (iI kc)) rfl (pc' := 46) rfl ?_
      refine T_zop xr_8_46 (pc' := 47) rfl (z := (iI 1 <<< (iI kc &&& 31)).toInt) (iI_of _) ?_
      refine T_zop xr_8_47 (pc' := 48) rfl (z := (iI (ab u) ||| iI ((iI 1 <<< (iI kc &&& 31)).toInt)).toInt) (iI_of _) ?_
      refine T_ziast xr_8_48 h239 (pc' := 49) rfl (fun S240 h241 n242 e243 => ?_)
      refine T_p xr_8_49 xn_8 (pc' := 50) (ls' := [(0, .ref B), (1, .long t), (3, .int (iI u))]) (st' := [.ref B]) rfl ?_
      refine T_p xr_8_50 xn_8 (pc' := 51) (ls' := [(0, .ref B), (1, .long t), (3, .int (iI u))]) (st' := [.ref B, .ref B]) rfl ?_
      have h244 := (n242 B (by omega)).trans (h238)
      refine T_get xr_8_51 h244 rfl (v := .int (iI kc)) rfl (pc' := 54) rfl ?_
      refine T_p xr_8_54 xn_8 (pc' := 55) (ls' := [(0, .ref B), (1, .long t), (3, .int (iI u))]) (st' := [.int (iI 1), .int (iI kc), .ref B]) rfl ?_
      refine T_ziadd xr_8_55 (z := kc + 1) rfl (pc' := 56) rfl ?_
      refine T_put xr_8_56 h244 rfl (Nat.le_of_ble_eq_true rfl) rfl (fs' := [.int (iI rc), .int (iI (kc + 1)), .int (iI wc), .ref (B + 1), .ref (B + 2), .ref (B + 3), .ref (B + 4), .ref (B + 5)]) rfl (pc' := 59) rfl (fun S245 h246 n247 e248 => ?_)
      refine T_vret xr_8_59 xf_8.2.2 ?_
      refine hQ _ _ ?_
      have h249 := (n247 (B + 1) (by omega)).trans ((n242 (B + 1) (by omega)).trans ((n236 (B + 1) (by omega)).trans (hb1)))
      have h250 := (n247 (B + 2) (by omega)).trans ((n242 (B + 2) (by omega)).trans ((n236 (B + 2) (by omega)).trans (hb2)))
      have h251 := (n247 (B + 3) (by omega)).trans ((n242 (B + 3) (by omega)).trans (h235))
      have h252 := (n247 (B + 4) (by omega)).trans (h241)
      have h253 := (n247 (B + 5) (by omega)).trans ((n242 (B + 5) (by omega)).trans ((n236 (B + 5) (by omega)).trans (hb5)))
      exact ⟨rfl, ⟨h246, h249, h250, h251, h252, ⟨f, h253, hf⟩, ⟨by omega, by omega⟩, ⟨by omega, by omega⟩, ⟨by omega, by omega⟩⟩, (((X_Fr.rf).tr (X_Fr.of n236 e237 (by omega))).tr (X_Fr.of n242 e243 (by omega))).tr (X_Fr.of n247 e248 (by omega))⟩
theorem c_isTighter (sc : X_Sc) (S : X_S) (B : Nat) (rc kc wc : Int) (rn : Int → Int64) (lo : Int → Int) (kn : Int → Int64) (ab : Int → Int) (a b : Int) (hb : C_bk S B rc kc wc rn lo kn ab) (ha : 0 ≤ a ∧ a < 12) : X_T sc 10 (0, [(0, .ref B), (1, .int (iI a)), (2, .int (iI b))], [], S) (fun v S' => v = some (.int (iI (bI (X_bt (lo a) b)))) ∧ S' = S) := by
  obtain ⟨hb0, hb1, hb2, hb3, hb4, ⟨f, hb5, hf⟩, ⟨hrc, hrcb⟩, ⟨hkc, hkcb⟩, ⟨hwc, hwcb⟩⟩ := id hb
  refine X_QI (fun Q hQ => ?_)
  refine T_p xr_10_0 xn_10 (pc' := 1) (ls' := [(0, .ref B), (1, .int (iI a)), (2, .int (iI b))]) (st' := [.ref B]) rfl ?_
  refine T_get xr_10_1 hb0 rfl (v := .ref (B + 2)) rfl (pc' := 4) rfl ?_
  refine T_p xr_10_4 xn_10 (pc' := 5) (ls' := [(0, .ref B), (1, .int (iI a)), (2, .int (iI b))]) (st' := [.int (iI a), .ref (B + 2)]) rfl ?_
  refine T_ziald xr_10_5 hb2 (pc' := 6) rfl ?_
  refine T_p xr_10_6 xn_10 (pc' := 7) (ls' := [(0, .ref B), (1, .int (iI a)), (2, .int (iI b))]) (st' := [.int (iI b), .int (iI (lo a))]) rfl ?_
  refine T_cs xr_10_7 (by decide) xf_112.1 xn_112 (as := [.int (iI (lo a)), .int (iI b)]) (r := []) rfl (Nat.le_of_ble_eq_true rfl) (Nat.le_of_ble_eq_true rfl) (pc' := 10) rfl (ls' := [(0, .int (iI (lo a))), (1, .int (iI b))]) rfl ?_
  refine T_mono (c_hasBit sc S (lo a) b) (fun v255 S256 h254 => ?_)
  obtain ⟨h257, h258⟩ := h254
  rw [h257, h258]
  show X_T sc 10 (10, [(0, .ref B), (1, .int (iI a)), (2, .int (iI b))], [.int (iI (bI (X_bt (lo a) b)))], S) _
  refine T_iret xr_10_10 xf_10.2.2 (X_fit_b _) ?_
  refine hQ _ _ ?_
  exact ⟨rfl, rfl⟩
theorem c_isUnder (sc : X_Sc) (S : X_S) (B : Nat) (rc kc wc : Int) (rn : Int → Int64) (lo : Int → Int) (kn : Int → Int64) (ab : Int → Int) (a b : Int) (hb : C_bk S B rc kc wc rn lo kn ab) (ha : 0 ≤ a ∧ a < 11) : X_T sc 11 (0, [(0, .ref B), (1, .int (iI a)), (2, .int (iI b))], [], S) (fun v S' => v = some (.int (iI (bI (X_bt (ab a) b)))) ∧ S' = S) := by
  obtain ⟨hb0, hb1, hb2, hb3, hb4, ⟨f, hb5, hf⟩, ⟨hrc, hrcb⟩, ⟨hkc, hkcb⟩, ⟨hwc, hwcb⟩⟩ := id hb
  refine X_QI (fun Q hQ => ?_)
  refine T_p xr_11_0 xn_11 (pc' := 1) (ls' := [(0, .ref B), (1, .int (iI a)), (2, .int (iI b))]) (st' := [.ref B]) rfl ?_
  refine T_get xr_11_1 hb0 rfl (v := .ref (B + 4)) rfl (pc' := 4) rfl ?_
  refine T_p xr_11_4 xn_11 (pc' := 5) (ls' := [(0, .ref B), (1, .int (iI a)), (2, .int (iI b))]) (st' := [.int (iI a), .ref (B + 4)]) rfl ?_
  refine T_ziald xr_11_5 hb4 (pc' := 6) rfl ?_
  refine T_p xr_11_6 xn_11 (pc' := 7) (ls' := [(0, .ref B), (1, .int (iI a)), (2, .int (iI b))]) (st' := [.int (iI b), .int (iI (ab a))]) rfl ?_
  refine T_cs xr_11_7 (by decide) xf_112.1 xn_112 (as := [.int (iI (ab a)), .int (iI b)]) (r := []) rfl (Nat.le_of_ble_eq_true rfl) (Nat.le_of_ble_eq_true rfl) (pc' := 10) rfl (ls' := [(0, .int (iI (ab a))), (1, .int (iI b))]) rfl ?_
  refine T_mono (c_hasBit sc S (ab a) b) (fun v260 S261 h259 => ?_)
  obtain ⟨h262, h263⟩ := h259
  rw [h262, h263]
  show X_T sc 11 (10, [(0, .ref B), (1, .int (iI a)), (2, .int (iI b))], [.int (iI (bI (X_bt (ab a) b)))], S) _
  refine T_iret xr_11_10 xf_11.2.2 (X_fit_b _) ?_
  refine hQ _ _ ?_
  exact ⟨rfl, rfl⟩
theorem c_numberKind (sc : X_Sc) (S : X_S) (B : Nat) (rc kc wc : Int) (rn : Int → Int64) (lo : Int → Int) (kn : Int → Int64) (ab : Int → Int)  (hb : C_bk S B rc kc wc rn lo kn ab)  : X_T sc 12 (0, [(0, .ref B)], [], S) (fun v S' => v = some (.int (iI (bI (1 < kc)))) ∧ S' = S) := by
  obtain ⟨hb0, hb1, hb2, hb3, hb4, ⟨f, hb5, hf⟩, ⟨hrc, hrcb⟩, ⟨hkc, hkcb⟩, ⟨hwc, hwcb⟩⟩ := id hb
  refine X_QI (fun Q hQ => ?_)
  refine T_p xr_12_0 xn_12 (pc' := 1) (ls' := [(0, .ref B)]) (st' := [.ref B]) rfl ?_
  refine T_get xr_12_1 hb0 rfl (v := .int (iI kc)) rfl (pc' := 4) rfl ?_
  refine T_p xr_12_4 xn_12 (pc' := 5) (ls' := [(0, .ref B)]) (st' := [.int (iI 1), .int (iI kc)]) rfl ?_
  refine T_zicmp_le xr_12_5 (t := 12) (pc' := 8) rfl rfl (fun c264 => ?_) (fun c264 => ?_)
  · skip
    have c264 : kc ≤ 1 := c264
    refine T_p xr_12_12 xn_12 (pc' := 13) (ls' := [(0, .ref B)]) (st' := [.int (iI 0)]) rfl ?_
    refine T_iret xr_12_13 xf_12.2.2 rfl ?_
    refine hQ _ _ ?_
    exact ⟨by rw [bI_f (by omega)], rfl⟩
  · skip
    have c264 : ¬ (kc ≤ 1) := c264
    refine T_p xr_12_8 xn_12 (pc' := 9) (ls' := [(0, .ref B)]) (st' := [.int (iI 1)]) rfl ?_
    refine T_p xr_12_9 xn_12 (pc' := 13) (ls' := [(0, .ref B)]) (st' := [.int (iI 1)]) rfl ?_
    refine T_iret xr_12_13 xf_12.2.2 rfl ?_
    refine hQ _ _ ?_
    exact ⟨by rw [bI_t (by omega)], rfl⟩
