theorem xr_55_0 : X_row 55 0 = some (0, (.lload_n 0, 1), (0, 0, 0)) := by decide +kernel
theorem xr_55_1 : X_row 55 1 = some (1, (.ldc2_w 95, 3), (1918987883, 483, 0)) := by decide +kernel
theorem xr_55_4 : X_row 55 4 = some (4, (.lcmp, 1), (0, 0, 0)) := by decide +kernel
theorem xr_55_5 : X_row 55 5 = some (5, (.ifCond .eq 51, 3), (0, 0, 0)) := by decide +kernel
theorem xr_55_8 : X_row 55 8 = some (8, (.lload_n 0, 1), (0, 0, 0)) := by decide +kernel
theorem xr_55_9 : X_row 55 9 = some (9, (.ldc2_w 97, 3), (32766990153442674, 484, 0)) := by decide +kernel
theorem xr_55_12 : X_row 55 12 = some (12, (.lcmp, 1), (0, 0, 0)) := by decide +kernel
theorem xr_55_13 : X_row 55 13 = some (13, (.ifCond .eq 43, 3), (0, 0, 0)) := by decide +kernel
theorem xr_55_16 : X_row 55 16 = some (16, (.lload_n 0, 1), (0, 0, 0)) := by decide +kernel
theorem xr_55_17 : X_row 55 17 = some (17, (.ldc2_w 99, 3), (1802071652, 485, 0)) := by decide +kernel
theorem xr_55_20 : X_row 55 20 = some (20, (.lcmp, 1), (0, 0, 0)) := by decide +kernel
theorem xr_55_21 : X_row 55 21 = some (21, (.ifCond .eq 35, 3), (0, 0, 0)) := by decide +kernel
theorem xr_55_24 : X_row 55 24 = some (24, (.lload_n 0, 1), (0, 0, 0)) := by decide +kernel
theorem xr_55_25 : X_row 55 25 = some (25, (.ldc2_w 101, 3), (504363246962, 486, 0)) := by decide +kernel
theorem xr_55_28 : X_row 55 28 = some (28, (.lcmp, 1), (0, 0, 0)) := by decide +kernel
theorem xr_55_29 : X_row 55 29 = some (29, (.ifCond .eq 27, 3), (0, 0, 0)) := by decide +kernel
theorem xr_55_32 : X_row 55 32 = some (32, (.lload_n 0, 1), (0, 0, 0)) := by decide +kernel
theorem xr_55_33 : X_row 55 33 = some (33, (.ldc2_w 103, 3), (2003792484, 487, 0)) := by decide +kernel
theorem xr_55_36 : X_row 55 36 = some (36, (.lcmp, 1), (0, 0, 0)) := by decide +kernel
theorem xr_55_37 : X_row 55 37 = some (37, (.ifCond .eq 19, 3), (0, 0, 0)) := by decide +kernel
theorem xr_55_40 : X_row 55 40 = some (40, (.lload_n 0, 1), (0, 0, 0)) := by decide +kernel
theorem xr_55_41 : X_row 55 41 = some (41, (.ldc2_w 105, 3), (1818584692, 488, 0)) := by decide +kernel
theorem xr_55_44 : X_row 55 44 = some (44, (.lcmp, 1), (0, 0, 0)) := by decide +kernel
theorem xr_55_45 : X_row 55 45 = some (45, (.ifCond .eq 11, 3), (0, 0, 0)) := by decide +kernel
theorem xr_55_48 : X_row 55 48 = some (48, (.lload_n 0, 1), (0, 0, 0)) := by decide +kernel
theorem xr_55_49 : X_row 55 49 = some (49, (.ldc2_w 107, 3), (491394656372, 489, 0)) := by decide +kernel
theorem xr_55_52 : X_row 55 52 = some (52, (.lcmp, 1), (0, 0, 0)) := by decide +kernel
theorem xr_55_53 : X_row 55 53 = some (53, (.ifCond .ne 7, 3), (0, 0, 0)) := by decide +kernel
theorem xr_55_56 : X_row 55 56 = some (56, (.iconst 1, 1), (0, 0, 0)) := by decide +kernel
theorem xr_55_57 : X_row 55 57 = some (57, (.goto 4, 3), (0, 0, 0)) := by decide +kernel
theorem xr_55_60 : X_row 55 60 = some (60, (.iconst 0, 1), (0, 0, 0)) := by decide +kernel
theorem xr_55_61 : X_row 55 61 = some (61, (.ireturn, 1), (0, 0, 0)) := by decide +kernel
theorem xr_56_0 : X_row 56 0 = some (0, (.iload_n 0, 1), (0, 0, 0)) := by decide +kernel
theorem xr_56_1 : X_row 56 1 = some (1, (.bipush 97, 2), (0, 0, 0)) := by decide +kernel
theorem xr_56_3 : X_row 56 3 = some (3, (.if_icmp .lt 13, 3), (0, 0, 0)) := by decide +kernel
theorem xr_56_6 : X_row 56 6 = some (6, (.iload_n 0, 1), (0, 0, 0)) := by decide +kernel
theorem xr_56_7 : X_row 56 7 = some (7, (.bipush 122, 2), (0, 0, 0)) := by decide +kernel
theorem xr_56_9 : X_row 56 9 = some (9, (.if_icmp .gt 7, 3), (0, 0, 0)) := by decide +kernel
theorem xr_56_12 : X_row 56 12 = some (12, (.iconst 1, 1), (0, 0, 0)) := by decide +kernel
theorem xr_56_13 : X_row 56 13 = some (13, (.goto 4, 3), (0, 0, 0)) := by decide +kernel
theorem xr_56_16 : X_row 56 16 = some (16, (.iconst 0, 1), (0, 0, 0)) := by decide +kernel
theorem xr_56_17 : X_row 56 17 = some (17, (.ireturn, 1), (0, 0, 0)) := by decide +kernel
theorem xr_57_0 : X_row 57 0 = some (0, (.iload_n 0, 1), (0, 0, 0)) := by decide +kernel
theorem xr_57_1 : X_row 57 1 = some (1, (.invokestatic 60, 3), (56, 6, 0)) := by decide +kernel
theorem xr_57_4 : X_row 57 4 = some (4, (.ifCond .ne 10, 3), (0, 0, 0)) := by decide +kernel
theorem xr_57_7 : X_row 57 7 = some (7, (.iload_n 0, 1), (0, 0, 0)) := by decide +kernel
theorem xr_57_8 : X_row 57 8 = some (8, (.invokestatic 66, 3), (113, 13, 0)) := by decide +kernel
theorem xr_57_11 : X_row 57 11 = some (11, (.ifCond .eq 7, 3), (0, 0, 0)) := by decide +kernel
theorem xr_57_14 : X_row 57 14 = some (14, (.iconst 1, 1), (0, 0, 0)) := by decide +kernel
theorem xr_57_15 : X_row 57 15 = some (15, (.goto 4, 3), (0, 0, 0)) := by decide +kernel
theorem xr_57_18 : X_row 57 18 = some (18, (.iconst 0, 1), (0, 0, 0)) := by decide +kernel
theorem xr_57_19 : X_row 57 19 = some (19, (.ireturn, 1), (0, 0, 0)) := by decide +kernel
theorem xr_58_0 : X_row 58 0 = some (0, (.iload_n 0, 1), (0, 0, 0)) := by decide +kernel
theorem xr_58_1 : X_row 58 1 = some (1, (.bipush 33, 2), (0, 0, 0)) := by decide +kernel
theorem xr_58_3 : X_row 58 3 = some (3, (.if_icmp .lt 31, 3), (0, 0, 0)) := by decide +kernel
theorem xr_58_6 : X_row 58 6 = some (6, (.iload_n 0, 1), (0, 0, 0)) := by decide +kernel
theorem xr_58_7 : X_row 58 7 = some (7, (.bipush 126, 2), (0, 0, 0)) := by decide +kernel
theorem xr_58_9 : X_row 58 9 = some (9, (.if_icmp .gt 25, 3), (0, 0, 0)) := by decide +kernel
theorem xr_58_12 : X_row 58 12 = some (12, (.iload_n 0, 1), (0, 0, 0)) := by decide +kernel
theorem xr_58_13 : X_row 58 13 = some (13, (.bipush 34, 2), (0, 0, 0)) := by decide +kernel
theorem xr_58_15 : X_row 58 15 = some (15, (.if_icmp .eq 19, 3), (0, 0, 0)) := by decide +kernel
theorem xr_58_18 : X_row 58 18 = some (18, (.iload_n 0, 1), (0, 0, 0)) := by decide +kernel
theorem xr_58_19 : X_row 58 19 = some (19, (.bipush 40, 2), (0, 0, 0)) := by decide +kernel
theorem xr_58_21 : X_row 58 21 = some (21, (.if_icmp .eq 13, 3), (0, 0, 0)) := by decide +kernel
theorem xr_58_24 : X_row 58 24 = some (24, (.iload_n 0, 1), (0, 0, 0)) := by decide +kernel
theorem xr_58_25 : X_row 58 25 = some (25, (.bipush 41, 2), (0, 0, 0)) := by decide +kernel
theorem xr_58_27 : X_row 58 27 = some (27, (.if_icmp .eq 7, 3), (0, 0, 0)) := by decide +kernel
theorem xr_58_30 : X_row 58 30 = some (30, (.iconst 1, 1), (0, 0, 0)) := by decide +kernel
theorem xr_58_31 : X_row 58 31 = some (31, (.goto 4, 3), (0, 0, 0)) := by decide +kernel
theorem xr_58_34 : X_row 58 34 = some (34, (.iconst 0, 1), (0, 0, 0)) := by decide +kernel
theorem xr_58_35 : X_row 58 35 = some (35, (.ireturn, 1), (0, 0, 0)) := by decide +kernel
theorem xr_59_0 : X_row 59 0 = some (0, (.iload_n 0, 1), (0, 0, 0)) := by decide +kernel
theorem xr_59_1 : X_row 59 1 = some (1, (.lookupswitch 101 #[(37, 99), (42, 99), (43, 99), (45, 99), (47, 99), (58, 99), (59, 99), (60, 99), (61, 99), (64, 99), (95, 99)], 99), (0, 0, 0)) := by decide +kernel
theorem xr_59_100 : X_row 59 100 = some (100, (.iconst 1, 1), (0, 0, 0)) := by decide +kernel
theorem xr_59_101 : X_row 59 101 = some (101, (.ireturn, 1), (0, 0, 0)) := by decide +kernel
theorem xr_59_102 : X_row 59 102 = some (102, (.iconst 0, 1), (0, 0, 0)) := by decide +kernel
theorem xr_59_103 : X_row 59 103 = some (103, (.ireturn, 1), (0, 0, 0)) := by decide +kernel
theorem xr_87_0 : X_row 87 0 = some (0, (.bipush 24, 2), (0, 0, 0)) := by decide +kernel
theorem xr_87_2 : X_row 87 2 = some (2, (.istore_n 2, 1), (0, 0, 0)) := by decide +kernel
theorem xr_87_3 : X_row 87 3 = some (3, (.iload_n 2, 1), (0, 0, 0)) := by decide +kernel
theorem xr_87_4 : X_row 87 4 = some (4, (.ifCond .lt 42, 3), (0, 0, 0)) := by decide +kernel
theorem xr_87_7 : X_row 87 7 = some (7, (.aload_n 0, 1), (0, 0, 0)) := by decide +kernel
theorem xr_87_8 : X_row 87 8 = some (8, (.getfield 15, 3), (7, 1, 2)) := by decide +kernel
theorem xr_87_11 : X_row 87 11 = some (11, (.sipush 2000, 3), (0, 0, 0)) := by decide +kernel
theorem xr_87_14 : X_row 87 14 = some (14, (.if_icmp .ge 32, 3), (0, 0, 0)) := by decide +kernel
theorem xr_87_17 : X_row 87 17 = some (17, (.aload_n 0, 1), (0, 0, 0)) := by decide +kernel
theorem xr_87_18 : X_row 87 18 = some (18, (.getfield 9, 3), (7, 0, 0)) := by decide +kernel
theorem xr_87_21 : X_row 87 21 = some (21, (.aload_n 0, 1), (0, 0, 0)) := by decide +kernel
theorem xr_87_22 : X_row 87 22 = some (22, (.getfield 15, 3), (7, 1, 2)) := by decide +kernel
theorem xr_87_25 : X_row 87 25 = some (25, (.iload_n 1, 1), (0, 0, 0)) := by decide +kernel
theorem xr_87_26 : X_row 87 26 = some (26, (.iload_n 2, 1), (0, 0, 0)) := by decide +kernel
theorem xr_87_27 : X_row 87 27 = some (27, (.ishr, 1), (0, 0, 0)) := by decide +kernel
theorem xr_87_28 : X_row 87 28 = some (28, (.i2b, 1), (0, 0, 0)) := by decide +kernel
theorem xr_87_29 : X_row 87 29 = some (29, (.bastore, 1), (0, 0, 0)) := by decide +kernel
theorem xr_87_30 : X_row 87 30 = some (30, (.aload_n 0, 1), (0, 0, 0)) := by decide +kernel
theorem xr_87_31 : X_row 87 31 = some (31, (.dup, 1), (0, 0, 0)) := by decide +kernel
theorem xr_87_32 : X_row 87 32 = some (32, (.getfield 15, 3), (7, 1, 2)) := by decide +kernel
theorem xr_87_35 : X_row 87 35 = some (35, (.iconst 1, 1), (0, 0, 0)) := by decide +kernel
theorem xr_87_36 : X_row 87 36 = some (36, (.iadd, 1), (0, 0, 0)) := by decide +kernel
theorem xr_87_37 : X_row 87 37 = some (37, (.putfield 15, 3), (7, 1, 2)) := by decide +kernel
theorem xr_87_40 : X_row 87 40 = some (40, (.iinc 2 (-8), 3), (0, 0, 0)) := by decide +kernel
theorem xr_87_43 : X_row 87 43 = some (43, (.goto (-40), 3), (0, 0, 0)) := by decide +kernel
theorem xr_87_46 : X_row 87 46 = some (46, (.return_, 1), (0, 0, 0)) := by decide +kernel
theorem xr_88_0 : X_row 88 0 = some (0, (.iload_n 1, 1), (0, 0, 0)) := by decide +kernel
theorem xr_88_1 : X_row 88 1 = some (1, (.ifCond .lt 24, 3), (0, 0, 0)) := by decide +kernel
theorem xr_88_4 : X_row 88 4 = some (4, (.iload_n 1, 1), (0, 0, 0)) := by decide +kernel
theorem xr_88_5 : X_row 88 5 = some (5, (.aload_n 0, 1), (0, 0, 0)) := by decide +kernel
theorem xr_88_6 : X_row 88 6 = some (6, (.getfield 15, 3), (7, 1, 2)) := by decide +kernel
theorem xr_88_9 : X_row 88 9 = some (9, (.if_icmp .ge 16, 3), (0, 0, 0)) := by decide +kernel
theorem xr_88_12 : X_row 88 12 = some (12, (.aload_n 0, 1), (0, 0, 0)) := by decide +kernel
theorem xr_88_13 : X_row 88 13 = some (13, (.getfield 9, 3), (7, 0, 0)) := by decide +kernel
theorem xr_88_16 : X_row 88 16 = some (16, (.iload_n 1, 1), (0, 0, 0)) := by decide +kernel
theorem xr_88_17 : X_row 88 17 = some (17, (.baload, 1), (0, 0, 0)) := by decide +kernel
theorem xr_88_18 : X_row 88 18 = some (18, (.sipush 255, 3), (0, 0, 0)) := by decide +kernel
theorem xr_88_21 : X_row 88 21 = some (21, (.iand, 1), (0, 0, 0)) := by decide +kernel
theorem xr_88_22 : X_row 88 22 = some (22, (.goto 4, 3), (0, 0, 0)) := by decide +kernel
theorem xr_88_25 : X_row 88 25 = some (25, (.iconst (-1), 1), (0, 0, 0)) := by decide +kernel
theorem xr_88_26 : X_row 88 26 = some (26, (.ireturn, 1), (0, 0, 0)) := by decide +kernel
theorem xr_113_0 : X_row 113 0 = some (0, (.iload_n 0, 1), (0, 0, 0)) := by decide +kernel
theorem xr_113_1 : X_row 113 1 = some (1, (.bipush 48, 2), (0, 0, 0)) := by decide +kernel
theorem xr_113_3 : X_row 113 3 = some (3, (.if_icmp .lt 13, 3), (0, 0, 0)) := by decide +kernel
theorem xr_113_6 : X_row 113 6 = some (6, (.iload_n 0, 1), (0, 0, 0)) := by decide +kernel
theorem xr_113_7 : X_row 113 7 = some (7, (.bipush 57, 2), (0, 0, 0)) := by decide +kernel
theorem xr_113_9 : X_row 113 9 = some (9, (.if_icmp .gt 7, 3), (0, 0, 0)) := by decide +kernel
theorem xr_113_12 : X_row 113 12 = some (12, (.iconst 1, 1), (0, 0, 0)) := by decide +kernel
theorem xr_113_13 : X_row 113 13 = some (13, (.goto 4, 3), (0, 0, 0)) := by decide +kernel
theorem xr_113_16 : X_row 113 16 = some (16, (.iconst 0, 1), (0, 0, 0)) := by decide +kernel
theorem xr_113_17 : X_row 113 17 = some (17, (.ireturn, 1), (0, 0, 0)) := by decide +kernel
theorem xr_114_0 : X_row 114 0 = some (0, (.iload_n 0, 1), (0, 0, 0)) := by decide +kernel
theorem xr_114_1 : X_row 114 1 = some (1, (.bipush 32, 2), (0, 0, 0)) := by decide +kernel
theorem xr_114_3 : X_row 114 3 = some (3, (.if_icmp .eq 9, 3), (0, 0, 0)) := by decide +kernel
theorem xr_114_6 : X_row 114 6 = some (6, (.iload_n 0, 1), (0, 0, 0)) := by decide +kernel
theorem xr_114_7 : X_row 114 7 = some (7, (.bipush 10, 2), (0, 0, 0)) := by decide +kernel
theorem xr_114_9 : X_row 114 9 = some (9, (.if_icmp .ne 7, 3), (0, 0, 0)) := by decide +kernel
theorem xr_114_12 : X_row 114 12 = some (12, (.iconst 1, 1), (0, 0, 0)) := by decide +kernel
theorem xr_114_13 : X_row 114 13 = some (13, (.goto 4, 3), (0, 0, 0)) := by decide +kernel
theorem xr_114_16 : X_row 114 16 = some (16, (.iconst 0, 1), (0, 0, 0)) := by decide +kernel
theorem xr_114_17 : X_row 114 17 = some (17, (.ireturn, 1), (0, 0, 0)) := by decide +kernel
theorem xn_55 : X_nL 55 = 2 := by decide +kernel
theorem xf_55 : X_na 55 = 1 ∧ X_ci 55 = 3 ∧ X_rt 55 = (some .boolean) := by decide +kernel
theorem xn_56 : X_nL 56 = 1 := by decide +kernel
theorem xf_56 : X_na 56 = 1 ∧ X_ci 56 = 3 ∧ X_rt 56 = (some .boolean) := by decide +kernel
theorem xn_57 : X_nL 57 = 1 := by decide +kernel
theorem xf_57 : X_na 57 = 1 ∧ X_ci 57 = 3 ∧ X_rt 57 = (some .boolean) := by decide +kernel
theorem xn_58 : X_nL 58 = 1 := by decide +kernel
theorem xf_58 : X_na 58 = 1 ∧ X_ci 58 = 3 ∧ X_rt 58 = (some .boolean) := by decide +kernel
theorem xn_59 : X_nL 59 = 1 := by decide +kernel
theorem xf_59 : X_na 59 = 1 ∧ X_ci 59 = 3 ∧ X_rt 59 = (some .boolean) := by decide +kernel
theorem xn_87 : X_nL 87 = 3 := by decide +kernel
theorem xf_87 : X_na 87 = 1 ∧ X_ci 87 = 7 ∧ X_rt 87 = none := by decide +kernel
theorem xn_88 : X_nL 88 = 2 := by decide +kernel
theorem xf_88 : X_na 88 = 1 ∧ X_ci 88 = 7 ∧ X_rt 88 = (some .int) := by decide +kernel
theorem xn_113 : X_nL 113 = 1 := by decide +kernel
theorem xf_113 : X_na 113 = 1 ∧ X_ci 113 = 10 ∧ X_rt 113 = (some .boolean) := by decide +kernel
theorem xn_114 : X_nL 114 = 1 := by decide +kernel
theorem xf_114 : X_na 114 = 1 ∧ X_ci 114 = 10 ∧ X_rt 114 = (some .boolean) := by decide +kernel
theorem c_byteAt (sc : X_Sc) (S : X_S) (len pl : Int) (tb : Int → Int) (h2 : S.1 2 = .inr (7, [.ref 3, .int (iI len)])) (h3 : S.1 3 = .inl (.byte, 2000, .inl fun k : Nat => iI (tb (k : Int)))) (hl : 0 ≤ len ∧ len ≤ 2000) (hp : -2147483648 ≤ pl ∧ pl ≤ 2147483647) : X_T sc 88 (0, [(0, .ref 2), (1, .int (iI pl))], [], S) (fun v S' => v = some (.int (iI (X_at tb len pl))) ∧ S' = S) := by
  refine T_p xr_88_0 xn_88 (pc' := 1) (ls' := [(0, .ref 2), (1, .int (iI pl))]) (st' := [.int (iI pl)]) rfl ?_
  refine T_zif_lt xr_88_1 (t := 25) (pc' := 4) rfl rfl (fun c1 => ?_) (fun c1 => ?_)
  · skip
    have c1 : pl < 0 := c1
    refine T_p xr_88_25 xn_88 (pc' := 26) (ls' := [(0, .ref 2), (1, .int (iI pl))]) (st' := [.int (iI (-1))]) rfl ?_
    refine T_iret xr_88_26 xf_88.2.2 rfl ?_
    exact ⟨by rw [X_at_out (by omega)], rfl⟩
  · skip
    have c1 : ¬ (pl < 0) := c1
    refine T_p xr_88_4 xn_88 (pc' := 5) (ls' := [(0, .ref 2), (1, .int (iI pl))]) (st' := [.int (iI pl)]) rfl ?_
    refine T_p xr_88_5 xn_88 (pc' := 6) (ls' := [(0, .ref 2), (1, .int (iI pl))]) (st' := [.ref 2, .int (iI pl)]) rfl ?_
    refine T_get xr_88_6 h2 rfl (v := .int (iI len)) rfl (pc' := 9) rfl ?_
    refine T_zicmp_ge xr_88_9 (t := 25) (pc' := 12) rfl rfl (fun c2 => ?_) (fun c2 => ?_)
    · skip
      have c2 : len ≤ pl := c2
      refine T_p xr_88_25 xn_88 (pc' := 26) (ls' := [(0, .ref 2), (1, .int (iI pl))]) (st' := [.int (iI (-1))]) rfl ?_
      refine T_iret xr_88_26 xf_88.2.2 rfl ?_
      exact ⟨by rw [X_at_out (by omega)], rfl⟩
    · skip
      have c2 : ¬ (len ≤ pl) := c2
      refine T_p xr_88_12 xn_88 (pc' := 13) (ls' := [(0, .ref 2), (1, .int (iI pl))]) (st' := [.ref 2]) rfl ?_
      refine T_get xr_88_13 h2 rfl (v := .ref 3) rfl (pc' := 16) rfl ?_
      refine T_p xr_88_16 xn_88 (pc' := 17) (ls' := [(0, .ref 2), (1, .int (iI pl))]) (st' := [.int (iI pl), .ref 3]) rfl ?_
      refine T_zbald xr_88_17 h3 (pc' := 18) rfl ?_
      refine T_p xr_88_18 xn_88 (pc' := 21) (ls' := [(0, .ref 2), (1, .int (iI pl))]) (st' := [.int (iI 255), .int (iI (tb pl))]) rfl ?_
      refine T_zop xr_88_21 (pc' := 22) rfl (z := (tb pl) % 256) (iI_m255 _) ?_
      refine T_p xr_88_22 xn_88 (pc' := 26) (ls' := [(0, .ref 2), (1, .int (iI pl))]) (st' := [.int (iI ((tb pl) % 256))]) rfl ?_
      refine T_iret xr_88_26 xf_88.2.2 rfl ?_
      exact ⟨by rw [X_at_in (by omega)], rfl⟩
/-- four bytes behind what is there -/
def X_ap4 (tb : Int → Int) (len w : Int) : Int → Int := (X_ug (X_ug (X_ug (X_ug tb len (X_by (((iI ((iI w >>> (iI 24 &&& 31)).toInt)).toInt8.toInt32).toInt))) (len + 1) (X_by (((iI ((iI w >>> (iI 16 &&& 31)).toInt)).toInt8.toInt32).toInt))) (len + 2) (X_by (((iI ((iI w >>> (iI 8 &&& 31)).toInt)).toInt8.toInt32).toInt))) (len + 3) (X_by (((iI ((iI w >>> (iI 0 &&& 31)).toInt)).toInt8.toInt32).toInt)))
theorem c_append (sc : X_Sc) (S : X_S) (len w : Int) (tb : Int → Int) (h2 : S.1 2 = .inr (7, [.ref 3, .int (iI len)])) (h3 : S.1 3 = .inl (.byte, 2000, .inl fun k : Nat => iI (tb (k : Int)))) (hl : 0 ≤ len ∧ len + 4 ≤ 2000) :
    X_T sc 87 (0, [(0, .ref 2), (1, .int (iI w))], [], S) (fun v S' => v = none ∧ S'.1 2 = .inr (7, [.ref 3, .int (iI (len + 4))]) ∧ S'.1 3 = .inl (.byte, 2000, .inl fun k : Nat => iI (X_ap4 tb len w (k : Int))) ∧ X_Fr (fun r => r = 2 ∨ r = 3) S S') := by
  refine T_p xr_87_0 xn_87 (pc' := 2) (ls' := [(0, .ref 2), (1, .int (iI w))]) (st' := [.int (iI 24)]) rfl ?_
  refine T_p xr_87_2 xn_87 (pc' := 3) (ls' := [(2, .int (iI 24)), (0, .ref 2), (1, .int (iI w))]) (st' := []) rfl ?_
  refine T_p xr_87_3 xn_87 (pc' := 4) (ls' := [(2, .int (iI 24)), (0, .ref 2), (1, .int (iI w))]) (st' := [.int (iI 24)]) rfl ?_
  refine T_zif_ltf xr_87_4 (t := 46) (pc' := 7) rfl rfl (by decide) ?_
  refine T_p xr_87_7 xn_87 (pc' := 8) (ls' := [(2, .int (iI 24)), (0, .ref 2), (1, .int (iI w))]) (st' := [.ref 2]) rfl ?_
  refine T_get xr_87_8 h2 rfl (v := .int (iI len)) rfl (pc' := 11) rfl ?_
  refine T_p xr_87_11 xn_87 (pc' := 14) (ls' := [(2, .int (iI 24)), (0, .ref 2), (1, .int (iI w))]) (st' := [.int (iI 2000), .int (iI len)]) rfl ?_
  refine T_zicmp_ge xr_87_14 (t := 46) (pc' := 17) rfl rfl (fun c3 => ?_) (fun c3 => ?_)
  · skip
    have c3 : 2000 ≤ len := c3
    exact (show False by omega).elim
  · skip
    have c3 : ¬ (2000 ≤ len) := c3
    refine T_p xr_87_17 xn_87 (pc' := 18) (ls' := [(2, .int (iI 24)), (0, .ref 2), (1, .int (iI w))]) (st' := [.ref 2]) rfl ?_
    refine T_get xr_87_18 h2 rfl (v := .ref 3) rfl (pc' := 21) rfl ?_
    refine T_p xr_87_21 xn_87 (pc' := 22) (ls' := [(2, .int (iI 24)), (0, .ref 2), (1, .int (iI w))]) (st' := [.ref 2, .ref 3]) rfl ?_
    refine T_get xr_87_22 h2 rfl (v := .int (iI len)) rfl (pc' := 25) rfl ?_
    refine T_p xr_87_25 xn_87 (pc' := 26) (ls' := [(2, .int (iI 24)), (0, .ref 2), (1, .int (iI w))]) (st' := [.int (iI w), .int (iI len), .ref 3]) rfl ?_
    refine T_p xr_87_26 xn_87 (pc' := 27) (ls' := [(2, .int (iI 24)), (0, .ref 2), (1, .int (iI w))]) (st' := [.int (iI 24), .int (iI w), .int (iI len), .ref 3]) rfl ?_
    refine T_zop xr_87_27 (pc' := 28) rfl (z := (iI w >>> (iI 24 &&& 31)).toInt) (iI_of _) ?_
    refine T_zop xr_87_28 (pc' := 29) rfl (z := ((iI ((iI w >>> (iI 24 &&& 31)).toInt)).toInt8.toInt32).toInt) (iI_of _) ?_
    refine T_zbast xr_87_29 h3 (pc' := 30) rfl (fun S4 h5 n6 e7 => ?_)
    refine T_p xr_87_30 xn_87 (pc' := 31) (ls' := [(2, .int (iI 24)), (0, .ref 2), (1, .int (iI w))]) (st' := [.ref 2]) rfl ?_
    refine T_p xr_87_31 xn_87 (pc' := 32) (ls' := [(2, .int (iI 24)), (0, .ref 2), (1, .int (iI w))]) (st' := [.ref 2, .ref 2]) rfl ?_
    have h8 := (n6 2 (by decide)).trans (h2)
    refine T_get xr_87_32 h8 rfl (v := .int (iI len)) rfl (pc' := 35) rfl ?_
    refine T_p xr_87_35 xn_87 (pc' := 36) (ls' := [(2, .int (iI 24)), (0, .ref 2), (1, .int (iI w))]) (st' := [.int (iI 1), .int (iI len), .ref 2]) rfl ?_
    refine T_ziadd xr_87_36 (z := len + 1) rfl (pc' := 37) rfl ?_
    refine T_put xr_87_37 h8 rfl (Nat.le_of_ble_eq_true rfl) rfl (fs' := [.ref 3, .int (iI (len + 1))]) rfl (pc' := 40) rfl (fun S9 h10 n11 e12 => ?_)
    refine T_ziinc xr_87_40 xn_87 (a := 24) (z := 16) rfl (Nat.le_of_ble_eq_true rfl) rfl (ls' := [(2, .int (iI 16)), (0, .ref 2), (1, .int (iI w))]) rfl (pc' := 43) rfl ?_
    refine T_p xr_87_43 xn_87 (pc' := 3) (ls' := [(2, .int (iI 16)), (0, .ref 2), (1, .int (iI w))]) (st' := []) rfl ?_
    refine T_p xr_87_3 xn_87 (pc' := 4) (ls' := [(2, .int (iI 16)), (0, .ref 2), (1, .int (iI w))]) (st' := [.int (iI 16)]) rfl ?_
    refine T_zif_ltf xr_87_4 (t := 46) (pc' := 7) rfl rfl (by decide) ?_
    refine T_p xr_87_7 xn_87 (pc' := 8) (ls' := [(2, .int (iI 16)), (0, .ref 2), (1, .int (iI w))]) (st' := [.ref 2]) rfl ?_
    refine T_get xr_87_8 h10 rfl (v := .int (iI (len + 1))) rfl (pc' := 11) rfl ?_
    refine T_p xr_87_11 xn_87 (pc' := 14) (ls' := [(2, .int (iI 16)), (0, .ref 2), (1, .int (iI w))]) (st' := [.int (iI 2000), .int (iI (len + 1))]) rfl ?_
    refine T_zicmp_ge xr_87_14 (t := 46) (pc' := 17) rfl rfl (fun c13 => ?_) (fun c13 => ?_)
    · skip
      have c13 : 2000 ≤ (len + 1) := c13
      exact (show False by omega).elim
    · skip
      have c13 : ¬ (2000 ≤ (len + 1)) := c13
      refine T_p xr_87_17 xn_87 (pc' := 18) (ls' := [(2, .int (iI 16)), (0, .ref 2), (1, .int (iI w))]) (st' := [.ref 2]) rfl ?_
      refine T_get xr_87_18 h10 rfl (v := .ref 3) rfl (pc' := 21) rfl ?_
      refine T_p xr_87_21 xn_87 (pc' := 22) (ls' := [(2, .int (iI 16)), (0, .ref 2), (1, .int (iI w))]) (st' := [.ref 2, .ref 3]) rfl ?_
      refine T_get xr_87_22 h10 rfl (v := .int (iI (len + 1))) rfl (pc' := 25) rfl ?_
      refine T_p xr_87_25 xn_87 (pc' := 26) (ls' := [(2, .int (iI 16)), (0, .ref 2), (1, .int (iI w))]) (st' := [.int (iI w), .int (iI (len + 1)), .ref 3]) rfl ?_
      refine T_p xr_87_26 xn_87 (pc' := 27) (ls' := [(2, .int (iI 16)), (0, .ref 2), (1, .int (iI w))]) (st' := [.int (iI 16), .int (iI w), .int (iI (len + 1)), .ref 3]) rfl ?_
      refine T_zop xr_87_27 (pc' := 28) rfl (z := (iI w >>> (iI 16 &&& 31)).toInt) (iI_of _) ?_
      refine T_zop xr_87_28 (pc' := 29) rfl (z := ((iI ((iI w >>> (iI 16 &&& 31)).toInt)).toInt8.toInt32).toInt) (iI_of _) ?_
      have h14 := (n11 3 (by decide)).trans (h5)
      refine T_zbast xr_87_29 h14 (pc' := 30) rfl (fun S15 h16 n17 e18 => ?_)
      refine T_p xr_87_30 xn_87 (pc' := 31) (ls' := [(2, .int (iI 16)), (0, .ref 2), (1, .int (iI w))]) (st' := [.ref 2]) rfl ?_
      refine T_p xr_87_31 xn_87 (pc' := 32) (ls' := [(2, .int (iI 16)), (0, .ref 2), (1, .int (iI w))]) (st' := [.ref 2, .ref 2]) rfl ?_
      have h19 := (n17 2 (by decide)).trans (h10)
      refine T_get xr_87_32 h19 rfl (v := .int (iI (len + 1))) rfl (pc' := 35) rfl ?_
      refine T_p xr_87_35 xn_87 (pc' := 36) (ls' := [(2, .int (iI 16)), (0, .ref 2), (1, .int (iI w))]) (st' := [.int (iI 1), .int (iI (len + 1)), .ref 2]) rfl ?_
      refine T_ziadd xr_87_36 (z := len + 2) (by omega) (pc' := 37) rfl ?_
      refine T_put xr_87_37 h19 rfl (Nat.le_of_ble_eq_true rfl) rfl (fs' := [.ref 3, .int (iI (len + 2))]) rfl (pc' := 40) rfl (fun S20 h21 n22 e23 => ?_)
      refine T_ziinc xr_87_40 xn_87 (a := 16) (z := 8) rfl (Nat.le_of_ble_eq_true rfl) rfl (ls' := [(2, .int (iI 8)), (0, .ref 2), (1, .int (iI w))]) rfl (pc' := 43) rfl ?_
      refine T_p xr_87_43 xn_87 (pc' := 3) (ls' := [(2, .int (iI 8)), (0, .ref 2), (1, .int (iI w))]) (st' := []) rfl ?_
      refine T_p xr_87_3 xn_87 (pc' := 4) (ls' := [(2, .int (iI 8)), (0, .ref 2), (1, .int (iI w))]) (st' := [.int (iI 8)]) rfl ?_
      refine T_zif_ltf xr_87_4 (t := 46) (pc' := 7) rfl rfl (by decide) ?_
      refine T_p xr_87_7 xn_87 (pc' := 8) (ls' := [(2, .int (iI 8)), (0, .ref 2), (1, .int (iI w))]) (st' := [.ref 2]) rfl ?_
      refine T_get xr_87_8 h21 rfl (v := .int (iI (len + 2))) rfl (pc' := 11) rfl ?_
      refine T_p xr_87_11 xn_87 (pc' := 14) (ls' := [(2, .int (iI 8)), (0, .ref 2), (1, .int (iI w))]) (st' := [.int (iI 2000), .int (iI (len + 2))]) rfl ?_
      refine T_zicmp_ge xr_87_14 (t := 46) (pc' := 17) rfl rfl (fun c24 => ?_) (fun c24 => ?_)
      · skip
        have c24 : 2000 ≤ (len + 2) := c24
        exact (show False by omega).elim
      · skip
        have c24 : ¬ (2000 ≤ (len + 2)) := c24
        refine T_p xr_87_17 xn_87 (pc' := 18) (ls' := [(2, .int (iI 8)), (0, .ref 2), (1, .int (iI w))]) (st' := [.ref 2]) rfl ?_
        refine T_get xr_87_18 h21 rfl (v := .ref 3) rfl (pc' := 21) rfl ?_
        refine T_p xr_87_21 xn_87 (pc' := 22) (ls' := [(2, .int (iI 8)), (0, .ref 2), (1, .int (iI w))]) (st' := [.ref 2, .ref 3]) rfl ?_
        refine T_get xr_87_22 h21 rfl (v := .int (iI (len + 2))) rfl (pc' := 25) rfl ?_
        refine T_p xr_87_25 xn_87 (pc' := 26) (ls' := [(2, .int (iI 8)), (0, .ref 2), (1, .int (iI w))]) (st' := [.int (iI w), .int (iI (len + 2)), .ref 3]) rfl ?_
        refine T_p xr_87_26 xn_87 (pc' := 27) (ls' := [(2, .int (iI 8)), (0, .ref 2), (1, .int (iI w))]) (st' := [.int (iI 8), .int (iI w), .int (iI (len + 2)), .ref 3]) rfl ?_
        refine T_zop xr_87_27 (pc' := 28) rfl (z := (iI w >>> (iI 8 &&& 31)).toInt) (iI_of _) ?_
        refine T_zop xr_87_28 (pc' := 29) rfl (z := ((iI ((iI w >>> (iI 8 &&& 31)).toInt)).toInt8.toInt32).toInt) (iI_of _) ?_
        have h25 := (n22 3 (by decide)).trans (h16)
        refine T_zbast xr_87_29 h25 (pc' := 30) rfl (fun S26 h27 n28 e29 => ?_)
        refine T_p xr_87_30 xn_87 (pc' := 31) (ls' := [(2, .int (iI 8)), (0, .ref 2), (1, .int (iI w))]) (st' := [.ref 2]) rfl ?_
        refine T_p xr_87_31 xn_87 (pc' := 32) (ls' := [(2, .int (iI 8)), (0, .ref 2), (1, .int (iI w))]) (st' := [.ref 2, .ref 2]) rfl ?_
        have h30 := (n28 2 (by decide)).trans (h21)
        refine T_get xr_87_32 h30 rfl (v := .int (iI (len + 2))) rfl (pc' := 35) rfl ?_
        refine T_p xr_87_35 xn_87 (pc' := 36) (ls' := [(2, .int (iI 8)), (0, .ref 2), (1, .int (iI w))]) (st' := [.int (iI 1), .int (iI (len + 2)), .ref 2]) rfl ?_
        refine T_ziadd xr_87_36 (z := len + 3) (by omega) (pc' := 37) rfl ?_
        refine T_put xr_87_37 h30 rfl (Nat.le_of_ble_eq_true rfl) rfl (fs' := [.ref 3, .int (iI (len + 3))]) rfl (pc' := 40) rfl (fun S31 h32 n33 e34 => ?_)
        refine T_ziinc xr_87_40 xn_87 (a := 8) (z := 0) rfl (Nat.le_of_ble_eq_true rfl) rfl (ls' := [(2, .int (iI 0)), (0, .ref 2), (1, .int (iI w))]) rfl (pc' := 43) rfl ?_
        refine T_p xr_87_43 xn_87 (pc' := 3) (ls' := [(2, .int (iI 0)), (0, .ref 2), (1, .int (iI w))]) (st' := []) rfl ?_
        refine T_p xr_87_3 xn_87 (pc' := 4) (ls' := [(2, .int (iI 0)), (0, .ref 2), (1, .int (iI w))]) (st' := [.int (iI 0)]) rfl ?_
        refine T_zif_ltf xr_87_4 (t := 46) (pc' := 7) rfl rfl (by decide) ?_
        refine T_p xr_87_7 xn_87 (pc' := 8) (ls' := [(2, .int (iI 0)), (0, .ref 2), (1, .int (iI w))]) (st' := [.ref 2]) rfl ?_
        refine T_get xr_87_8 h32 rfl (v := .int (iI (len + 3))) rfl (pc' := 11) rfl ?_
        refine T_p xr_87_11 xn_87 (pc' := 14) (ls' := [(2, .int (iI 0)), (0, .ref 2), (1, .int (iI w))]) (st' := [.int (iI 2000), .int (iI (len + 3))]) rfl ?_
        refine T_zicmp_ge xr_87_14 (t := 46) (pc' := 17) rfl rfl (fun c35 => ?_) (fun c35 => ?_)
        · skip
          have c35 : 2000 ≤ (len + 3) := c35
          exact (show False by omega).elim
        · skip
          have c35 : ¬ (2000 ≤ (len + 3)) := c35
          refine T_p xr_87_17 xn_87 (pc' := 18) (ls' := [(2, .int (iI 0)), (0, .ref 2), (1, .int (iI w))]) (st' := [.ref 2]) rfl ?_
          refine T_get xr_87_18 h32 rfl (v := .ref 3) rfl (pc' := 21) rfl ?_
          refine T_p xr_87_21 xn_87 (pc' := 22) (ls' := [(2, .int (iI 0)), (0, .ref 2), (1, .int (iI w))]) (st' := [.ref 2, .ref 3]) rfl ?_
          refine T_get xr_87_22 h32 rfl (v := .int (iI (len + 3))) rfl (pc' := 25) rfl ?_
          refine T_p xr_87_25 xn_87 (pc' := 26) (ls' := [(2, .int (iI 0)), (0, .ref 2), (1, .int (iI w))]) (st' := [.int (iI w), .int (iI (len + 3)), .ref 3]) rfl ?_
          refine T_p xr_87_26 xn_87 (pc' := 27) (ls' := [(2, .int (iI 0)), (0, .ref 2), (1, .int (iI w))]) (st' := [.int (iI 0), .int (iI w), .int (iI (len + 3)), .ref 3]) rfl ?_
          refine T_zop xr_87_27 (pc' := 28) rfl (z := (iI w >>> (iI 0 &&& 31)).toInt) (iI_of _) ?_
          refine T_zop xr_87_28 (pc' := 29) rfl (z := ((iI ((iI w >>> (iI 0 &&& 31)).toInt)).toInt8.toInt32).toInt) (iI_of _) ?_
          have h36 := (n33 3 (by decide)).trans (h27)
          refine T_zbast xr_87_29 h36 (pc' := 30) rfl (fun S37 h38 n39 e40 => ?_)
          refine T_p xr_87_30 xn_87 (pc' := 31) (ls' := [(2, .int (iI 0)), (0, .ref 2), (1, .int (iI w))]) (st' := [.ref 2]) rfl ?_
          refine T_p xr_87_31 xn_87 (pc' := 32) (ls' := [(2, .int (iI 0)), (0, .ref 2), (1, .int (iI w))]) (st' := [.ref 2, .ref 2]) rfl ?_
          have h41 := (n39 2 (by decide)).trans (h32)
          refine T_get xr_87_32 h41 rfl (v := .int (iI (len + 3))) rfl (pc' := 35) rfl ?_
          refine T_p xr_87_35 xn_87 (pc' := 36) (ls' := [(2, .int (iI 0)), (0, .ref 2), (1, .int (iI w))]) (st' := [.int (iI 1), .int (iI (len + 3)), .ref 2]) rfl ?_
          refine T_ziadd xr_87_36 (z := len + 4) (by omega) (pc' := 37) rfl ?_
          refine T_put xr_87_37 h41 rfl (Nat.le_of_ble_eq_true rfl) rfl (fs' := [.ref 3, .int (iI (len + 4))]) rfl (pc' := 40) rfl (fun S42 h43 n44 e45 => ?_)
          refine T_ziinc xr_87_40 xn_87 (a := 0) (z := (-8)) rfl (Nat.le_of_ble_eq_true rfl) rfl (ls' := [(2, .int (iI (-8))), (0, .ref 2), (1, .int (iI w))]) rfl (pc' := 43) rfl ?_
          refine T_p xr_87_43 xn_87 (pc' := 3) (ls' := [(2, .int (iI (-8))), (0, .ref 2), (1, .int (iI w))]) (st' := []) rfl ?_
          refine T_p xr_87_3 xn_87 (pc' := 4) (ls' := [(2, .int (iI (-8))), (0, .ref 2), (1, .int (iI w))]) (st' := [.int (iI (-8))]) rfl ?_
          refine T_zif_ltt xr_87_4 (t := 46) rfl (by decide) ?_
          refine T_vret xr_87_46 xf_87.2.2 ?_
          have h46 := (n44 3 (by decide)).trans (h38)
          exact ⟨rfl, h43, h46, ((((((((X_Fr.rf).tr (X_Fr.of n6 e7 (by omega))).tr (X_Fr.of n11 e12 (by omega))).tr (X_Fr.of n17 e18 (by omega))).tr (X_Fr.of n22 e23 (by omega))).tr (X_Fr.of n28 e29 (by omega))).tr (X_Fr.of n33 e34 (by omega))).tr (X_Fr.of n39 e40 (by omega))).tr (X_Fr.of n44 e45 (by omega))⟩
theorem c_isDigit (sc : X_Sc) (S : X_S) (c : Int) (hc : -1 ≤ c ∧ c ≤ 255) : X_T sc 113 (0, [(0, .int (iI c))], [], S) (fun v S' => v = some (.int (iI (bI (X_isD c)))) ∧ S' = S) := by
  refine T_p xr_113_0 xn_113 (pc' := 1) (ls' := [(0, .int (iI c))]) (st' := [.int (iI c)]) rfl ?_
  refine T_p xr_113_1 xn_113 (pc' := 3) (ls' := [(0, .int (iI c))]) (st' := [.int (iI 48), .int (iI c)]) rfl ?_
  refine T_zicmp_lt xr_113_3 (t := 16) (pc' := 6) rfl rfl (fun c47 => ?_) (fun c47 => ?_)
  · skip
    have c47 : c < 48 := c47
    refine T_p xr_113_16 xn_113 (pc' := 17) (ls' := [(0, .int (iI c))]) (st' := [.int (iI 0)]) rfl ?_
    refine T_iret xr_113_17 xf_113.2.2 (by decide) ?_
    exact ⟨by rw [bI_f (by unfold X_isD; omega)], rfl⟩
  · skip
    have c47 : ¬ (c < 48) := c47
    refine T_p xr_113_6 xn_113 (pc' := 7) (ls' := [(0, .int (iI c))]) (st' := [.int (iI c)]) rfl ?_
    refine T_p xr_113_7 xn_113 (pc' := 9) (ls' := [(0, .int (iI c))]) (st' := [.int (iI 57), .int (iI c)]) rfl ?_
    refine T_zicmp_gt xr_113_9 (t := 16) (pc' := 12) rfl rfl (fun c48 => ?_) (fun c48 => ?_)
    · skip
      have c48 : 57 < c := c48
      refine T_p xr_113_16 xn_113 (pc' := 17) (ls' := [(0, .int (iI c))]) (st' := [.int (iI 0)]) rfl ?_
      refine T_iret xr_113_17 xf_113.2.2 (by decide) ?_
      exact ⟨by rw [bI_f (by unfold X_isD; omega)], rfl⟩
    · skip
      have c48 : ¬ (57 < c) := c48
      refine T_p xr_113_12 xn_113 (pc' := 13) (ls' := [(0, .int (iI c))]) (st' := [.int (iI 1)]) rfl ?_
      refine T_p xr_113_13 xn_113 (pc' := 17) (ls' := [(0, .int (iI c))]) (st' := [.int (iI 1)]) rfl ?_
      refine T_iret xr_113_17 xf_113.2.2 (by decide) ?_
      exact ⟨by rw [bI_t (by unfold X_isD; omega)], rfl⟩
theorem c_isBlank (sc : X_Sc) (S : X_S) (c : Int) (hc : -1 ≤ c ∧ c ≤ 255) : X_T sc 114 (0, [(0, .int (iI c))], [], S) (fun v S' => v = some (.int (iI (bI (X_isBl c)))) ∧ S' = S) := by
  refine T_p xr_114_0 xn_114 (pc' := 1) (ls' := [(0, .int (iI c))]) (st' := [.int (iI c)]) rfl ?_
  refine T_p xr_114_1 xn_114 (pc' := 3) (ls' := [(0, .int (iI c))]) (st' := [.int (iI 32), .int (iI c)]) rfl ?_
  refine T_zicmp_eq xr_114_3 (t := 12) (pc' := 6) rfl rfl (fun c49 => ?_) (fun c49 => ?_)
  · skip
    have c49 : c = 32 := c49
    refine T_p xr_114_12 xn_114 (pc' := 13) (ls' := [(0, .int (iI c))]) (st' := [.int (iI 1)]) rfl ?_
    refine T_p xr_114_13 xn_114 (pc' := 17) (ls' := [(0, .int (iI c))]) (st' := [.int (iI 1)]) rfl ?_
    refine T_iret xr_114_17 xf_114.2.2 (by decide) ?_
    exact ⟨by rw [bI_t (by unfold X_isBl; omega)], rfl⟩
  · skip
    have c49 : ¬ (c = 32) := c49
    refine T_p xr_114_6 xn_114 (pc' := 7) (ls' := [(0, .int (iI c))]) (st' := [.int (iI c)]) rfl ?_
    refine T_p xr_114_7 xn_114 (pc' := 9) (ls' := [(0, .int (iI c))]) (st' := [.int (iI 10), .int (iI c)]) rfl ?_
    refine T_zicmp_ne xr_114_9 (t := 16) (pc' := 12) rfl rfl (fun c50 => ?_) (fun c50 => ?_)
    · skip
      have c50 : ¬ c = 10 := c50
      refine T_p xr_114_16 xn_114 (pc' := 17) (ls' := [(0, .int (iI c))]) (st' := [.int (iI 0)]) rfl ?_
      refine T_iret xr_114_17 xf_114.2.2 (by decide) ?_
      exact ⟨by rw [bI_f (by unfold X_isBl; omega)], rfl⟩
    · skip
      have c50 : ¬ (¬ c = 10) := c50
      refine T_p xr_114_12 xn_114 (pc' := 13) (ls' := [(0, .int (iI c))]) (st' := [.int (iI 1)]) rfl ?_
      refine T_p xr_114_13 xn_114 (pc' := 17) (ls' := [(0, .int (iI c))]) (st' := [.int (iI 1)]) rfl ?_
      refine T_iret xr_114_17 xf_114.2.2 (by decide) ?_
      exact ⟨by rw [bI_t (by unfold X_isBl; omega)], rfl⟩
theorem c_isLetter (sc : X_Sc) (S : X_S) (c : Int) (hc : -1 ≤ c ∧ c ≤ 255) : X_T sc 56 (0, [(0, .int (iI c))], [], S) (fun v S' => v = some (.int (iI (bI (X_isL c)))) ∧ S' = S) := by
  refine T_p xr_56_0 xn_56 (pc' := 1) (ls' := [(0, .int (iI c))]) (st' := [.int (iI c)]) rfl ?_
  refine T_p xr_56_1 xn_56 (pc' := 3) (ls' := [(0, .int (iI c))]) (st' := [.int (iI 97), .int (iI c)]) rfl ?_
  refine T_zicmp_lt xr_56_3 (t := 16) (pc' := 6) rfl rfl (fun c51 => ?_) (fun c51 => ?_)
  · skip
    have c51 : c < 97 := c51
    refine T_p xr_56_16 xn_56 (pc' := 17) (ls' := [(0, .int (iI c))]) (st' := [.int (iI 0)]) rfl ?_
    refine T_iret xr_56_17 xf_56.2.2 (by decide) ?_
    exact ⟨by rw [bI_f (by unfold X_isL; omega)], rfl⟩
  · skip
    have c51 : ¬ (c < 97) := c51
    refine T_p xr_56_6 xn_56 (pc' := 7) (ls' := [(0, .int (iI c))]) (st' := [.int (iI c)]) rfl ?_
    refine T_p xr_56_7 xn_56 (pc' := 9) (ls' := [(0, .int (iI c))]) (st' := [.int (iI 122), .int (iI c)]) rfl ?_
    refine T_zicmp_gt xr_56_9 (t := 16) (pc' := 12) rfl rfl (fun c52 => ?_) (fun c52 => ?_)
    · skip
      have c52 : 122 < c := c52
      refine T_p xr_56_16 xn_56 (pc' := 17) (ls' := [(0, .int (iI c))]) (st' := [.int (iI 0)]) rfl ?_
      refine T_iret xr_56_17 xf_56.2.2 (by decide) ?_
      exact ⟨by rw [bI_f (by unfold X_isL; omega)], rfl⟩
    · skip
      have c52 : ¬ (122 < c) := c52
      refine T_p xr_56_12 xn_56 (pc' := 13) (ls' := [(0, .int (iI c))]) (st' := [.int (iI 1)]) rfl ?_
      refine T_p xr_56_13 xn_56 (pc' := 17) (ls' := [(0, .int (iI c))]) (st' := [.int (iI 1)]) rfl ?_
      refine T_iret xr_56_17 xf_56.2.2 (by decide) ?_
      exact ⟨by rw [bI_t (by unfold X_isL; omega)], rfl⟩
theorem c_isLD (sc : X_Sc) (S : X_S) (c : Int) (hc : -1 ≤ c ∧ c ≤ 255) : X_T sc 57 (0, [(0, .int (iI c))], [], S) (fun v S' => v = some (.int (iI (bI (X_isLD c)))) ∧ S' = S) := by
  refine T_p xr_57_0 xn_57 (pc' := 1) (ls' := [(0, .int (iI c))]) (st' := [.int (iI c)]) rfl ?_
  refine T_cs xr_57_1 (by decide) xf_56.1 xn_56 (as := [.int (iI c)]) (r := []) rfl (Nat.le_of_ble_eq_true rfl) (Nat.le_of_ble_eq_true rfl) (pc' := 4) rfl (ls' := [(0, .int (iI c))]) rfl ?_
  refine T_mono (c_isLetter sc S c (by omega)) (fun v54 S55 h53 => ?_)
  obtain ⟨h56, h57⟩ := h53
  rw [h56, h57]
  show X_T sc 57 (4, [(0, .int (iI c))], [.int (iI (bI (X_isL c)))], S) _
  refine T_bif_ne xr_57_4 (t := 14) (pc' := 7) rfl rfl (fun c58 => ?_) (fun c58 => ?_)
  · skip
    have c58 : (X_isL c) := c58
    refine T_p xr_57_14 xn_57 (pc' := 15) (ls' := [(0, .int (iI c))]) (st' := [.int (iI 1)]) rfl ?_
    refine T_p xr_57_15 xn_57 (pc' := 19) (ls' := [(0, .int (iI c))]) (st' := [.int (iI 1)]) rfl ?_
    refine T_iret xr_57_19 xf_57.2.2 (by decide) ?_
    exact ⟨by rw [bI_t (by unfold X_isLD; first | exact Or.inl (by assumption) | exact Or.inr (by assumption) | (rintro (h | h) <;> contradiction))], rfl⟩
  · skip
    have c58 : ¬ (X_isL c) := c58
    refine T_p xr_57_7 xn_57 (pc' := 8) (ls' := [(0, .int (iI c))]) (st' := [.int (iI c)]) rfl ?_
    refine T_cs xr_57_8 (by decide) xf_113.1 xn_113 (as := [.int (iI c)]) (r := []) rfl (Nat.le_of_ble_eq_true rfl) (Nat.le_of_ble_eq_true rfl) (pc' := 11) rfl (ls' := [(0, .int (iI c))]) rfl ?_
    refine T_mono (c_isDigit sc S c (by omega)) (fun v60 S61 h59 => ?_)
    obtain ⟨h62, h63⟩ := h59
    rw [h62, h63]
    show X_T sc 57 (11, [(0, .int (iI c))], [.int (iI (bI (X_isD c)))], S) _
    refine T_bif_eq xr_57_11 (t := 18) (pc' := 14) rfl rfl (fun c64 => ?_) (fun c64 => ?_)
    · skip
      have c64 : ¬ (X_isD c) := c64
      refine T_p xr_57_18 xn_57 (pc' := 19) (ls' := [(0, .int (iI c))]) (st' := [.int (iI 0)]) rfl ?_
      refine T_iret xr_57_19 xf_57.2.2 (by decide) ?_
      exact ⟨by rw [bI_f (by unfold X_isLD; first | exact Or.inl (by assumption) | exact Or.inr (by assumption) | (rintro (h | h) <;> contradiction))], rfl⟩
    · skip
      have c64 : (X_isD c) := c64
      refine T_p xr_57_14 xn_57 (pc' := 15) (ls' := [(0, .int (iI c))]) (st' := [.int (iI 1)]) rfl ?_
      refine T_p xr_57_15 xn_57 (pc' := 19) (ls' := [(0, .int (iI c))]) (st' := [.int (iI 1)]) rfl ?_
      refine T_iret xr_57_19 xf_57.2.2 (by decide) ?_
      exact ⟨by rw [bI_t (by unfold X_isLD; first | exact Or.inl (by assumption) | exact Or.inr (by assumption) | (rintro (h | h) <;> contradiction))], rfl⟩
theorem c_isPB (sc : X_Sc) (S : X_S) (c : Int) (hc : -1 ≤ c ∧ c ≤ 255) : X_T sc 58 (0, [(0, .int (iI c))], [], S) (fun v S' => v = some (.int (iI (bI (X_isPB c)))) ∧ S' = S) := by
  refine T_p xr_58_0 xn_58 (pc' := 1) (ls' := [(0, .int (iI c))]) (st' := [.int (iI c)]) rfl ?_
  refine T_p xr_58_1 xn_58 (pc' := 3) (ls' := [(0, .int (iI c))]) (st' := [.int (iI 33), .int (iI c)]) rfl ?_
  refine T_zicmp_lt xr_58_3 (t := 34) (pc' := 6) rfl rfl (fun c65 => ?_) (fun c65 => ?_)
  · skip
    have c65 : c < 33 := c65
    refine T_p xr_58_34 xn_58 (pc' := 35) (ls' := [(0, .int (iI c))]) (st' := [.int (iI 0)]) rfl ?_
    refine T_iret xr_58_35 xf_58.2.2 (by decide) ?_
    exact ⟨by rw [bI_f (by unfold X_isPB; omega)], rfl⟩
  · skip
    have c65 : ¬ (c < 33) := c65
    refine T_p xr_58_6 xn_58 (pc' := 7) (ls' := [(0, .int (iI c))]) (st' := [.int (iI c)]) rfl ?_
    refine T_p xr_58_7 xn_58 (pc' := 9) (ls' := [(0, .int (iI c))]) (st' := [.int (iI 126), .int (iI c)]) rfl ?_
    refine T_zicmp_gt xr_58_9 (t := 34) (pc' := 12) rfl rfl (fun c66 => ?_) (fun c66 => ?_)
    · skip
      have c66 : 126 < c := c66
      refine T_p xr_58_34 xn_58 (pc' := 35) (ls' := [(0, .int (iI c))]) (st' := [.int (iI 0)]) rfl ?_
      refine T_iret xr_58_35 xf_58.2.2 (by decide) ?_
      exact ⟨by rw [bI_f (by unfold X_isPB; omega)], rfl⟩
    · skip
      have c66 : ¬ (126 < c) := c66
      refine T_p xr_58_12 xn_58 (pc' := 13) (ls' := [(0, .int (iI c))]) (st' := [.int (iI c)]) rfl ?_
      refine T_p xr_58_13 xn_58 (pc' := 15) (ls' := [(0, .int (iI c))]) (st' := [.int (iI 34), .int (iI c)]) rfl ?_
      refine T_zicmp_eq xr_58_15 (t := 34) (pc' := 18) rfl rfl (fun c67 => ?_) (fun c67 => ?_)
      · skip
        have c67 : c = 34 := c67
        refine T_p xr_58_34 xn_58 (pc' := 35) (ls' := [(0, .int (iI c))]) (st' := [.int (iI 0)]) rfl ?_
        refine T_iret xr_58_35 xf_58.2.2 (by decide) ?_
        exact ⟨by rw [bI_f (by unfold X_isPB; omega)], rfl⟩
      · skip
        have c67 : ¬ (c = 34) := c67
        refine T_p xr_58_18 xn_58 (pc' := 19) (ls' := [(0, .int (iI c))]) (st' := [.int (iI c)]) rfl ?_
        refine T_p xr_58_19 xn_58 (pc' := 21) (ls' := [(0, .int (iI c))]) (st' := [.int (iI 40), .int (iI c)]) rfl ?_
        refine T_zicmp_eq xr_58_21 (t := 34) (pc' := 24) rfl rfl (fun c68 => ?_) (fun c68 => ?_)
        · skip
          have c68 : c = 40 := c68
          refine T_p xr_58_34 xn_58 (pc' := 35) (ls' := [(0, .int (iI c))]) (st' := [.int (iI 0)]) rfl ?_
          refine T_iret xr_58_35 xf_58.2.2 (by decide) ?_
          exact ⟨by rw [bI_f (by unfold X_isPB; omega)], rfl⟩
        · skip
          have c68 : ¬ (c = 40) := c68
          refine T_p xr_58_24 xn_58 (pc' := 25) (ls' := [(0, .int (iI c))]) (st' := [.int (iI c)]) rfl ?_
          refine T_p xr_58_25 xn_58 (pc' := 27) (ls' := [(0, .int (iI c))]) (st' := [.int (iI 41), .int (iI c)]) rfl ?_
          refine T_zicmp_eq xr_58_27 (t := 34) (pc' := 30) rfl rfl (fun c69 => ?_) (fun c69 => ?_)
          · skip
            have c69 : c = 41 := c69
            refine T_p xr_58_34 xn_58 (pc' := 35) (ls' := [(0, .int (iI c))]) (st' := [.int (iI 0)]) rfl ?_
            refine T_iret xr_58_35 xf_58.2.2 (by decide) ?_
            exact ⟨by rw [bI_f (by unfold X_isPB; omega)], rfl⟩
          · skip
            have c69 : ¬ (c = 41) := c69
            refine T_p xr_58_30 xn_58 (pc' := 31) (ls' := [(0, .int (iI c))]) (st' := [.int (iI 1)]) rfl ?_
            refine T_p xr_58_31 xn_58 (pc' := 35) (ls' := [(0, .int (iI c))]) (st' := [.int (iI 1)]) rfl ?_
            refine T_iret xr_58_35 xf_58.2.2 (by decide) ?_
            exact ⟨by rw [bI_t (by unfold X_isPB; omega)], rfl⟩
theorem c_isSign (sc : X_Sc) (S : X_S) (c : Int) (hc : -1 ≤ c ∧ c ≤ 255) : X_T sc 59 (0, [(0, .int (iI c))], [], S) (fun v S' => v = some (.int (iI (bI (X_isSg c)))) ∧ S' = S) := by
  refine T_p xr_59_0 xn_59 (pc' := 1) (ls' := [(0, .int (iI c))]) (st' := [.int (iI c)]) rfl ?_
  have hct : (iI c).toInt = c := iI_t (by omega) (by omega)
  by_cases h : X_isSg c
  · refine T_p xr_59_1 xn_59 (pc' := 100) (ls' := [(0, .int (iI c))]) (st' := []) ?_ ?_
    · have e : X_tg 1 (Op.lookupswitch.offset [(37, 99), (42, 99), (43, 99), (45, 99), (47, 99), (58, 99), (59, 99), (60, 99), (61, 99), (64, 99), (95, 99)] 101 c) = some 100 := by
        unfold X_isSg at h
        rcases h with h | h | h | h | h | h | h | h | h | h | h <;> subst h <;> rfl
      simp only [X_pstep, hct]
      rw [e]
    · refine T_p xr_59_100 xn_59 (pc' := 101) (ls' := [(0, .int (iI c))]) (st' := [.int (iI 1)]) rfl ?_
      exact T_iret xr_59_101 xf_59.2.2 (by decide) ⟨by rw [bI_t h], rfl⟩
  · refine T_p xr_59_1 xn_59 (pc' := 102) (ls' := [(0, .int (iI c))]) (st' := []) ?_ ?_
    · have e : X_tg 1 (Op.lookupswitch.offset [(37, 99), (42, 99), (43, 99), (45, 99), (47, 99), (58, 99), (59, 99), (60, 99), (61, 99), (64, 99), (95, 99)] 101 c) = some 102 := by
        unfold X_isSg at h
        simp only [not_or] at h
        obtain ⟨a1, a2, a3, a4, a5, a6, a7, a8, a9, a10, a11⟩ := h
        simp only [Op.lookupswitch.offset]
        rw [if_neg (by omega), if_neg (by omega), if_neg (by omega), if_neg (by omega), if_neg (by omega), if_neg (by omega), if_neg (by omega), if_neg (by omega), if_neg (by omega), if_neg (by omega), if_neg (by omega)]
        rfl
      simp only [X_pstep, hct]
      rw [e]
    · refine T_p xr_59_102 xn_59 (pc' := 103) (ls' := [(0, .int (iI c))]) (st' := [.int (iI 0)]) rfl ?_
      exact T_iret xr_59_103 xf_59.2.2 (by decide) ⟨by rw [bI_f h], rfl⟩
theorem c_isRes (sc : X_Sc) (S : X_S) (n : Int64) : X_T sc 55 (0, [(0, .long n)], [], S) (fun v S' => v = some (.int (iI (bI (X_res n)))) ∧ S' = S) := by
  refine T_p xr_55_0 xn_55 (pc' := 1) (ls' := [(0, .long n)]) (st' := [.long n]) rfl ?_
  refine T_p xr_55_1 xn_55 (pc' := 4) (ls' := [(0, .long n)]) (st' := [.long (Int64.ofNat 1918987883), .long n]) rfl ?_
  refine T_lc_eq xr_55_4 xr_55_5 (t := 56) (pc' := 8) rfl rfl (fun c70 => ?_) (fun c70 => ?_)
  · skip
    have c70 : n = (Int64.ofNat 1918987883) := c70
    refine T_p xr_55_56 xn_55 (pc' := 57) (ls' := [(0, .long n)]) (st' := [.int (iI 1)]) rfl ?_
    refine T_p xr_55_57 xn_55 (pc' := 61) (ls' := [(0, .long n)]) (st' := [.int (iI 1)]) rfl ?_
    refine T_iret xr_55_61 xf_55.2.2 (by decide) ?_
    exact ⟨by rw [bI_t (by unfold X_res; first | (left; assumption) | (left; exact Classical.not_not.mp (by assumption)) | (right; left; assumption) | (right; left; exact Classical.not_not.mp (by assumption)) | (right; right; left; assumption) | (right; right; left; exact Classical.not_not.mp (by assumption)) | (right; right; right; left; assumption) | (right; right; right; left; exact Classical.not_not.mp (by assumption)) | (right; right; right; right; left; assumption) | (right; right; right; right; left; exact Classical.not_not.mp (by assumption)) | (right; right; right; right; right; left; assumption) | (right; right; right; right; right; left; exact Classical.not_not.mp (by assumption)) | (right; right; right; right; right; right; assumption) | (right; right; right; right; right; right; exact Classical.not_not.mp (by assumption)))], rfl⟩
  · skip
    have c70 : ¬ (n = (Int64.ofNat 1918987883)) := c70
    refine T_p xr_55_8 xn_55 (pc' := 9) (ls' := [(0, .long n)]) (st' := [.long n]) rfl ?_
    refine T_p xr_55_9 xn_55 (pc' := 12) (ls' := [(0, .long n)]) (st' := [.long (Int64.ofNat 32766990153442674), .long n]) rfl ?_
    refine T_lc_eq xr_55_12 xr_55_13 (t := 56) (pc' := 16) rfl rfl (fun c71 => ?_) (fun c71 => ?_)
    · skip
      have c71 : n = (Int64.ofNat 32766990153442674) := c71
      refine T_p xr_55_56 xn_55 (pc' := 57) (ls' := [(0, .long n)]) (st' := [.int (iI 1)]) rfl ?_
      refine T_p xr_55_57 xn_55 (pc' := 61) (ls' := [(0, .long n)]) (st' := [.int (iI 1)]) rfl ?_
      refine T_iret xr_55_61 xf_55.2.2 (by decide) ?_
      exact ⟨by rw [bI_t (by unfold X_res; first | (left; assumption) | (left; exact Classical.not_not.mp (by assumption)) | (right; left; assumption) | (right; left; exact Classical.not_not.mp (by assumption)) | (right; right; left; assumption) | (right; right; left; exact Classical.not_not.mp (by assumption)) | (right; right; right; left; assumption) | (right; right; right; left; exact Classical.not_not.mp (by assumption)) | (right; right; right; right; left; assumption) | (right; right; right; right; left; exact Classical.not_not.mp (by assumption)) | (right; right; right; right; right; left; assumption) | (right; right; right; right; right; left; exact Classical.not_not.mp (by assumption)) | (right; right; right; right; right; right; assumption) | (right; right; right; right; right; right; exact Classical.not_not.mp (by assumption)))], rfl⟩
    · skip
      have c71 : ¬ (n = (Int64.ofNat 32766990153442674)) := c71
      refine T_p xr_55_16 xn_55 (pc' := 17) (ls' := [(0, .long n)]) (st' := [.long n]) rfl ?_
      refine T_p xr_55_17 xn_55 (pc' := 20) (ls' := [(0, .long n)]) (st' := [.long (Int64.ofNat 1802071652), .long n]) rfl ?_
      refine T_lc_eq xr_55_20 xr_55_21 (t := 56) (pc' := 24) rfl rfl (fun c72 => ?_) (fun c72 => ?_)
      · skip
        have c72 : n = (Int64.ofNat 1802071652) := c72
        refine T_p xr_55_56 xn_55 (pc' := 57) (ls' := [(0, .long n)]) (st' := [.int (iI 1)]) rfl ?_
        refine T_p xr_55_57 xn_55 (pc' := 61) (ls' := [(0, .long n)]) (st' := [.int (iI 1)]) rfl ?_
        refine T_iret xr_55_61 xf_55.2.2 (by decide) ?_
        exact ⟨by rw [bI_t (by unfold X_res; first | (left; assumption) | (left; exact Classical.not_not.mp (by assumption)) | (right; left; assumption) | (right; left; exact Classical.not_not.mp (by assumption)) | (right; right; left; assumption) | (right; right; left; exact Classical.not_not.mp (by assumption)) | (right; right; right; left; assumption) | (right; right; right; left; exact Classical.not_not.mp (by assumption)) | (right; right; right; right; left; assumption) | (right; right; right; right; left; exact Classical.not_not.mp (by assumption)) | (right; right; right; right; right; left; assumption) | (right; right; right; right; right; left; exact Classical.not_not.mp (by assumption)) | (right; right; right; right; right; right; assumption) | (right; right; right; right; right; right; exact Classical.not_not.mp (by assumption)))], rfl⟩
      · skip
        have c72 : ¬ (n = (Int64.ofNat 1802071652)) := c72
        refine T_p xr_55_24 xn_55 (pc' := 25) (ls' := [(0, .long n)]) (st' := [.long n]) rfl ?_
        refine T_p xr_55_25 xn_55 (pc' := 28) (ls' := [(0, .long n)]) (st' := [.long (Int64.ofNat 504363246962), .long n]) rfl ?_
        refine T_lc_eq xr_55_28 xr_55_29 (t := 56) (pc' := 32) rfl rfl (fun c73 => ?_) (fun c73 => ?_)
        · skip
          have c73 : n = (Int64.ofNat 504363246962) := c73
          refine T_p xr_55_56 xn_55 (pc' := 57) (ls' := [(0, .long n)]) (st' := [.int (iI 1)]) rfl ?_
          refine T_p xr_55_57 xn_55 (pc' := 61) (ls' := [(0, .long n)]) (st' := [.int (iI 1)]) rfl ?_
          refine T_iret xr_55_61 xf_55.2.2 (by decide) ?_
          exact ⟨by rw [bI_t (by unfold X_res; first | (left; assumption) | (left; exact Classical.not_not.mp (by assumption)) | (right; left; assumption) | (right; left; exact Classical.not_not.mp (by assumption)) | (right; right; left; assumption) | (right; right; left; exact Classical.not_not.mp (by assumption)) | (right; right; right; left; assumption) | (right; right; right; left; exact Classical.not_not.mp (by assumption)) | (right; right; right; right; left; assumption) | (right; right; right; right; left; exact Classical.not_not.mp (by assumption)) | (right; right; right; right; right; left; assumption) | (right; right; right; right; right; left; exact Classical.not_not.mp (by assumption)) | (right; right; right; right; right; right; assumption) | (right; right; right; right; right; right; exact Classical.not_not.mp (by assumption)))], rfl⟩
        · skip
          have c73 : ¬ (n = (Int64.ofNat 504363246962)) := c73
          refine T_p xr_55_32 xn_55 (pc' := 33) (ls' := [(0, .long n)]) (st' := [.long n]) rfl ?_
          refine T_p xr_55_33 xn_55 (pc' := 36) (ls' := [(0, .long n)]) (st' := [.long (Int64.ofNat 2003792484), .long n]) rfl ?_
          refine T_lc_eq xr_55_36 xr_55_37 (t := 56) (pc' := 40) rfl rfl (fun c74 => ?_) (fun c74 => ?_)
          · skip
            have c74 : n = (Int64.ofNat 2003792484) := c74
            refine T_p xr_55_56 xn_55 (pc' := 57) (ls' := [(0, .long n)]) (st' := [.int (iI 1)]) rfl ?_
            refine T_p xr_55_57 xn_55 (pc' := 61) (ls' := [(0, .long n)]) (st' := [.int (iI 1)]) rfl ?_
            refine T_iret xr_55_61 xf_55.2.2 (by decide) ?_
            exact ⟨by rw [bI_t (by unfold X_res; first | (left; assumption) | (left; exact Classical.not_not.mp (by assumption)) | (right; left; assumption) | (right; left; exact Classical.not_not.mp (by assumption)) | (right; right; left; assumption) | (right; right; left; exact Classical.not_not.mp (by assumption)) | (right; right; right; left; assumption) | (right; right; right; left; exact Classical.not_not.mp (by assumption)) | (right; right; right; right; left; assumption) | (right; right; right; right; left; exact Classical.not_not.mp (by assumption)) | (right; right; right; right; right; left; assumption) | (right; right; right; right; right; left; exact Classical.not_not.mp (by assumption)) | (right; right; right; right; right; right; assumption) | (right; right; right; right; right; right; exact Classical.not_not.mp (by assumption)))], rfl⟩
          · skip
            have c74 : ¬ (n = (Int64.ofNat 2003792484)) := c74
            refine T_p xr_55_40 xn_55 (pc' := 41) (ls' := [(0, .long n)]) (st' := [.long n]) rfl ?_
            refine T_p xr_55_41 xn_55 (pc' := 44) (ls' := [(0, .long n)]) (st' := [.long (Int64.ofNat 1818584692), .long n]) rfl ?_
            refine T_lc_eq xr_55_44 xr_55_45 (t := 56) (pc' := 48) rfl rfl (fun c75 => ?_) (fun c75 => ?_)
            · skip
              have c75 : n = (Int64.ofNat 1818584692) := c75
              refine T_p xr_55_56 xn_55 (pc' := 57) (ls' := [(0, .long n)]) (st' := [.int (iI 1)]) rfl ?_
              refine T_p xr_55_57 xn_55 (pc' := 61) (ls' := [(0, .long n)]) (st' := [.int (iI 1)]) rfl ?_
              refine T_iret xr_55_61 xf_55.2.2 (by decide) ?_
              exact ⟨by rw [bI_t (by unfold X_res; first | (left; assumption) | (left; exact Classical.not_not.mp (by assumption)) | (right; left; assumption) | (right; left; exact Classical.not_not.mp (by assumption)) | (right; right; left; assumption) | (right; right; left; exact Classical.not_not.mp (by assumption)) | (right; right; right; left; assumption) | (right; right; right; left; exact Classical.not_not.mp (by assumption)) | (right; right; right; right; left; assumption) | (right; right; right; right; left; exact Classical.not_not.mp (by assumption)) | (right; right; right; right; right; left; assumption) | (right; right; right; right; right; left; exact Classical.not_not.mp (by assumption)) | (right; right; right; right; right; right; assumption) | (right; right; right; right; right; right; exact Classical.not_not.mp (by assumption)))], rfl⟩
            · skip
              have c75 : ¬ (n = (Int64.ofNat 1818584692)) := c75
              refine T_p xr_55_48 xn_55 (pc' := 49) (ls' := [(0, .long n)]) (st' := [.long n]) rfl ?_
              refine T_p xr_55_49 xn_55 (pc' := 52) (ls' := [(0, .long n)]) (st' := [.long (Int64.ofNat 491394656372), .long n]) rfl ?_
              refine T_lc_ne xr_55_52 xr_55_53 (t := 60) (pc' := 56) rfl rfl (fun c76 => ?_) (fun c76 => ?_)
              · skip
                have c76 : ¬ n = (Int64.ofNat 491394656372) := c76
                refine T_p xr_55_60 xn_55 (pc' := 61) (ls' := [(0, .long n)]) (st' := [.int (iI 0)]) rfl ?_
                refine T_iret xr_55_61 xf_55.2.2 (by decide) ?_
                exact ⟨by rw [bI_f (by unfold X_res; rintro (h | h | h | h | h | h | h) <;> contradiction)], rfl⟩
              · skip
                have c76 : ¬ (¬ n = (Int64.ofNat 491394656372)) := c76
                refine T_p xr_55_56 xn_55 (pc' := 57) (ls' := [(0, .long n)]) (st' := [.int (iI 1)]) rfl ?_
                refine T_p xr_55_57 xn_55 (pc' := 61) (ls' := [(0, .long n)]) (st' := [.int (iI 1)]) rfl ?_
                refine T_iret xr_55_61 xf_55.2.2 (by decide) ?_
                exact ⟨by rw [bI_t (by unfold X_res; first | (left; assumption) | (left; exact Classical.not_not.mp (by assumption)) | (right; left; assumption) | (right; left; exact Classical.not_not.mp (by assumption)) | (right; right; left; assumption) | (right; right; left; exact Classical.not_not.mp (by assumption)) | (right; right; right; left; assumption) | (right; right; right; left; exact Classical.not_not.mp (by assumption)) | (right; right; right; right; left; assumption) | (right; right; right; right; left; exact Classical.not_not.mp (by assumption)) | (right; right; right; right; right; left; assumption) | (right; right; right; right; right; left; exact Classical.not_not.mp (by assumption)) | (right; right; right; right; right; right; assumption) | (right; right; right; right; right; right; exact Classical.not_not.mp (by assumption)))], rfl⟩
